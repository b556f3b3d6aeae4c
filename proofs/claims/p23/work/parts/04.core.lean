/-! THE WORDS: one list for all methods, the law's -/
theorem inU_1 : ∀ w ∈ wsL_law0_r1, w ∈ wsL_law := fun _ h => List.mem_append_left _ (List.mem_append_left _ (List.mem_append_left _ (List.mem_append_left _ (List.mem_append_left _ (List.mem_append_left _ (List.mem_append_left _ (List.mem_append_left _ (List.mem_append_left _ (List.mem_append_left _ (List.mem_append_left _ (List.mem_append_left _ (List.mem_append_left _ (List.mem_append_left _ (List.mem_append_left _ (List.mem_append_left _ h)))))))))))))))
theorem inU_2 : ∀ w ∈ wsL_law0_r2, w ∈ wsL_law := fun _ h => List.mem_append_left _ (List.mem_append_left _ (List.mem_append_left _ (List.mem_append_left _ (List.mem_append_left _ (List.mem_append_left _ (List.mem_append_left _ (List.mem_append_left _ (List.mem_append_left _ (List.mem_append_left _ (List.mem_append_left _ (List.mem_append_left _ (List.mem_append_left _ (List.mem_append_left _ (List.mem_append_left _ (List.mem_append_right _ (List.mem_append_left _ h))))))))))))))))
theorem inU_3 : ∀ w ∈ wsL_law0_r3, w ∈ wsL_law := fun _ h => List.mem_append_left _ (List.mem_append_left _ (List.mem_append_left _ (List.mem_append_left _ (List.mem_append_left _ (List.mem_append_left _ (List.mem_append_left _ (List.mem_append_left _ (List.mem_append_left _ (List.mem_append_left _ (List.mem_append_left _ (List.mem_append_left _ (List.mem_append_left _ (List.mem_append_left _ (List.mem_append_left _ (List.mem_append_right _ (List.mem_append_right _ (List.mem_append_left _ h)))))))))))))))))
theorem inU_4 : ∀ w ∈ wsL_law0_r4, w ∈ wsL_law := fun _ h => List.mem_append_left _ (List.mem_append_left _ (List.mem_append_left _ (List.mem_append_left _ (List.mem_append_left _ (List.mem_append_left _ (List.mem_append_left _ (List.mem_append_left _ (List.mem_append_left _ (List.mem_append_left _ (List.mem_append_left _ (List.mem_append_left _ (List.mem_append_left _ (List.mem_append_left _ (List.mem_append_left _ (List.mem_append_right _ (List.mem_append_right _ (List.mem_append_right _ (List.mem_append_left _ h))))))))))))))))))
theorem inU_5 : ∀ w ∈ wsL_law0_r5, w ∈ wsL_law := fun _ h => List.mem_append_left _ (List.mem_append_left _ (List.mem_append_left _ (List.mem_append_left _ (List.mem_append_left _ (List.mem_append_left _ (List.mem_append_left _ (List.mem_append_left _ (List.mem_append_left _ (List.mem_append_left _ (List.mem_append_left _ (List.mem_append_left _ (List.mem_append_left _ (List.mem_append_left _ (List.mem_append_left _ (List.mem_append_right _ (List.mem_append_right _ (List.mem_append_right _ (List.mem_append_right _ (List.mem_append_left _ h)))))))))))))))))))
theorem inU_6 : ∀ w ∈ wsL_law0_r6, w ∈ wsL_law := fun _ h => List.mem_append_left _ (List.mem_append_left _ (List.mem_append_left _ (List.mem_append_left _ (List.mem_append_left _ (List.mem_append_left _ (List.mem_append_left _ (List.mem_append_left _ (List.mem_append_left _ (List.mem_append_left _ (List.mem_append_left _ (List.mem_append_left _ (List.mem_append_left _ (List.mem_append_left _ (List.mem_append_left _ (List.mem_append_right _ (List.mem_append_right _ (List.mem_append_right _ (List.mem_append_right _ (List.mem_append_right _ (List.mem_append_left _ h))))))))))))))))))))
theorem inU_7 : ∀ w ∈ wsL_law0_r7, w ∈ wsL_law := fun _ h => List.mem_append_left _ (List.mem_append_left _ (List.mem_append_left _ (List.mem_append_left _ (List.mem_append_left _ (List.mem_append_left _ (List.mem_append_left _ (List.mem_append_left _ (List.mem_append_left _ (List.mem_append_left _ (List.mem_append_left _ (List.mem_append_left _ (List.mem_append_left _ (List.mem_append_left _ (List.mem_append_left _ (List.mem_append_right _ (List.mem_append_right _ (List.mem_append_right _ (List.mem_append_right _ (List.mem_append_right _ (List.mem_append_right _ (List.mem_append_left _ h)))))))))))))))))))))
theorem inU_8 : ∀ w ∈ wsL_law0_r8, w ∈ wsL_law := fun _ h => List.mem_append_left _ (List.mem_append_left _ (List.mem_append_left _ (List.mem_append_left _ (List.mem_append_left _ (List.mem_append_left _ (List.mem_append_left _ (List.mem_append_left _ (List.mem_append_left _ (List.mem_append_left _ (List.mem_append_left _ (List.mem_append_left _ (List.mem_append_left _ (List.mem_append_left _ (List.mem_append_left _ (List.mem_append_right _ (List.mem_append_right _ (List.mem_append_right _ (List.mem_append_right _ (List.mem_append_right _ (List.mem_append_right _ (List.mem_append_right _ (List.mem_append_left _ h))))))))))))))))))))))
theorem inU_9 : ∀ w ∈ wsL_law0_r9, w ∈ wsL_law := fun _ h => List.mem_append_left _ (List.mem_append_left _ (List.mem_append_left _ (List.mem_append_left _ (List.mem_append_left _ (List.mem_append_left _ (List.mem_append_left _ (List.mem_append_left _ (List.mem_append_left _ (List.mem_append_left _ (List.mem_append_left _ (List.mem_append_left _ (List.mem_append_left _ (List.mem_append_left _ (List.mem_append_left _ (List.mem_append_right _ (List.mem_append_right _ (List.mem_append_right _ (List.mem_append_right _ (List.mem_append_right _ (List.mem_append_right _ (List.mem_append_right _ (List.mem_append_right _ (List.mem_append_left _ h)))))))))))))))))))))))
theorem inU_10 : ∀ w ∈ wsL_law0_r10, w ∈ wsL_law := fun _ h => List.mem_append_left _ (List.mem_append_left _ (List.mem_append_left _ (List.mem_append_left _ (List.mem_append_left _ (List.mem_append_left _ (List.mem_append_left _ (List.mem_append_left _ (List.mem_append_left _ (List.mem_append_left _ (List.mem_append_left _ (List.mem_append_left _ (List.mem_append_left _ (List.mem_append_left _ (List.mem_append_left _ (List.mem_append_right _ (List.mem_append_right _ (List.mem_append_right _ (List.mem_append_right _ (List.mem_append_right _ (List.mem_append_right _ (List.mem_append_right _ (List.mem_append_right _ (List.mem_append_right _ (List.mem_append_left _ h))))))))))))))))))))))))
theorem inU_11 : ∀ w ∈ wsL_law0_r11, w ∈ wsL_law := fun _ h => List.mem_append_left _ (List.mem_append_left _ (List.mem_append_left _ (List.mem_append_left _ (List.mem_append_left _ (List.mem_append_left _ (List.mem_append_left _ (List.mem_append_left _ (List.mem_append_left _ (List.mem_append_left _ (List.mem_append_left _ (List.mem_append_left _ (List.mem_append_left _ (List.mem_append_left _ (List.mem_append_left _ (List.mem_append_right _ (List.mem_append_right _ (List.mem_append_right _ (List.mem_append_right _ (List.mem_append_right _ (List.mem_append_right _ (List.mem_append_right _ (List.mem_append_right _ (List.mem_append_right _ (List.mem_append_right _ (List.mem_append_left _ h)))))))))))))))))))))))))
theorem inU_12 : ∀ w ∈ wsL_law0_r12, w ∈ wsL_law := fun _ h => List.mem_append_left _ (List.mem_append_left _ (List.mem_append_left _ (List.mem_append_left _ (List.mem_append_left _ (List.mem_append_left _ (List.mem_append_left _ (List.mem_append_left _ (List.mem_append_left _ (List.mem_append_left _ (List.mem_append_left _ (List.mem_append_left _ (List.mem_append_left _ (List.mem_append_left _ (List.mem_append_left _ (List.mem_append_right _ (List.mem_append_right _ (List.mem_append_right _ (List.mem_append_right _ (List.mem_append_right _ (List.mem_append_right _ (List.mem_append_right _ (List.mem_append_right _ (List.mem_append_right _ (List.mem_append_right _ (List.mem_append_right _ (List.mem_append_left _ h))))))))))))))))))))))))))
theorem inU_13 : ∀ w ∈ wsL_law0_r13, w ∈ wsL_law := fun _ h => List.mem_append_left _ (List.mem_append_left _ (List.mem_append_left _ (List.mem_append_left _ (List.mem_append_left _ (List.mem_append_left _ (List.mem_append_left _ (List.mem_append_left _ (List.mem_append_left _ (List.mem_append_left _ (List.mem_append_left _ (List.mem_append_left _ (List.mem_append_left _ (List.mem_append_left _ (List.mem_append_left _ (List.mem_append_right _ (List.mem_append_right _ (List.mem_append_right _ (List.mem_append_right _ (List.mem_append_right _ (List.mem_append_right _ (List.mem_append_right _ (List.mem_append_right _ (List.mem_append_right _ (List.mem_append_right _ (List.mem_append_right _ (List.mem_append_right _ (List.mem_append_left _ h)))))))))))))))))))))))))))
theorem inU_14 : ∀ w ∈ wsL_law0_r14, w ∈ wsL_law := fun _ h => List.mem_append_left _ (List.mem_append_left _ (List.mem_append_left _ (List.mem_append_left _ (List.mem_append_left _ (List.mem_append_left _ (List.mem_append_left _ (List.mem_append_left _ (List.mem_append_left _ (List.mem_append_left _ (List.mem_append_left _ (List.mem_append_left _ (List.mem_append_left _ (List.mem_append_left _ (List.mem_append_left _ (List.mem_append_right _ (List.mem_append_right _ (List.mem_append_right _ (List.mem_append_right _ (List.mem_append_right _ (List.mem_append_right _ (List.mem_append_right _ (List.mem_append_right _ (List.mem_append_right _ (List.mem_append_right _ (List.mem_append_right _ (List.mem_append_right _ (List.mem_append_right _ (List.mem_append_left _ h))))))))))))))))))))))))))))
theorem inU_15 : ∀ w ∈ wsL_law0_r15, w ∈ wsL_law := fun _ h => List.mem_append_left _ (List.mem_append_left _ (List.mem_append_left _ (List.mem_append_left _ (List.mem_append_left _ (List.mem_append_left _ (List.mem_append_left _ (List.mem_append_left _ (List.mem_append_left _ (List.mem_append_left _ (List.mem_append_left _ (List.mem_append_left _ (List.mem_append_left _ (List.mem_append_left _ (List.mem_append_left _ (List.mem_append_right _ (List.mem_append_right _ (List.mem_append_right _ (List.mem_append_right _ (List.mem_append_right _ (List.mem_append_right _ (List.mem_append_right _ (List.mem_append_right _ (List.mem_append_right _ (List.mem_append_right _ (List.mem_append_right _ (List.mem_append_right _ (List.mem_append_right _ (List.mem_append_right _ (List.mem_append_left _ h)))))))))))))))))))))))))))))
theorem inU_16 : ∀ w ∈ wsL_law0_r16, w ∈ wsL_law := fun _ h => List.mem_append_left _ (List.mem_append_left _ (List.mem_append_left _ (List.mem_append_left _ (List.mem_append_left _ (List.mem_append_left _ (List.mem_append_left _ (List.mem_append_left _ (List.mem_append_left _ (List.mem_append_left _ (List.mem_append_left _ (List.mem_append_left _ (List.mem_append_left _ (List.mem_append_left _ (List.mem_append_left _ (List.mem_append_right _ (List.mem_append_right _ (List.mem_append_right _ (List.mem_append_right _ (List.mem_append_right _ (List.mem_append_right _ (List.mem_append_right _ (List.mem_append_right _ (List.mem_append_right _ (List.mem_append_right _ (List.mem_append_right _ (List.mem_append_right _ (List.mem_append_right _ (List.mem_append_right _ (List.mem_append_right _ (List.mem_append_left _ h))))))))))))))))))))))))))))))
theorem inU_17 : ∀ w ∈ wsL_law0_r17, w ∈ wsL_law := fun _ h => List.mem_append_left _ (List.mem_append_left _ (List.mem_append_left _ (List.mem_append_left _ (List.mem_append_left _ (List.mem_append_left _ (List.mem_append_left _ (List.mem_append_left _ (List.mem_append_left _ (List.mem_append_left _ (List.mem_append_left _ (List.mem_append_left _ (List.mem_append_left _ (List.mem_append_left _ (List.mem_append_left _ (List.mem_append_right _ (List.mem_append_right _ (List.mem_append_right _ (List.mem_append_right _ (List.mem_append_right _ (List.mem_append_right _ (List.mem_append_right _ (List.mem_append_right _ (List.mem_append_right _ (List.mem_append_right _ (List.mem_append_right _ (List.mem_append_right _ (List.mem_append_right _ (List.mem_append_right _ (List.mem_append_right _ (List.mem_append_right _ (List.mem_append_left _ h)))))))))))))))))))))))))))))))
theorem inU_18 : ∀ w ∈ wsL_law0_r18, w ∈ wsL_law := fun _ h => List.mem_append_left _ (List.mem_append_left _ (List.mem_append_left _ (List.mem_append_left _ (List.mem_append_left _ (List.mem_append_left _ (List.mem_append_left _ (List.mem_append_left _ (List.mem_append_left _ (List.mem_append_left _ (List.mem_append_left _ (List.mem_append_left _ (List.mem_append_left _ (List.mem_append_left _ (List.mem_append_left _ (List.mem_append_right _ (List.mem_append_right _ (List.mem_append_right _ (List.mem_append_right _ (List.mem_append_right _ (List.mem_append_right _ (List.mem_append_right _ (List.mem_append_right _ (List.mem_append_right _ (List.mem_append_right _ (List.mem_append_right _ (List.mem_append_right _ (List.mem_append_right _ (List.mem_append_right _ (List.mem_append_right _ (List.mem_append_right _ (List.mem_append_right _ (List.mem_append_left _ h))))))))))))))))))))))))))))))))
theorem inU_19 : ∀ w ∈ wsL_law0_r19, w ∈ wsL_law := fun _ h => List.mem_append_left _ (List.mem_append_left _ (List.mem_append_left _ (List.mem_append_left _ (List.mem_append_left _ (List.mem_append_left _ (List.mem_append_left _ (List.mem_append_left _ (List.mem_append_left _ (List.mem_append_left _ (List.mem_append_left _ (List.mem_append_left _ (List.mem_append_left _ (List.mem_append_left _ (List.mem_append_left _ (List.mem_append_right _ (List.mem_append_right _ (List.mem_append_right _ (List.mem_append_right _ (List.mem_append_right _ (List.mem_append_right _ (List.mem_append_right _ (List.mem_append_right _ (List.mem_append_right _ (List.mem_append_right _ (List.mem_append_right _ (List.mem_append_right _ (List.mem_append_right _ (List.mem_append_right _ (List.mem_append_right _ (List.mem_append_right _ (List.mem_append_right _ (List.mem_append_right _ (List.mem_append_left _ h)))))))))))))))))))))))))))))))))
theorem inU_20 : ∀ w ∈ wsL_law0_r20, w ∈ wsL_law := fun _ h => List.mem_append_left _ (List.mem_append_left _ (List.mem_append_left _ (List.mem_append_left _ (List.mem_append_left _ (List.mem_append_left _ (List.mem_append_left _ (List.mem_append_left _ (List.mem_append_left _ (List.mem_append_left _ (List.mem_append_left _ (List.mem_append_left _ (List.mem_append_left _ (List.mem_append_left _ (List.mem_append_left _ (List.mem_append_right _ (List.mem_append_right _ (List.mem_append_right _ (List.mem_append_right _ (List.mem_append_right _ (List.mem_append_right _ (List.mem_append_right _ (List.mem_append_right _ (List.mem_append_right _ (List.mem_append_right _ (List.mem_append_right _ (List.mem_append_right _ (List.mem_append_right _ (List.mem_append_right _ (List.mem_append_right _ (List.mem_append_right _ (List.mem_append_right _ (List.mem_append_right _ (List.mem_append_right _ (List.mem_append_left _ h))))))))))))))))))))))))))))))))))
theorem inU_21 : ∀ w ∈ wsL_law0_r21, w ∈ wsL_law := fun _ h => List.mem_append_left _ (List.mem_append_left _ (List.mem_append_left _ (List.mem_append_left _ (List.mem_append_left _ (List.mem_append_left _ (List.mem_append_left _ (List.mem_append_left _ (List.mem_append_left _ (List.mem_append_left _ (List.mem_append_left _ (List.mem_append_left _ (List.mem_append_left _ (List.mem_append_left _ (List.mem_append_left _ (List.mem_append_right _ (List.mem_append_right _ (List.mem_append_right _ (List.mem_append_right _ (List.mem_append_right _ (List.mem_append_right _ (List.mem_append_right _ (List.mem_append_right _ (List.mem_append_right _ (List.mem_append_right _ (List.mem_append_right _ (List.mem_append_right _ (List.mem_append_right _ (List.mem_append_right _ (List.mem_append_right _ (List.mem_append_right _ (List.mem_append_right _ (List.mem_append_right _ (List.mem_append_right _ (List.mem_append_right _ (List.mem_append_left _ h)))))))))))))))))))))))))))))))))))
theorem inU_22 : ∀ w ∈ wsL_law0_r22, w ∈ wsL_law := fun _ h => List.mem_append_left _ (List.mem_append_left _ (List.mem_append_left _ (List.mem_append_left _ (List.mem_append_left _ (List.mem_append_left _ (List.mem_append_left _ (List.mem_append_left _ (List.mem_append_left _ (List.mem_append_left _ (List.mem_append_left _ (List.mem_append_left _ (List.mem_append_left _ (List.mem_append_left _ (List.mem_append_left _ (List.mem_append_right _ (List.mem_append_right _ (List.mem_append_right _ (List.mem_append_right _ (List.mem_append_right _ (List.mem_append_right _ (List.mem_append_right _ (List.mem_append_right _ (List.mem_append_right _ (List.mem_append_right _ (List.mem_append_right _ (List.mem_append_right _ (List.mem_append_right _ (List.mem_append_right _ (List.mem_append_right _ (List.mem_append_right _ (List.mem_append_right _ (List.mem_append_right _ (List.mem_append_right _ (List.mem_append_right _ (List.mem_append_right _ (List.mem_append_left _ h))))))))))))))))))))))))))))))))))))
theorem inU_23 : ∀ w ∈ wsL_law0_r23, w ∈ wsL_law := fun _ h => List.mem_append_left _ (List.mem_append_left _ (List.mem_append_left _ (List.mem_append_left _ (List.mem_append_left _ (List.mem_append_left _ (List.mem_append_left _ (List.mem_append_left _ (List.mem_append_left _ (List.mem_append_left _ (List.mem_append_left _ (List.mem_append_left _ (List.mem_append_left _ (List.mem_append_left _ (List.mem_append_left _ (List.mem_append_right _ (List.mem_append_right _ (List.mem_append_right _ (List.mem_append_right _ (List.mem_append_right _ (List.mem_append_right _ (List.mem_append_right _ (List.mem_append_right _ (List.mem_append_right _ (List.mem_append_right _ (List.mem_append_right _ (List.mem_append_right _ (List.mem_append_right _ (List.mem_append_right _ (List.mem_append_right _ (List.mem_append_right _ (List.mem_append_right _ (List.mem_append_right _ (List.mem_append_right _ (List.mem_append_right _ (List.mem_append_right _ (List.mem_append_right _ (List.mem_append_left _ h)))))))))))))))))))))))))))))))))))))
theorem inU_24 : ∀ w ∈ wsL_law0_r24, w ∈ wsL_law := fun _ h => List.mem_append_left _ (List.mem_append_left _ (List.mem_append_left _ (List.mem_append_left _ (List.mem_append_left _ (List.mem_append_left _ (List.mem_append_left _ (List.mem_append_left _ (List.mem_append_left _ (List.mem_append_left _ (List.mem_append_left _ (List.mem_append_left _ (List.mem_append_left _ (List.mem_append_left _ (List.mem_append_left _ (List.mem_append_right _ (List.mem_append_right _ (List.mem_append_right _ (List.mem_append_right _ (List.mem_append_right _ (List.mem_append_right _ (List.mem_append_right _ (List.mem_append_right _ (List.mem_append_right _ (List.mem_append_right _ (List.mem_append_right _ (List.mem_append_right _ (List.mem_append_right _ (List.mem_append_right _ (List.mem_append_right _ (List.mem_append_right _ (List.mem_append_right _ (List.mem_append_right _ (List.mem_append_right _ (List.mem_append_right _ (List.mem_append_right _ (List.mem_append_right _ (List.mem_append_right _ (List.mem_append_left _ h))))))))))))))))))))))))))))))))))))))
theorem inU_25 : ∀ w ∈ wsL_law0_r25, w ∈ wsL_law := fun _ h => List.mem_append_left _ (List.mem_append_left _ (List.mem_append_left _ (List.mem_append_left _ (List.mem_append_left _ (List.mem_append_left _ (List.mem_append_left _ (List.mem_append_left _ (List.mem_append_left _ (List.mem_append_left _ (List.mem_append_left _ (List.mem_append_left _ (List.mem_append_left _ (List.mem_append_left _ (List.mem_append_left _ (List.mem_append_right _ (List.mem_append_right _ (List.mem_append_right _ (List.mem_append_right _ (List.mem_append_right _ (List.mem_append_right _ (List.mem_append_right _ (List.mem_append_right _ (List.mem_append_right _ (List.mem_append_right _ (List.mem_append_right _ (List.mem_append_right _ (List.mem_append_right _ (List.mem_append_right _ (List.mem_append_right _ (List.mem_append_right _ (List.mem_append_right _ (List.mem_append_right _ (List.mem_append_right _ (List.mem_append_right _ (List.mem_append_right _ (List.mem_append_right _ (List.mem_append_right _ (List.mem_append_right _ (List.mem_append_left _ h)))))))))))))))))))))))))))))))))))))))
theorem inU_26 : ∀ w ∈ wsL_law0_r26, w ∈ wsL_law := fun _ h => List.mem_append_left _ (List.mem_append_left _ (List.mem_append_left _ (List.mem_append_left _ (List.mem_append_left _ (List.mem_append_left _ (List.mem_append_left _ (List.mem_append_left _ (List.mem_append_left _ (List.mem_append_left _ (List.mem_append_left _ (List.mem_append_left _ (List.mem_append_left _ (List.mem_append_left _ (List.mem_append_left _ (List.mem_append_right _ (List.mem_append_right _ (List.mem_append_right _ (List.mem_append_right _ (List.mem_append_right _ (List.mem_append_right _ (List.mem_append_right _ (List.mem_append_right _ (List.mem_append_right _ (List.mem_append_right _ (List.mem_append_right _ (List.mem_append_right _ (List.mem_append_right _ (List.mem_append_right _ (List.mem_append_right _ (List.mem_append_right _ (List.mem_append_right _ (List.mem_append_right _ (List.mem_append_right _ (List.mem_append_right _ (List.mem_append_right _ (List.mem_append_right _ (List.mem_append_right _ (List.mem_append_right _ (List.mem_append_right _ (List.mem_append_left _ h))))))))))))))))))))))))))))))))))))))))
theorem inU_27 : ∀ w ∈ wsL_law0_r27, w ∈ wsL_law := fun _ h => List.mem_append_left _ (List.mem_append_left _ (List.mem_append_left _ (List.mem_append_left _ (List.mem_append_left _ (List.mem_append_left _ (List.mem_append_left _ (List.mem_append_left _ (List.mem_append_left _ (List.mem_append_left _ (List.mem_append_left _ (List.mem_append_left _ (List.mem_append_left _ (List.mem_append_left _ (List.mem_append_left _ (List.mem_append_right _ (List.mem_append_right _ (List.mem_append_right _ (List.mem_append_right _ (List.mem_append_right _ (List.mem_append_right _ (List.mem_append_right _ (List.mem_append_right _ (List.mem_append_right _ (List.mem_append_right _ (List.mem_append_right _ (List.mem_append_right _ (List.mem_append_right _ (List.mem_append_right _ (List.mem_append_right _ (List.mem_append_right _ (List.mem_append_right _ (List.mem_append_right _ (List.mem_append_right _ (List.mem_append_right _ (List.mem_append_right _ (List.mem_append_right _ (List.mem_append_right _ (List.mem_append_right _ (List.mem_append_right _ (List.mem_append_right _ (List.mem_append_left _ h)))))))))))))))))))))))))))))))))))))))))
theorem inU_28 : ∀ w ∈ wsL_law0_r28, w ∈ wsL_law := fun _ h => List.mem_append_left _ (List.mem_append_left _ (List.mem_append_left _ (List.mem_append_left _ (List.mem_append_left _ (List.mem_append_left _ (List.mem_append_left _ (List.mem_append_left _ (List.mem_append_left _ (List.mem_append_left _ (List.mem_append_left _ (List.mem_append_left _ (List.mem_append_left _ (List.mem_append_left _ (List.mem_append_left _ (List.mem_append_right _ (List.mem_append_right _ (List.mem_append_right _ (List.mem_append_right _ (List.mem_append_right _ (List.mem_append_right _ (List.mem_append_right _ (List.mem_append_right _ (List.mem_append_right _ (List.mem_append_right _ (List.mem_append_right _ (List.mem_append_right _ (List.mem_append_right _ (List.mem_append_right _ (List.mem_append_right _ (List.mem_append_right _ (List.mem_append_right _ (List.mem_append_right _ (List.mem_append_right _ (List.mem_append_right _ (List.mem_append_right _ (List.mem_append_right _ (List.mem_append_right _ (List.mem_append_right _ (List.mem_append_right _ (List.mem_append_right _ (List.mem_append_right _ (List.mem_append_left _ h))))))))))))))))))))))))))))))))))))))))))
theorem inU_29 : ∀ w ∈ wsL_law0_r29, w ∈ wsL_law := fun _ h => List.mem_append_left _ (List.mem_append_left _ (List.mem_append_left _ (List.mem_append_left _ (List.mem_append_left _ (List.mem_append_left _ (List.mem_append_left _ (List.mem_append_left _ (List.mem_append_left _ (List.mem_append_left _ (List.mem_append_left _ (List.mem_append_left _ (List.mem_append_left _ (List.mem_append_left _ (List.mem_append_left _ (List.mem_append_right _ (List.mem_append_right _ (List.mem_append_right _ (List.mem_append_right _ (List.mem_append_right _ (List.mem_append_right _ (List.mem_append_right _ (List.mem_append_right _ (List.mem_append_right _ (List.mem_append_right _ (List.mem_append_right _ (List.mem_append_right _ (List.mem_append_right _ (List.mem_append_right _ (List.mem_append_right _ (List.mem_append_right _ (List.mem_append_right _ (List.mem_append_right _ (List.mem_append_right _ (List.mem_append_right _ (List.mem_append_right _ (List.mem_append_right _ (List.mem_append_right _ (List.mem_append_right _ (List.mem_append_right _ (List.mem_append_right _ (List.mem_append_right _ (List.mem_append_right _ h))))))))))))))))))))))))))))))))))))))))))
theorem inlX0 : ∀ w ∈ wsX00, w ∈ wsL_law := fun _ h => List.mem_append_left _ (List.mem_append_left _ (List.mem_append_left _ (List.mem_append_left _ (List.mem_append_left _ (List.mem_append_left _ (List.mem_append_left _ (List.mem_append_left _ (List.mem_append_left _ (List.mem_append_left _ (List.mem_append_left _ (List.mem_append_left _ (List.mem_append_right _ h))))))))))))
theorem inlX1 : ∀ w ∈ wsX10, w ∈ wsL_law := fun _ h => List.mem_append_left _ (List.mem_append_left _ (List.mem_append_left _ (List.mem_append_left _ (List.mem_append_left _ (List.mem_append_left _ (List.mem_append_left _ (List.mem_append_left _ (List.mem_append_left _ (List.mem_append_left _ (List.mem_append_left _ (List.mem_append_right _ h)))))))))))
theorem inlX2 : ∀ w ∈ wsX20, w ∈ wsL_law := fun _ h => List.mem_append_left _ (List.mem_append_left _ (List.mem_append_left _ (List.mem_append_left _ (List.mem_append_left _ (List.mem_append_left _ (List.mem_append_left _ (List.mem_append_left _ (List.mem_append_left _ (List.mem_append_left _ (List.mem_append_right _ h))))))))))
theorem inlX3 : ∀ w ∈ wsX30, w ∈ wsL_law := fun _ h => List.mem_append_left _ (List.mem_append_left _ (List.mem_append_left _ (List.mem_append_left _ (List.mem_append_left _ (List.mem_append_left _ (List.mem_append_left _ (List.mem_append_right _ h)))))))
theorem inlX4 : ∀ w ∈ wsX40, w ∈ wsL_law := fun _ h => List.mem_append_left _ (List.mem_append_left _ (List.mem_append_left _ (List.mem_append_left _ (List.mem_append_left _ (List.mem_append_left _ (List.mem_append_left _ (List.mem_append_left _ (List.mem_append_right _ h))))))))
theorem inlX5 : ∀ w ∈ wsX50, w ∈ wsL_law := fun _ h => List.mem_append_left _ (List.mem_append_left _ (List.mem_append_left _ (List.mem_append_left _ (List.mem_append_left _ (List.mem_append_left _ (List.mem_append_right _ h))))))
theorem inlX6 : ∀ w ∈ wsX60, w ∈ wsL_law := fun _ h => List.mem_append_left _ (List.mem_append_left _ (List.mem_append_left _ (List.mem_append_left _ (List.mem_append_left _ (List.mem_append_left _ (List.mem_append_left _ (List.mem_append_left _ (List.mem_append_left _ (List.mem_append_right _ h)))))))))
theorem inlX7 : ∀ w ∈ wsX70, w ∈ wsL_law := fun _ h => List.mem_append_left _ (List.mem_append_left _ (List.mem_append_left _ (List.mem_append_left _ (List.mem_append_left _ (List.mem_append_left _ (List.mem_append_left _ (List.mem_append_left _ (List.mem_append_left _ (List.mem_append_left _ (List.mem_append_left _ (List.mem_append_left _ (List.mem_append_left _ (List.mem_append_left _ (List.mem_append_right _ h))))))))))))))
theorem inlJ0 : ∀ w ∈ wsJ00, w ∈ wsL_law := fun _ h => List.mem_append_left _ (List.mem_append_left _ (List.mem_append_left _ (List.mem_append_left _ (List.mem_append_right _ h))))
theorem inlJ4 : ∀ w ∈ wsJ40, w ∈ wsL_law := fun _ h => List.mem_append_left _ (List.mem_append_left _ (List.mem_append_left _ (List.mem_append_left _ (List.mem_append_left _ (List.mem_append_right _ h)))))
theorem inlJx4a65c : ∀ w ∈ wsJx4a65c0, w ∈ wsL_law := fun _ h => List.mem_append_left _ (List.mem_append_left _ (List.mem_append_left _ (List.mem_append_left _ (List.mem_append_left _ (List.mem_append_left _ (List.mem_append_left _ (List.mem_append_left _ (List.mem_append_left _ (List.mem_append_left _ (List.mem_append_left _ (List.mem_append_left _ (List.mem_append_left _ (List.mem_append_right _ h)))))))))))))
set_option maxRecDepth 100000 in
theorem wsL_good : ∀ w ∈ wsL_law, (w.onTables && w.keeps) = true ∨ ∃ ty, w = .arrayClass ty := fun w h => good_of_word (List.all_eq_true.mp (show wsL_law.all goodWord = true by decide +kernel) w h)
theorem k_goodIn {y : MethodName} {bytes : ByteArray} {maxL : Nat} {ret : Option FieldType} (h : Cond.code y bytes maxL ret ∈ wsL_law) : GoodIn wsL_law (Cond.code y bytes maxL ret :: wsL_law) := fun w hw => (List.mem_cons.mp hw).elim (fun e => by rw [e]; exact ⟨h, wsL_good _ h⟩) (fun h2 => ⟨h2, wsL_good w h2⟩)
section KW0
variable {R : Room} {s : State} {args : Array Value} {own C : String} {index maxL mc ms : Nat} {y : MethodName} {bytes : ByteArray} {ret : Option FieldType} {rm : Room}
theorem k_cwV (n : Nat) (ht : ∀ w ∈ wsL_law, w.before args s = true) (hl : Cond.methodLink own index y ∈ wsL_law) (hi : Cond.instanceMethod y ∈ wsL_law) (hse : Cond.selects C y y ∈ wsL_law) (hini : Cond.initialized y.cls ∈ wsL_law) (hc : Cond.code y bytes maxL ret ∈ wsL_law) (hrc : rm.cells = mc) (hrs : rm.slots = ms)
    (hd : y.cls ≠ "java/lang/invoke/MethodHandle" ∧ y.cls ≠ "java/lang/invoke/VarHandle" ∧ (parseMethodDescriptor y.desc).map (fun d => d.parameters.length) = some n) (hR : rm.frames + 1 ≤ R.frames ∧ 8 + (maxL + 11) + rm.locals ≤ R.locals) : CallW R s args own C index y bytes maxL ret (Cond.code y bytes maxL ret :: wsL_law) rm mc ms n :=
  ⟨callB_of n ht (k_goodIn hc) rfl hrc hrs (ht _ hini) (ht _ hl) hd hR, ht _ hi, ht _ hse⟩
theorem k_cwS (n : Nat) (ht : ∀ w ∈ wsL_law, w.before args s = true) (hl : Cond.methodLink own index y ∈ wsL_law) (hi : Cond.static y ∈ wsL_law) (hini : Cond.initialized y.cls ∈ wsL_law) (hc : Cond.code y bytes maxL ret ∈ wsL_law) (hrc : rm.cells = mc) (hrs : rm.slots = ms)
    (hd : y.cls ≠ "java/lang/invoke/MethodHandle" ∧ y.cls ≠ "java/lang/invoke/VarHandle" ∧ (parseMethodDescriptor y.desc).map (fun d => d.parameters.length) = some n) (hR : rm.frames + 1 ≤ R.frames ∧ 8 + (maxL + 11) + rm.locals ≤ R.locals) : CallB R s args own index y bytes maxL ret (Cond.code y bytes maxL ret :: wsL_law) rm mc ms n ∧ (Cond.static y).before args s = true :=
  ⟨callB_of n ht (k_goodIn hc) rfl hrc hrs (ht _ hini) (ht _ hl) hd hR, ht _ hi⟩
theorem k_cwI (n : Nat) (ht : ∀ w ∈ wsL_law, w.before args s = true) (hl : Cond.methodLink own index y ∈ wsL_law) (hi : Cond.instanceMethod y ∈ wsL_law) (hini : Cond.initialized y.cls ∈ wsL_law) (hc : Cond.code y bytes maxL none ∈ wsL_law) (hrc : rm.cells = mc) (hrs : rm.slots = ms) (hy1 : y.name = "<init>")
    (hd : y.cls ≠ "java/lang/invoke/MethodHandle" ∧ y.cls ≠ "java/lang/invoke/VarHandle" ∧ (parseMethodDescriptor y.desc).map (fun d => d.parameters.length) = some n) (hR : rm.frames + 1 ≤ R.frames ∧ 8 + (maxL + 11) + rm.locals ≤ R.locals) : CallB R s args own index y bytes maxL none (Cond.code y bytes maxL none :: wsL_law) rm mc ms n ∧ y.name = "<init>" ∧ (Cond.instanceMethod y).before args s = true :=
  ⟨callB_of n ht (k_goodIn hc) rfl hrc hrs (ht _ hini) (ht _ hl) hd hR, hy1, ht _ hi⟩
end KW0
/-! THE CORE: worlds by tags. A world is what each tag (kind, index) holds, and where: ct k i, ad k i. What lies below E's heap is never written. -/
abbrev kG : Type := va_G × (ClassId × ClassId × ClassId × ClassId × ClassId × Nat)
def kTy (G : kG) : List (ClassId × FieldType) := [(G.2.1, .byte), (G.2.2.1, .int), (G.2.2.1, .int), (G.2.2.2.2.1, .object "java/lang/Object")]
abbrev kAd : Type := Nat → Nat → Nat
abbrev kCt : Type := Nat → Nat → Option va_E
def kW (b : Nat) (G : kG) (ad : kAd) (ct : kCt) (H : Heap) : Prop := b ≤ H.size ∧ (∀ (k i : Nat) (e : va_E), ct k i = some e → va_at G.1 vwCl (ad k i, e) H ∧ b ≤ ad k i) ∧ ∀ (k i k' i' : Nat) (e e' : va_E), ct k i = some e → ct k' i' = some e' → ad k i = ad k' i' → k = k' ∧ i = i'
def kB (b : Nat) : Nat → Prop := fun q => b ≤ q
def kM (E s : State) : Prop := E.WarmedH s.vm ∧ E.heap.size ≤ s.heap.size ∧ ∀ q : Nat, q < E.heap.size → s.heap[q]? = E.heap[q]?
def kX (E : State) (G : kG) (s : State) (H : Heap) (locs : List Loc) (ad : kAd) (ct : kCt) : Prop := kW E.heap.size G ad ct H ∧ va_S (kB E.heap.size) s.heap H locs
def kZ (p : Program) (m : MethodId) (c : Code) (cc : ByteArray) (nL : Nat) (s : State) (args : Array Value) (Ts : List Cond) (own : String) (E : State) (G : kG) : Prop := CallFix p m c cc nL s args Ts own ∧ kM E s ∧ va_K G.1 vwCl (kTy G) s
def kPre (E : State) (G : kG) (ad : kAd) (ct : kCt) (U : State) : Prop := kM E U ∧ va_K G.1 vwCl (kTy G) U ∧ kW E.heap.size G ad ct U.heap
def cup (ct : kCt) (k i : Nat) (e : va_E) : kCt := fun k' i' => if k' = k ∧ i' = i then some e else ct k' i'
def aup (ad : kAd) (k i q : Nat) : kAd := fun k' i' => if k' = k ∧ i' = i then q else ad k' i'
theorem cup_s {ct : kCt} {k i : Nat} {e : va_E} : cup ct k i e k i = some e := by simp [cup]
theorem cup_n {ct : kCt} {k i k' i' : Nat} {e : va_E} (h : ¬ (k' = k ∧ i' = i)) : cup ct k i e k' i' = ct k' i' := by simp [cup, h]
theorem cup_cup {ct : kCt} {k i : Nat} {e e' : va_E} : cup (cup ct k i e) k i e' = cup ct k i e' := by
  funext a b
  by_cases h : a = k ∧ b = i <;> simp [cup, h]
theorem aup_s {ad : kAd} {k i q : Nat} : aup ad k i q k i = q := by simp [aup]
theorem aup_n {ad : kAd} {k i k' i' q : Nat} (h : ¬ (k' = k ∧ i' = i)) : aup ad k i q k' i' = ad k' i' := by simp [aup, h]
theorem kW.at {b : Nat} {G : kG} {ad : kAd} {ct : kCt} {H : Heap} (h : kW b G ad ct H) {k i : Nat} {e : va_E} (hc : ct k i = some e) : va_P G.1 vwCl [(ad k i, e)] H := by
  intro j q hj
  have hz : j < 1 := (List.getElem?_eq_some_iff.mp hj).1
  rw [show j = 0 by omega] at hj
  cases hj
  exact (h.2.1 k i e hc).1
/-- one cell written -/
theorem kW.put {b : Nat} {G : kG} {ad : kAd} {ct : kCt} {H H1 : Heap} {k i : Nat} {e0 e : va_E} (h : kW b G ad ct H) (hc : ct k i = some e0) (z : H1.size = H.size) (he : va_at G.1 vwCl (ad k i, e) H1) (oq : ∀ q : Nat, q ≠ ad k i → H1[q]? = H[q]?) : kW b G ad (cup ct k i e) H1 := by
  obtain ⟨h1, h2, h3⟩ := h
  have key : ∀ (k' i' : Nat) (e' : va_E), cup ct k i e k' i' = some e' → (k' = k ∧ i' = i ∧ e' = e) ∨ (¬ (k' = k ∧ i' = i) ∧ ct k' i' = some e') := by
    intro k' i' e' hh
    by_cases hx : k' = k ∧ i' = i
    · rw [hx.1, hx.2, cup_s] at hh
      exact Or.inl ⟨hx.1, hx.2, (Option.some.inj hh).symm⟩
    · rw [cup_n hx] at hh
      exact Or.inr ⟨hx, hh⟩
  have key2 : ∀ (k' i' : Nat) (e' : va_E), cup ct k i e k' i' = some e' → ∃ e2, ct k' i' = some e2 := by
    intro k' i' e' hh
    rcases key k' i' e' hh with ⟨r1, r2, -⟩ | ⟨-, r⟩
    · rw [r1, r2]; exact ⟨_, hc⟩
    · exact ⟨_, r⟩
  refine ⟨by rw [z]; exact h1, fun k' i' e' hh => ?_, fun k1 i1 k2 i2 e1 e2 g1 g2 g3 => ?_⟩
  · rcases key k' i' e' hh with ⟨r1, r2, r3⟩ | ⟨r1, r2⟩
    · rw [r1, r2, r3]; exact ⟨he, (h2 k i e0 hc).2⟩
    · have hne : ad k' i' ≠ ad k i := fun z => r1 (h3 k' i' k i e' e0 r2 hc z)
      exact ⟨(h2 k' i' e' r2).1.kept (oq _ hne), (h2 k' i' e' r2).2⟩
  · obtain ⟨x1, y1⟩ := key2 k1 i1 e1 g1
    obtain ⟨x2, y2⟩ := key2 k2 i2 e2 g2
    exact h3 k1 i1 k2 i2 x1 x2 y1 y2 g3
/-- a cell that comes: under a tag that holds nothing, or whose thing is given up -/
theorem kW.push {b : Nat} {G : kG} {ad : kAd} {ct : kCt} {H H1 : Heap} {k i : Nat} {e : va_E} (h : kW b G ad ct H) (z : H1.size = H.size + 1) (he : va_at G.1 vwCl (H.size, e) H1) (oq : ∀ q : Nat, q < H.size → H1[q]? = H[q]?) : kW b G (aup ad k i H.size) (cup ct k i e) H1 := by
  obtain ⟨h1, h2, h3⟩ := h
  have key : ∀ (k' i' : Nat) (e' : va_E), cup ct k i e k' i' = some e' → (k' = k ∧ i' = i ∧ e' = e ∧ aup ad k i H.size k' i' = H.size) ∨ (¬ (k' = k ∧ i' = i) ∧ ct k' i' = some e' ∧ aup ad k i H.size k' i' = ad k' i' ∧ ad k' i' < H.size) := by
    intro k' i' e' hh
    by_cases hx : k' = k ∧ i' = i
    · rw [hx.1, hx.2, cup_s] at hh
      exact Or.inl ⟨hx.1, hx.2, (Option.some.inj hh).symm, by rw [hx.1, hx.2, aup_s]⟩
    · rw [cup_n hx] at hh
      exact Or.inr ⟨hx, hh, aup_n hx, (h2 k' i' e' hh).1.lt⟩
  refine ⟨by omega, fun k' i' e' hh => ?_, fun k1 i1 k2 i2 e1 e2 g1 g2 g3 => ?_⟩
  · rcases key k' i' e' hh with ⟨r1, r2, r3, r4⟩ | ⟨r1, r2, r3, r4⟩
    · rw [r4, r3]; exact ⟨he, h1⟩
    · rw [r3]; exact ⟨(h2 k' i' e' r2).1.kept (oq _ r4), (h2 k' i' e' r2).2⟩
  · rcases key k1 i1 e1 g1 with ⟨r1, r2, r3, r4⟩ | ⟨r1, r2, r3, r4⟩ <;> rcases key k2 i2 e2 g2 with ⟨q1, q2, q3, q4⟩ | ⟨q1, q2, q3, q4⟩
    · exact ⟨r1.trans q1.symm, r2.trans q2.symm⟩
    · rw [r4, q3] at g3; omega
    · rw [r3, q4] at g3; omega
    · rw [r3, q3] at g3; exact h3 k1 i1 k2 i2 e1 e2 r2 q2 g3
/-- cells that are told no more -/
theorem kW.drop {b : Nat} {G : kG} {ad ad' : kAd} {ct ct' : kCt} {H : Heap} (h : kW b G ad ct H) (hc : ∀ (k i : Nat) (e : va_E), ct' k i = some e → ct k i = some e ∧ ad' k i = ad k i) : kW b G ad' ct' H := by
  refine ⟨h.1, fun k i e hh => ?_, fun k i k' i' e e' g1 g2 g3 => ?_⟩
  · obtain ⟨r1, r2⟩ := hc k i e hh
    rw [r2]; exact h.2.1 k i e r1
  · obtain ⟨r1, r2⟩ := hc k i e g1
    obtain ⟨q1, q2⟩ := hc k' i' e' g2
    exact h.2.2 k i k' i' e e' r1 q1 (by rw [← r2, ← q2]; exact g3)
theorem kW.kept {b : Nat} {G : kG} {ad : kAd} {ct : kCt} {H H1 : Heap} (h : kW b G ad ct H) (hz : H.size ≤ H1.size) (oq : ∀ q : Nat, q < H.size → H1[q]? = H[q]?) : kW b G ad ct H1 :=
  ⟨Nat.le_trans h.1 hz, fun k i e hh => ⟨(h.2.1 k i e hh).1.kept (oq _ (h.2.1 k i e hh).1.lt), (h.2.1 k i e hh).2⟩, h.2.2⟩
theorem kX.drop {E : State} {G : kG} {s : State} {H : Heap} {locs : List Loc} {ad ad' : kAd} {ct ct' : kCt} (h : kX E G s H locs ad ct) (hc : ∀ (k i : Nat) (e : va_E), ct' k i = some e → ct k i = some e ∧ ad' k i = ad k i) : kX E G s H locs ad' ct' := ⟨h.1.drop hc, h.2⟩
theorem kX.eq {E : State} {G : kG} {s : State} {H : Heap} {locs : List Loc} {ad : kAd} {ct ct' : kCt} (h : kX E G s H locs ad ct) (e : ct = ct') : kX E G s H locs ad ct' := e ▸ h
theorem kX.of {E : State} {G : kG} {s : State} {ad : kAd} {ct : kCt} (h : kW E.heap.size G ad ct s.heap) : kX E G s s.heap [] ad ct := ⟨h, va_S.rf⟩
theorem kPre.at {E : State} {G : kG} {s : State} {H : Heap} {locs : List Loc} {ad : kAd} {ct : kCt} (hM : kM E s) (hK : va_K G.1 vwCl (kTy G) s) (h : kX E G s H locs ad ct) {U : State} (hU : U.heap = H) (hW : s.WarmedH U.vm) : kPre E G ad ct U := by
  refine ⟨⟨hM.1.trans hW, by rw [hU]; exact Nat.le_trans hM.2.1 h.2.1, fun q hq => ?_⟩, va_K.moved hW.alike hK, by rw [hU]; exact h.1⟩
  rw [hU, h.2.2.1 q (Nat.lt_of_lt_of_le hq hM.2.1) (Nat.not_le.mpr hq)]
  exact hM.2.2 q hq
theorem kBlind {E : State} {G : kG} {ad : kAd} {ct : kCt} {av : List Value} : FrameBlind (va_Pc av (kPre E G ad ct)) := by
  intro a U g mk q
  obtain ⟨q1, ⟨q2, q3, q4⟩, q5, q6⟩ := q
  exact ⟨q1, ⟨q2, q3, q4⟩, va_K.moved (u := U) (U := U.calling g mk a) (Vm.Alike.refl U.vm) q5, q6⟩
section KR
variable {p : Program} {l : Launch} {e : Env} {R : Room} {s : State} {m : MethodId} {args : Array Value} {below : List Frame} {meth : Method} {c : Code} {H : Heap} {locs : List Loc} {cells slots : Nat} {Q : State → Prop}
variable {cc : ByteArray} {nL : Nat} {Ts : List Cond} {own : String} {E : State} {G : kG} {ad : kAd} {ct : kCt} {pc : Nat} {ls : Array Slot} {rest : List Value}
theorem k_recv {k i ci : Nat} {r : vw_C} {fs : List Value} (Z : kZ p m c cc nL s args Ts own E G) (X : kX E G s H locs ad ct) (hc : ct k i = some (.inr (ci, fs))) (hcl : vwCl[ci]? = some r) : ∃ cell : Cell, H[ad k i]? = some cell ∧ cell.vm.isStatics = false ∧ s.vm.findClass r.1 = some cell.cls :=
  va_recv (q0 := 0) Z.2.2 (X.1.at hc) hcl rfl
theorem k_get {C ref : String} {T : u_T} {N ci k i j index : Nat} {fs : List Value} {v : Value} (Z : kZ p m c cc nL s args Ts own E G) (X : kX E G s H locs ad ct) (hc : ct k i = some (.inr (ci, fs))) (hin : ∀ w ∈ u_ws C T N, w ∈ Ts) (hcl : vwCl[ci]? = some (C, T, N)) (hj : j < N) (hlink : Cond.fieldLink own index ref (T j).2.1 (T j).2.2.1 ∈ Ts) (hsame : ∀ x, s.fieldFound? (T j).1 (T j).2.1 (T j).2.2.1 = some x → s.fieldFound? ref (T j).2.1 (T j).2.2.1 = some x) (hv : fs[j]? = some v) (hdg : decode cc pc = .ok (.getfield index, 3))
    (kk : W p l e R s m args below meth c H locs cells slots Q (F0 m (pc + 3) ls (v :: rest))) : W p l e R s m args below meth c H locs cells slots Q (F0 m pc ls (.ref (ad k i) :: rest)) :=
  va_get (D := G.1) Z.1.1 Z.1.2.1 Z.1.2.2.2.2 hin Z.1.2.2.2.1 Z.2.2 (X.1.at hc) 0 rfl hcl j hj (Z.1.2.2.2.2 _ hlink) hsame hv hdg kk
theorem k_put {C ref : String} {T : u_T} {N ci k i j index : Nat} {fs : List Value} {v : Value} {ty0 : Nat → FieldType} (Z : kZ p m c cc nL s args Ts own E G) (X : kX E G s H locs ad ct) (hc : ct k i = some (.inr (ci, fs))) (hin : ∀ w ∈ u_ws C T N, w ∈ Ts) (hty : ∀ k, k < N → parseFieldDescriptor (T k).2.2.1 = some (ty0 k)) (hnm : ∀ a, a < N → ∀ b, b < N → a ≠ b → (T a).2.1 ≠ (T b).2.1) (hcl : vwCl[ci]? = some (C, T, N)) (hj : j < N) (hlink : Cond.fieldLink own index ref (T j).2.1 (T j).2.2.1 ∈ Ts) (hsame : ∀ x, s.fieldFound? (T j).1 (T j).2.1 (T j).2.2.1 = some x → s.fieldFound? ref (T j).2.1 (T j).2.2.1 = some x) (hfin : (T j).2.2.2 = false) (hl : j < fs.length) (hn : narrow (ty0 j) v = v) (hfit : fits (ty0 j) v = true) (hdg : decode cc pc = .ok (.putfield index, 3))
    (kk : ∀ (H1 : Heap) (locs1 : List Loc), kX E G s H1 locs1 ad (cup ct k i (.inr (ci, fs.set j v))) → W p l e R s m args below meth c H1 locs1 cells slots Q (F0 m (pc + 3) ls rest)) : W p l e R s m args below meth c H locs cells slots Q (F0 m pc ls (v :: .ref (ad k i) :: rest)) := by
  obtain ⟨⟨hexec, hb, hml, hown, hts⟩, hM, hK⟩ := Z
  have hap := va_apart (own := own) hts hin ty0 hty hnm hK hcl
  obtain ⟨⟨r, h1, cell, q1, q2, q3, q4⟩, hba⟩ := X.1.2.1 k i _ hc
  have hr : r = (C, T, N) := Option.some.inj (h1.symm.trans hcl)
  subst hr
  obtain ⟨hS, hfc, kC, hkC, hkind⟩ := hK.1 ci _ hcl
  obtain ⟨cf, kf, fi, f, hi, hsl⟩ := hS j hj
  have hlay := hts _ (hin _ (u_in_lay hj))
  unfold u_lay at hlay
  rw [if_neg (by rw [hfin]; decide)] at hlay
  have hst := (u_facts hfc hkC (u_lays hts hin hj) hi).1
  have h6 := u_store hfc hkC hkind hlay hi (hty j hj) hn hfit
  refine W.putK hexec hb (f := f) ⟨hown, hts _ hlink, ⟨_, _, _, hsame _ hi⟩, hst⟩ (by rw [q2]; exact h6) q1 q3 (by rw [hsl]; exact k2_hasslot (q4 j hj)) rfl rfl hdg fun H' e1 e2 e3 => ?_
  rw [hsl] at e1 ⊢
  exact kk H' _ ⟨X.1.put hc e2 ⟨_, hcl, t_OB.to (V := updV (vp_V fs) j v) ⟨_, e1, q2, q3, t_set q4 hap hj v⟩ (fun j2 _ => vp_updV_set hl v j2)⟩ e3, X.2.put e2 e3 hba⟩
theorem k_putF {C : String} {T : u_T} {N ci k i j index : Nat} {fs : List Value} {v : Value} {ty0 : Nat → FieldType} (Z : kZ p m c cc nL s args Ts own E G) (X : kX E G s H locs ad ct) (hc : ct k i = some (.inr (ci, fs))) (hin : ∀ w ∈ u_ws C T N, w ∈ Ts) (hty : ∀ k, k < N → parseFieldDescriptor (T k).2.2.1 = some (ty0 k)) (hnm : ∀ a, a < N → ∀ b, b < N → a ≠ b → (T a).2.1 ≠ (T b).2.1) (hcl : vwCl[ci]? = some (C, T, N)) (hj : j < N) (hlink : Cond.fieldLink own index (T j).1 (T j).2.1 (T j).2.2.1 ∈ Ts) (hfin : (T j).2.2.2 = true) (hin2 : meth.name = "<init>") (hdecl : (T j).1 = own) (hl : j < fs.length) (hn : narrow (ty0 j) v = v) (hfit : fits (ty0 j) v = true) (hdg : decode cc pc = .ok (.putfield index, 3))
    (kk : ∀ (H1 : Heap) (locs1 : List Loc), kX E G s H1 locs1 ad (cup ct k i (.inr (ci, fs.set j v))) → W p l e R s m args below meth c H1 locs1 cells slots Q (F0 m (pc + 3) ls rest)) : W p l e R s m args below meth c H locs cells slots Q (F0 m pc ls (v :: .ref (ad k i) :: rest)) := by
  obtain ⟨⟨hexec, hb, hml, hown, hts⟩, hM, hK⟩ := Z
  have hap := va_apart (own := own) hts hin ty0 hty hnm hK hcl
  obtain ⟨⟨r, h1, cell, q1, q2, q3, q4⟩, hba⟩ := X.1.2.1 k i _ hc
  have hr : r = (C, T, N) := Option.some.inj (h1.symm.trans hcl)
  subst hr
  obtain ⟨hS, hfc, kC, hkC, hkind⟩ := hK.1 ci _ hcl
  obtain ⟨cf, kf, fi, f, hi, hsl⟩ := hS j hj
  have hlay := hts _ (hin _ (u_in_lay hj))
  unfold u_lay at hlay
  rw [if_pos hfin] at hlay
  have hst := (u_facts hfc hkC (u_lays hts hin hj) hi).1
  have hcf : m.cls = cf := by
    obtain ⟨_, _, c', _, _, _, -, -, hf', -, -, -, hown2, -⟩ := Cond.laysFinal_spec hlay
    have e1 : c' = cf := by have := hi.symm.trans hf'; simp at this; exact this.1.symm
    rw [hdecl] at hown2
    rw [← e1]; exact Option.some.inj (hown.symm.trans hown2)
  have h6 := u_fits hfc hkC hkind (Or.inr hlay) hi (hty j hj) hn hfit
  refine W.putFinK hexec hb hown (hts _ hlink) hi hst hcf hin2 (by rw [q2]; exact h6) q1 q3 (by rw [hsl]; exact k2_hasslot (q4 j hj)) rfl rfl hdg fun H' e1 e2 e3 => ?_
  rw [hsl] at e1 ⊢
  exact kk H' _ ⟨X.1.put hc e2 ⟨_, hcl, t_OB.to (V := updV (vp_V fs) j v) ⟨_, e1, q2, q3, t_set q4 hap hj v⟩ (fun j2 _ => vp_updV_set hl v j2)⟩ e3, X.2.put e2 e3 hba⟩
theorem k_ild {k i n : Nat} {f : Nat → Int32} {x : Int32} (Z : kZ p m c cc nL s args Ts own E G) (X : kX E G s H locs ad ct) (hc : ct k i = some (.inl (G.2.2.1, n, .inl f))) (hx : vp_in x n) (hdg : decode cc pc = .ok (.iaload, 1))
    (kk : W p l e R s m args below meth c H locs cells slots Q (F0 m (pc + 1) ls (.int (f x.toNatClampNeg) :: rest))) : W p l e R s m args below meth c H locs cells slots Q (F0 m pc ls (.int x :: .ref (ad k i) :: rest)) :=
  va_iald (tys := kTy G) Z.1.1 Z.1.2.1 Z.2.2 (X.1.at hc) 0 1 rfl rfl hx hdg kk
theorem k_bld {k i n : Nat} {f : Nat → Int32} {x : Int32} (Z : kZ p m c cc nL s args Ts own E G) (X : kX E G s H locs ad ct) (hc : ct k i = some (.inl (G.2.1, n, .inl f))) (hx : vp_in x n) (hdg : decode cc pc = .ok (.baload, 1))
    (kk : W p l e R s m args below meth c H locs cells slots Q (F0 m (pc + 1) ls (.int (f x.toNatClampNeg) :: rest))) : W p l e R s m args below meth c H locs cells slots Q (F0 m pc ls (.int x :: .ref (ad k i) :: rest)) :=
  va_bald (tys := kTy G) Z.1.1 Z.1.2.1 Z.2.2 (X.1.at hc) 0 0 rfl rfl hx hdg kk
theorem k_ald {k i n : Nat} {f : Nat → Option Nat} {x : Int32} (Z : kZ p m c cc nL s args Ts own E G) (X : kX E G s H locs ad ct) (hc : ct k i = some (.inl (G.2.2.2.2.1, n, .inr (.inr (.inr (.inr f)))))) (hx : vp_in x n) (hdg : decode cc pc = .ok (.aaload, 1))
    (kk : W p l e R s m args below meth c H locs cells slots Q (F0 m (pc + 1) ls (va_rf (f x.toNatClampNeg) :: rest))) : W p l e R s m args below meth c H locs cells slots Q (F0 m pc ls (.int x :: .ref (ad k i) :: rest)) :=
  va_aldq (tys := kTy G) Z.1.1 Z.1.2.1 Z.2.2 (X.1.at hc) 0 3 rfl rfl hx hdg kk
theorem k_len {k i t0 : Nat} {cA : ClassId} {x : vp_A} {ty : FieldType} {v : Int32} (Z : kZ p m c cc nL s args Ts own E G) (X : kX E G s H locs ad ct) (hc : ct k i = some (.inl (cA, x))) (ht : (kTy G)[t0]? = some (cA, ty)) (hv : Int32.ofNat x.1 = v) (hdg : decode cc pc = .ok (.arraylength, 1))
    (kk : W p l e R s m args below meth c H locs cells slots Q (F0 m (pc + 1) ls (.int v :: rest))) : W p l e R s m args below meth c H locs cells slots Q (F0 m pc ls (.ref (ad k i) :: rest)) :=
  va_alen (tys := kTy G) Z.1.1 Z.1.2.1 Z.2.2 (X.1.at hc) 0 t0 rfl ht hv hdg kk
theorem k_ist {k i n : Nat} {f : Nat → Int32} {x v : Int32} (Z : kZ p m c cc nL s args Ts own E G) (X : kX E G s H locs ad ct) (hc : ct k i = some (.inl (G.2.2.1, n, .inl f))) (hx : vp_in x n) (hdg : decode cc pc = .ok (.iastore, 1))
    (kk : ∀ (H1 : Heap) (locs1 : List Loc), kX E G s H1 locs1 ad (cup ct k i (.inl (G.2.2.1, n, .inl (upd f x.toNatClampNeg v)))) → W p l e R s m args below meth c H1 locs1 cells slots Q (F0 m (pc + 1) ls rest)) : W p l e R s m args below meth c H locs cells slots Q (F0 m pc ls (.int v :: .int x :: .ref (ad k i) :: rest)) := by
  refine W.iast Z.1.1 Z.1.2.1 (X.1.2.1 k i _ hc).1 ((Z.2.2.2 1 _ rfl).1 n (fun j => .int (f j))) (fun q => by cases q) (by show ¬ (x < 0 ∨ (arrV _ _ _).slots.size ≤ _); rw [arrV_size]; exact hx) rfl rfl hdg fun H1 e z oq => ?_
  refine kk H1 _ ⟨X.1.put hc z ?_ oq, X.2.put z oq (X.1.2.1 k i _ hc).2⟩
  show H1[ad k i]? = some (vp_cell _ _)
  rw [e]
  rw [vp_cell_i, vp_cell_i, arrV_store]
  congr 2
  funext q
  by_cases hq : q = x.toNatClampNeg
  · subst hq
    simp [updV, upd]
  · simp [updV, upd, hq]
theorem k_bst {k i n : Nat} {f : Nat → Int32} {x v : Int32} (Z : kZ p m c cc nL s args Ts own E G) (X : kX E G s H locs ad ct) (hc : ct k i = some (.inl (G.2.1, n, .inl f))) (hx : vp_in x n) (hdg : decode cc pc = .ok (.bastore, 1))
    (kk : ∀ (H1 : Heap) (locs1 : List Loc), kX E G s H1 locs1 ad (cup ct k i (.inl (G.2.1, n, .inl (upd f x.toNatClampNeg v.toInt8.toInt32)))) → W p l e R s m args below meth c H1 locs1 cells slots Q (F0 m (pc + 1) ls rest)) : W p l e R s m args below meth c H locs cells slots Q (F0 m pc ls (.int v :: .int x :: .ref (ad k i) :: rest)) := by
  refine W.bast Z.1.1 Z.1.2.1 (X.1.2.1 k i _ hc).1 ((Z.2.2.2 0 _ rfl).1 n (fun j => .int (f j))) (fun q => by cases q) (by show ¬ (x < 0 ∨ (arrV _ _ _).slots.size ≤ _); rw [arrV_size]; exact hx) rfl rfl hdg fun H1 e z oq => ?_
  refine kk H1 _ ⟨X.1.put hc z ?_ oq, X.2.put z oq (X.1.2.1 k i _ hc).2⟩
  show H1[ad k i]? = some (vp_cell _ _)
  rw [e]
  rw [vp_cell_i, vp_cell_i, arrV_store]
  congr 2
  funext q
  by_cases hq : q = x.toNatClampNeg
  · subst hq
    simp [updV, upd]
    try rfl
  · simp [updV, upd, hq]
theorem k_ast {k i n k2 i2 ci : Nat} {r : vw_C} {vs : List Value} {f : Nat → Option Nat} {x : Int32} (Z : kZ p m c cc nL s args Ts own E G) (X : kX E G s H locs ad ct) (hc : ct k i = some (.inl (G.2.2.2.2.1, n, .inr (.inr (.inr (.inr f)))))) (hca : va_Nw (.castable r.1 "java/lang/Object") s) (hv : ct k2 i2 = some (.inr (ci, vs))) (hcl : vwCl[ci]? = some r) (hx : vp_in x n) (hdg : decode cc pc = .ok (.aastore, 1))
    (kk : ∀ (H1 : Heap) (locs1 : List Loc), kX E G s H1 locs1 ad (cup ct k i (.inl (G.2.2.2.2.1, n, .inr (.inr (.inr (.inr (va_up f x.toNatClampNeg (some (ad k2 i2))))))))) → W p l e R s m args below meth c H1 locs1 cells slots Q (F0 m (pc + 1) ls rest)) : W p l e R s m args below meth c H locs cells slots Q (F0 m pc ls (.ref (ad k2 i2) :: .int x :: .ref (ad k i) :: rest)) := by
  have hlt : x.toNatClampNeg < n := Nat.not_le.mp fun q => hx (Or.inr q)
  have h0 : ¬ x < 0 := fun q => hx (Or.inl q)
  obtain ⟨⟨r', hr', cellV, g1, g2, g3, -⟩, -⟩ := X.1.2.1 k2 i2 _ hv
  have hcls := (Z.2.2.1 ci r hcl).2
  obtain ⟨kA, comp, k1, k2', k3, -⟩ := (Z.2.2.2 3 _ rfl).2
  obtain ⟨kE, hkE, -⟩ := Vm.findClass_spec k3
  obtain ⟨c0, t1, f1, f2, f3⟩ := Cond.castable_spec (va_Nw.use (A := args) rfl hca)
  cases hcls.1.symm.trans f1
  cases k3.symm.trans f2
  obtain ⟨kC, hkC, -⟩ := hcls.2
  refine W.aast Z.1.1 Z.1.2.1 (X.1.2.1 k i _ hc).1 (fun q h => by cases h) (fun h => by cases h) k1 k2' rfl hkE ⟨h0, by show _ < (arrV _ _ _).slots.size; rw [arrV_size]; exact hlt⟩ g1 (fun q h => by rw [g3] at h; cases h) (by rw [g2]; exact hkC) (by rw [g2]; exact f3) rfl rfl hdg fun H1 e z oq => ?_
  refine kk H1 _ ⟨X.1.put hc z ?_ oq, X.2.put z oq (X.1.2.1 k i _ hc).2⟩
  show H1[ad k i]? = some (vp_cell _ _)
  rw [e]
  rw [vp_cell_q, vp_cell_q, arrV_store]
  congr 2
  funext q
  by_cases hq : q = x.toNatClampNeg
  · subst hq
    simp [updV, va_up, va_rf]
  · simp [updV, va_up, hq]
theorem va_S.push {A : Nat → Prop} {H0 H H1 : Heap} {locs : List Loc} (h : va_S A H0 H locs) (z : H1.size = H.size + 1) (oq : ∀ q : Nat, q < H.size → H1[q]? = H[q]?) : va_S A H0 H1 locs :=
  ⟨Nat.le_trans h.1 (by omega), fun x h1 h2 => (oq x (Nat.lt_of_lt_of_le h1 h.1)).trans (h.2.1 x h1 h2), h.2.2⟩
theorem k_new {C : String} {T : u_T} {N ci index : Nat} {fs : List Value} {ty0 : Nat → FieldType} (k i : Nat) (Z : kZ p m c cc nL s args Ts own E G) (X : kX E G s H locs ad ct) (hin : ∀ w ∈ u_ws C T N, w ∈ Ts) (hty : ∀ k, k < N → parseFieldDescriptor (T k).2.2.1 = some (ty0 k)) (hcl : vwCl[ci]? = some (C, T, N)) (hlink : Cond.classLink own index C ∈ Ts) (hinst : Cond.instantiable C N ∈ Ts) (hini : Cond.initialized C ∈ Ts) (hfs : ∀ j, j < N → defaultValue (ty0 j) = vp_V fs j) (hcells : cells + 1 ≤ R.cells) (hslots : slots + N ≤ R.slots) (hdg : decode cc pc = .ok (.new index, 3))
    (kk : ∀ (q : Nat) (H1 : Heap), kX E G s H1 locs (aup ad k i q) (cup ct k i (.inr (ci, fs))) → W p l e R s m args below meth c H1 locs (cells + 1) (slots + N) Q (F0 m (pc + 3) ls (.ref q :: rest))) : W p l e R s m args below meth c H locs cells slots Q (F0 m pc ls rest) := by
  obtain ⟨⟨hexec, hb, hml, hown, hts⟩, hM, hK⟩ := Z
  have hKn := hK.1 ci _ hcl
  refine W.newcK hexec hb hown (hts _ hlink) (hts _ hinst) (hts _ hini) rfl hdg hcells hslots hKn.2.1 rfl fun H1 kC hkC e1 z1 o1 => ?_
  exact kk H.size H1 ⟨X.1.push z1 ⟨_, hcl, (u_born ty0 hts hin hKn hkC e1 hty).to hfs⟩ o1, X.2.push z1 o1⟩
theorem k_newa {atype : ArrayType} {ty : FieldType} {t0 N' : Nat} {cA : ClassId} {n : Int32} {a0 : vp_A} (k i : Nat) (Z : kZ p m c cc nL s args Ts own E G) (X : kX E G s H locs ad ct) (harr : Cond.arrayClass (newarray.typeOf atype) ∈ Ts) (hty : newarray.typeOf atype = ty) (ht : (kTy G)[t0]? = some (cA, ty)) (hnm : va_RA s cA ty → s.vm.findClass ("[" ++ ty.toString) = some cA) (ha : vp_cell cA a0 = arrV cA N' (fun _ => defaultValue ty)) (hn : ¬ n < 0) (hN : n.toNatClampNeg = N') (hbytes : N' * componentBytes ty ≤ 536870912) (hcells : cells + 1 ≤ R.cells) (hslots : slots + N' ≤ R.slots) (hdg : decode cc pc = .ok (.newarray atype, 2))
    (kk : ∀ (q : Nat) (H1 : Heap), kX E G s H1 locs (aup ad k i q) (cup ct k i (.inl (cA, a0))) → W p l e R s m args below meth c H1 locs (cells + 1) (slots + N') Q (F0 m (pc + 2) ls (.ref q :: rest))) : W p l e R s m args below meth c H locs cells slots Q (F0 m pc ls (.int n :: rest)) := by
  subst hty
  obtain ⟨⟨hexec, hb, hml, hown, hts⟩, hM, hK⟩ := Z
  refine va_newaK hexec hb (hts _ harr) rfl hdg rfl hn hN hbytes hcells hslots rfl fun H1 cB e1 z1 o1 hAr hNm => ?_
  have he : cB = cA := Option.some.inj (hNm.symm.trans (hnm (hK.2 t0 _ ht).2))
  subst he
  refine kk H.size H1 ⟨X.1.push z1 ?_ o1, X.2.push z1 o1⟩
  show H1[H.size]? = some (vp_cell _ _)
  rw [ha]
  exact e1
theorem k_newq {index N' : Nat} {n : Int32} (k i : Nat) (Z : kZ p m c cc nL s args Ts own E G) (X : kX E G s H locs ad ct) (hlink : Cond.classLink own index "java/lang/Object" ∈ Ts) (hover : va_AO "java/lang/Object" s) (hn : ¬ n < 0) (hN : n.toNatClampNeg = N') (hbytes : N' * 4 ≤ 536870912) (hcells : cells + 1 ≤ R.cells) (hslots : slots + N' ≤ R.slots) (hdg : decode cc pc = .ok (.anewarray index, 3))
    (kk : ∀ (q : Nat) (H1 : Heap), kX E G s H1 locs (aup ad k i q) (cup ct k i (.inl (G.2.2.2.2.1, N', .inr (.inr (.inr (.inr (fun _ => none))))))) → W p l e R s m args below meth c H1 locs (cells + 1) (slots + N') Q (F0 m (pc + 3) ls (.ref q :: rest))) : W p l e R s m args below meth c H locs cells slots Q (F0 m pc ls (.int n :: rest)) := by
  subst hN
  obtain ⟨⟨hexec, hb, hml, hown, hts⟩, hM, hK⟩ := Z
  refine W.anew hexec hb hown (hts _ hlink) (va_AO.use hover) rfl hdg rfl hn hbytes hcells hslots fun cA kA comp f1 f2 f3 f4 => ?_
  generalize hH1 : H.push ({ cls := cA, slots := Array.replicate n.toNatClampNeg .null, vm := .none } : Cell) = H1
  have z1 : H1.size = H.size + 1 := by rw [← hH1, Array.size_push]
  have e1 : H1[H.size]? = some (arrV cA n.toNatClampNeg (fun _ => .null)) := by rw [← hH1, Array.getElem?_push_size, ← arrV_new]
  have o1 : ∀ q : Nat, q < H.size → H1[q]? = H[q]? := fun q hq => by rw [← hH1, Array.getElem?_push, if_neg (Nat.ne_of_lt hq)]
  obtain ⟨kA2, comp2, -, -, -, g4⟩ := (hK.2 3 _ rfl).2
  have he : cA = G.2.2.2.2.1 := Option.some.inj (f1.symm.trans g4)
  subst he
  refine kk H.size H1 ⟨X.1.push z1 ?_ o1, X.2.push z1 o1⟩
  show H1[H.size]? = some (vp_cell _ _)
  rw [vp_cell_q]
  exact e1
end KR
/-- the ends that a method may come to: P tells of the answer and the world behind it -/
def kQi (E : State) (G : kG) (P : Int32 → kAd → kCt → Prop) : Array Value → State → Outcome → State → Prop := va_Qi (fun (r : Int32) (u : kAd × kCt) => P r u.1 u.2) (fun (u : kAd × kCt) (t : State) => kW E.heap.size G u.1 u.2 t.heap) (kB E.heap.size)
def kQv (E : State) (G : kG) (P : kAd → kCt → Prop) : Array Value → State → Outcome → State → Prop := va_Qv (fun (u : kAd × kCt) => P u.1 u.2) (fun (u : kAd × kCt) (t : State) => kW E.heap.size G u.1 u.2 t.heap) (kB E.heap.size)
def kQq (E : State) (G : kG) (P : Option Nat → kAd → kCt → Prop) : Array Value → State → Outcome → State → Prop := va_Qq (fun (r : Option Nat) (u : kAd × kCt) => P r u.1 u.2) (fun (u : kAd × kCt) (t : State) => kW E.heap.size G u.1 u.2 t.heap) (kB E.heap.size)
def kXC (E : State) (G : kG) (P : String → kAd → kCt → Prop) : String → State → State → Prop := vx_X (fun (_ : kAd × kCt) => True) (fun (x : String) (u : kAd × kCt) (t : State) => P x u.1 u.2 ∧ kW E.heap.size G u.1 u.2 t.heap) (kB E.heap.size)
section KCALL
variable {p : Program} {l : Launch} {e : Env} {R : Room} {s : State} {m : MethodId} {args : Array Value} {below : List Frame} {meth : Method} {c : Code} {H : Heap} {locs : List Loc} {cells slots : Nat} {Q : State → Prop}
variable {cc : ByteArray} {nL : Nat} {Ts : List Cond} {own : String} {E : State} {G : kG} {ad : kAd} {ct : kCt} {pc : Nat} {ls : Array Slot} {rest st0 : List Value}
variable {ws : List Cond} {rm : Room} {mc ms index n b maxL : Nat} {y : MethodName} {bytes : ByteArray} {ret : Option FieldType} {C : String} {As : List Value}
theorem k_iret {P : Int32 → kAd → kCt → Prop} {v : Int32} {mc ms : Nat} {ty : FieldType} (Z : kZ p m c cc nL s args Ts own E G) (X : kX E G s H locs ad ct) (hr : meth.sig.returnType = some ty) (hlocks : meth.locks = false) (hn : narrow ty (.int v) = .int v) (hc : cells ≤ mc) (hs : slots ≤ ms) (hdg : decode cc pc = .ok (.ireturn, 1)) (hp : P v ad ct) : W p l e R s m args below meth c H locs cells slots (MQ below (kQi E G P) args s mc ms (kB E.heap.size)) (F0 m pc ls [.int v]) :=
  W.widen hc hs (W.zret Z.1.1 Z.1.2.1 hr hn (fun t ht _ => ⟨⟨v, (ad, ct), rfl, hp, by show kW _ _ _ _ t.heap; rw [ht]; exact X.1⟩, X.2.F ht⟩) X.2.2.2 hdg hlocks)
theorem k_vret {P : kAd → kCt → Prop} {mc ms : Nat} (Z : kZ p m c cc nL s args Ts own E G) (X : kX E G s H locs ad ct) (hr : meth.sig.returnType = none) (hlocks : meth.locks = false) (hc : cells ≤ mc) (hs : slots ≤ ms) (hdg : decode cc pc = .ok (.return_, 1)) (hp : P ad ct) : W p l e R s m args below meth c H locs cells slots (MQ below (kQv E G P) args s mc ms (kB E.heap.size)) (F0 m pc ls []) :=
  W.widen hc hs (W.vret Z.1.1 Z.1.2.1 hr (fun t ht _ => ⟨⟨(ad, ct), rfl, hp, by show kW _ _ _ _ t.heap; rw [ht]; exact X.1⟩, X.2.F ht⟩) X.2.2.2 hdg hlocks)
theorem k_aret {P : Option Nat → kAd → kCt → Prop} {mc ms : Nat} {rt : FieldType} (a : Option Nat) (Z : kZ p m c cc nL s args Ts own E G) (X : kX E G s H locs ad ct) (hr : meth.sig.returnType = some rt) (hlocks : meth.locks = false) (hrt : (∃ n, rt = .object n) ∨ ∃ t, rt = .array t) (hc : cells ≤ mc) (hs : slots ≤ ms) (hdg : decode cc pc = .ok (.areturn, 1)) (hp : P a ad ct) : W p l e R s m args below meth c H locs cells slots (MQ below (kQq E G P) args s mc ms (kB E.heap.size)) (F0 m pc ls [va_rf a]) :=
  W.widen hc hs (W.aret Z.1.1 Z.1.2.1 hr hrt (by cases a; exact Or.inl rfl; exact Or.inr ⟨_, rfl⟩) (fun t ht _ => ⟨⟨a, (ad, ct), rfl, hp, by show kW _ _ _ _ t.heap; rw [ht]; exact X.1⟩, X.2.F ht⟩) X.2.2.2 hdg hlocks)
theorem k_preS {av : List Value} (Z : kZ p m c cc nL s args Ts own E G) (X : kX E G s H locs ad ct) : PreS s H (va_Pc av (kPre E G ad ct)) av := ⟨kBlind, fun _ hU hW => ⟨rfl, kPre.at Z.2.1 Z.2.2 X hU hW⟩⟩
theorem k_runV {Qc : Array Value → State → Outcome → State → Prop} (Z : kZ p m c cc nL s args Ts own E G) (X : kX E G s H locs ad ct) (hM : Met l y ws rm (va_Pc (.ref b :: As) (kPre E G ad ct)) Qc mc ms (kB E.heap.size)) (cw : CallW R s args own C index y bytes maxL ret ws rm mc ms n) (hrecv : ∃ cell : Cell, H[b]? = some cell ∧ cell.vm.isStatics = false ∧ s.vm.findClass C = some cell.cls) (hn : As.length = n) (hsz : ls.size = nL) (hst : st0 = As.reverse ++ .ref b :: rest) (hcat : (rest.map fun v => v.category).sum ≤ 8) (hdg : decode cc pc = .ok (.invokevirtual index, 3)) (hf : cells + mc ≤ R.cells ∧ slots + ms ≤ R.slots) : va_Run p l e R s m args below meth c H locs cells slots mc ms (F0 m pc ls st0) rest (Qc (Value.ref b :: As).toArray) (kB E.heap.size) :=
  va_runV Z.1 hM cw ⟨kBlind, hrecv, fun _ hU hW => ⟨rfl, kPre.at Z.2.1 Z.2.2 X hU hW⟩⟩ rfl hn hsz hst (lv_room hcat) hdg hf
theorem k_runS {Qc : Array Value → State → Outcome → State → Prop} (Z : kZ p m c cc nL s args Ts own E G) (X : kX E G s H locs ad ct) (hM : Met l y ws rm (va_Pc As (kPre E G ad ct)) Qc mc ms (kB E.heap.size)) (cw : CallB R s args own index y bytes maxL ret ws rm mc ms n ∧ (Cond.static y).before args s = true) (hn : As.length = n) (hsz : ls.size = nL) (hst : st0 = As.reverse ++ rest) (hcat : (rest.map fun v => v.category).sum ≤ 8) (hdg : decode cc pc = .ok (.invokestatic index, 3)) (hf : cells + mc ≤ R.cells ∧ slots + ms ≤ R.slots) : va_Run p l e R s m args below meth c H locs cells slots mc ms (F0 m pc ls st0) rest (Qc As.toArray) (kB E.heap.size) :=
  va_runS Z.1 hM cw ⟨kBlind, fun _ hU hW => ⟨rfl, kPre.at Z.2.1 Z.2.2 X hU hW⟩⟩ rfl hn hsz hst (lv_room hcat) hdg hf
theorem k_runI {Qc : Array Value → State → Outcome → State → Prop} (Z : kZ p m c cc nL s args Ts own E G) (X : kX E G s H locs ad ct) (hM : Met l y ws rm (va_Pc (.ref b :: As) (kPre E G ad ct)) Qc mc ms (kB E.heap.size)) (cw : CallB R s args own index y bytes maxL none ws rm mc ms n ∧ y.name = "<init>" ∧ (Cond.instanceMethod y).before args s = true) (hn : As.length = n) (hsz : ls.size = nL) (hst : st0 = As.reverse ++ .ref b :: rest) (hcat : (rest.map fun v => v.category).sum ≤ 8) (hdg : decode cc pc = .ok (.invokespecial index, 3)) (hf : cells + mc ≤ R.cells ∧ slots + ms ≤ R.slots) : va_Run p l e R s m args below meth c H locs cells slots mc ms (F0 m pc ls st0) rest (Qc (Value.ref b :: As).toArray) (kB E.heap.size) :=
  va_runI Z.1 hM cw ⟨kBlind, fun _ hU hW => ⟨rfl, kPre.at Z.2.1 Z.2.2 X hU hW⟩⟩ rfl hn hsz hst (lv_room hcat) hdg hf
theorem k_Ri {P : Int32 → kAd → kCt → Prop} {a : Array Value} (X : kX E G s H locs ad ct) (hr : va_Run p l e R s m args below meth c H locs cells slots mc ms (F0 m pc ls st0) rest (kQi E G P a) (kB E.heap.size)) (kk : ∀ (r : Int32) (ad1 : kAd) (ct1 : kCt) (H1 : Heap) (locs1 : List Loc), P r ad1 ct1 → kX E G s H1 locs1 ad1 ct1 → W p l e R s m args below meth c H1 locs1 (cells + mc) (slots + ms) Q (F0 m (pc + 3) ls (.int r :: rest))) : W p l e R s m args below meth c H locs cells slots Q (F0 m pc ls st0) :=
  va_calli (post := fun (r : Int32) (u : kAd × kCt) => P r u.1 u.2) (B := fun (u : kAd × kCt) (t : State) => kW E.heap.size G u.1 u.2 t.heap) (A1 := kB E.heap.size) hr X.2 (fun _ _ h => h) (fun _ h => h) (fun r u t H1 locs1 ht _ hp hb _ _ hS => kk r u.1 u.2 H1 locs1 hp ⟨by rw [← ht]; exact hb, hS⟩)
theorem k_Rv {P : kAd → kCt → Prop} {a : Array Value} (X : kX E G s H locs ad ct) (hr : va_Run p l e R s m args below meth c H locs cells slots mc ms (F0 m pc ls st0) rest (kQv E G P a) (kB E.heap.size)) (kk : ∀ (ad1 : kAd) (ct1 : kCt) (H1 : Heap) (locs1 : List Loc), P ad1 ct1 → kX E G s H1 locs1 ad1 ct1 → W p l e R s m args below meth c H1 locs1 (cells + mc) (slots + ms) Q (F0 m (pc + 3) ls rest)) : W p l e R s m args below meth c H locs cells slots Q (F0 m pc ls st0) :=
  va_callv (post := fun (u : kAd × kCt) => P u.1 u.2) (B := fun (u : kAd × kCt) (t : State) => kW E.heap.size G u.1 u.2 t.heap) (A1 := kB E.heap.size) hr X.2 (fun _ _ h => h) (fun _ h => h) (fun u t H1 locs1 ht _ hp hb _ _ hS => kk u.1 u.2 H1 locs1 hp ⟨by rw [← ht]; exact hb, hS⟩)
theorem k_Rq {P : Option Nat → kAd → kCt → Prop} {a : Array Value} (X : kX E G s H locs ad ct) (hr : va_Run p l e R s m args below meth c H locs cells slots mc ms (F0 m pc ls st0) rest (kQq E G P a) (kB E.heap.size)) (kk : ∀ (r : Option Nat) (ad1 : kAd) (ct1 : kCt) (H1 : Heap) (locs1 : List Loc), P r ad1 ct1 → kX E G s H1 locs1 ad1 ct1 → W p l e R s m args below meth c H1 locs1 (cells + mc) (slots + ms) Q (F0 m (pc + 3) ls (va_rf r :: rest))) : W p l e R s m args below meth c H locs cells slots Q (F0 m pc ls st0) :=
  va_callq (post := fun (r : Option Nat) (u : kAd × kCt) => P r u.1 u.2) (B := fun (u : kAd × kCt) (t : State) => kW E.heap.size G u.1 u.2 t.heap) (A1 := kB E.heap.size) hr X.2 (fun _ _ h => h) (fun _ h => h) (fun r u t H1 locs1 ht _ hp hb _ _ hS => kk r u.1 u.2 H1 locs1 hp ⟨by rw [← ht]; exact hb, hS⟩)
end KCALL
