/-! ===== places in the law's words by chunks ===== -/
theorem goodIn_c {big : List Cond} {chs : List (List Cond)} (hc : ∀ c ∈ chs, ∀ w ∈ c, w ∈ big) (ws : List Cond) (ps : List (Nat × Nat)) (hp : ws = ps.filterMap (fun q => (chs[q.1]?).bind (fun c => c[q.2]?))) (h : ws.all goodWord = true) : GoodIn big ws := by
  intro w hw
  have h1 := List.all_eq_true.mp h w hw
  rw [hp] at hw
  obtain ⟨q, -, hq⟩ := List.mem_filterMap.mp hw
  obtain ⟨c, h2, h3⟩ := Option.bind_eq_some_iff.mp hq
  exact ⟨hc c (List.mem_of_getElem? h2) w (List.mem_of_getElem? h3), good_of_word h1⟩
def lw_ch0 : List (List Cond) := [wsL_law0_r1, wsL_law0_r2, wsL_law0_r3, wsL_law0_r4, wsL_law0_r5, wsL_law0_r6, wsL_law0_r7, wsL_law0_r8, wsL_law0_r9, wsL_law0_r10, wsL_law0_r11, wsL_law0_r12, wsL_law0_r13, wsL_law0_r14, wsL_law0_r15, wsL_law0_r16, wsL_law0_r17, wsL_law0_r18, wsL_law0_r19, wsL_law0_r20, wsL_law0_r21, wsL_law0_r22, wsL_law0_r23, wsL_law0_r24, wsL_law0_r25, wsL_law0_r26, wsL_law0_r27, wsL_law0_r28, wsL_law0_r29, wsL_law0_r30, wsL_law0_r31, wsL_law0_r32, wsL_law0_r33, wsL_law0_r34, wsL_law0_r35, wsL_law0_r36, wsL_law0_r37, wsL_law0_r38, wsL_law0_r39, wsL_law0_r40, wsL_law0_r41, wsL_law0_r42, wsL_law0_r43, wsL_law0_r44, wsL_law0_r45, wsL_law0_r46, wsL_law0_r47, wsL_law0_r48, wsL_law0_r49, wsL_law0_r50, wsL_law0_r51]
def lw_chs : List (List Cond) := lw_ch0 ++ [wsX80, wsX90, wsX60, wsX10, wsX50, wsX00, wsJ40, wsX20, wsX40, wsX70, wsX30, wsJx7c7330, wsJx000600, wsJ00]
theorem lw_ch0_is : lw_ch0.flatten = (wsL_law0_r1 ++ (wsL_law0_r2 ++ (wsL_law0_r3 ++ (wsL_law0_r4 ++ (wsL_law0_r5 ++ (wsL_law0_r6 ++ (wsL_law0_r7 ++ (wsL_law0_r8 ++ (wsL_law0_r9 ++ (wsL_law0_r10 ++ (wsL_law0_r11 ++ (wsL_law0_r12 ++ (wsL_law0_r13 ++ (wsL_law0_r14 ++ (wsL_law0_r15 ++ (wsL_law0_r16 ++ (wsL_law0_r17 ++ (wsL_law0_r18 ++ (wsL_law0_r19 ++ (wsL_law0_r20 ++ (wsL_law0_r21 ++ (wsL_law0_r22 ++ (wsL_law0_r23 ++ (wsL_law0_r24 ++ (wsL_law0_r25 ++ (wsL_law0_r26 ++ (wsL_law0_r27 ++ (wsL_law0_r28 ++ (wsL_law0_r29 ++ (wsL_law0_r30 ++ (wsL_law0_r31 ++ (wsL_law0_r32 ++ (wsL_law0_r33 ++ (wsL_law0_r34 ++ (wsL_law0_r35 ++ (wsL_law0_r36 ++ (wsL_law0_r37 ++ (wsL_law0_r38 ++ (wsL_law0_r39 ++ (wsL_law0_r40 ++ (wsL_law0_r41 ++ (wsL_law0_r42 ++ (wsL_law0_r43 ++ (wsL_law0_r44 ++ (wsL_law0_r45 ++ (wsL_law0_r46 ++ (wsL_law0_r47 ++ (wsL_law0_r48 ++ (wsL_law0_r49 ++ (wsL_law0_r50 ++ wsL_law0_r51)))))))))))))))))))))))))))))))))))))))))))))))))) := by
  simp only [lw_ch0, List.flatten_cons, List.flatten_nil, List.append_nil]
theorem lw_0_in : ∀ w ∈ wsL_law0, w ∈ wsL_law := fun w h => List.mem_append_left _ (List.mem_append_left _ (List.mem_append_left _ (List.mem_append_left _ (List.mem_append_left _ (List.mem_append_left _ (List.mem_append_left _ (List.mem_append_left _ (h))))))))
theorem lw_ch_a : ∀ w ∈ lw_ch0.flatten, w ∈ wsL_law0 := fun w h => by
  rw [lw_ch0_is] at h
  exact List.mem_append_left _ (List.mem_append_left _ (List.mem_append_left _ (List.mem_append_left _ (List.mem_append_left _ (List.mem_append_left _ (List.mem_append_left _ (List.mem_append_left _ (List.mem_append_left _ (List.mem_append_left _ (List.mem_append_left _ (List.mem_append_left _ (List.mem_append_left _ (List.mem_append_left _ (List.mem_append_left _ (h)))))))))))))))
theorem lw_ch_wsX80 : ∀ w ∈ wsX80, w ∈ wsL_law0 := fun w h => List.mem_append_left _ (List.mem_append_left _ (List.mem_append_left _ (List.mem_append_left _ (List.mem_append_left _ (List.mem_append_left _ (List.mem_append_left _ (List.mem_append_left _ (List.mem_append_left _ (List.mem_append_left _ (List.mem_append_left _ (List.mem_append_left _ (List.mem_append_left _ (List.mem_append_left _ (List.mem_append_right _ h))))))))))))))
theorem lw_ch_wsX90 : ∀ w ∈ wsX90, w ∈ wsL_law0 := fun w h => List.mem_append_left _ (List.mem_append_left _ (List.mem_append_left _ (List.mem_append_left _ (List.mem_append_left _ (List.mem_append_left _ (List.mem_append_left _ (List.mem_append_left _ (List.mem_append_left _ (List.mem_append_left _ (List.mem_append_left _ (List.mem_append_left _ (List.mem_append_left _ (List.mem_append_right _ h)))))))))))))
theorem lw_ch_wsX60 : ∀ w ∈ wsX60, w ∈ wsL_law0 := fun w h => List.mem_append_left _ (List.mem_append_left _ (List.mem_append_left _ (List.mem_append_left _ (List.mem_append_left _ (List.mem_append_left _ (List.mem_append_left _ (List.mem_append_left _ (List.mem_append_left _ (List.mem_append_left _ (List.mem_append_left _ (List.mem_append_left _ (List.mem_append_right _ h))))))))))))
theorem lw_ch_wsX10 : ∀ w ∈ wsX10, w ∈ wsL_law0 := fun w h => List.mem_append_left _ (List.mem_append_left _ (List.mem_append_left _ (List.mem_append_left _ (List.mem_append_left _ (List.mem_append_left _ (List.mem_append_left _ (List.mem_append_left _ (List.mem_append_left _ (List.mem_append_left _ (List.mem_append_left _ (List.mem_append_right _ h)))))))))))
theorem lw_ch_wsX50 : ∀ w ∈ wsX50, w ∈ wsL_law0 := fun w h => List.mem_append_left _ (List.mem_append_left _ (List.mem_append_left _ (List.mem_append_left _ (List.mem_append_left _ (List.mem_append_left _ (List.mem_append_left _ (List.mem_append_left _ (List.mem_append_left _ (List.mem_append_left _ (List.mem_append_right _ h))))))))))
theorem lw_ch_wsX00 : ∀ w ∈ wsX00, w ∈ wsL_law0 := fun w h => List.mem_append_left _ (List.mem_append_left _ (List.mem_append_left _ (List.mem_append_left _ (List.mem_append_left _ (List.mem_append_left _ (List.mem_append_left _ (List.mem_append_left _ (List.mem_append_left _ (List.mem_append_right _ h)))))))))
theorem lw_ch_wsJ40 : ∀ w ∈ wsJ40, w ∈ wsL_law0 := fun w h => List.mem_append_left _ (List.mem_append_left _ (List.mem_append_left _ (List.mem_append_left _ (List.mem_append_left _ (List.mem_append_left _ (List.mem_append_left _ (List.mem_append_left _ (List.mem_append_right _ h))))))))
theorem lw_ch_wsX20 : ∀ w ∈ wsX20, w ∈ wsL_law0 := fun w h => List.mem_append_left _ (List.mem_append_left _ (List.mem_append_left _ (List.mem_append_left _ (List.mem_append_left _ (List.mem_append_left _ (List.mem_append_left _ (List.mem_append_right _ h)))))))
theorem lw_ch_wsX40 : ∀ w ∈ wsX40, w ∈ wsL_law0 := fun w h => List.mem_append_left _ (List.mem_append_left _ (List.mem_append_left _ (List.mem_append_left _ (List.mem_append_left _ (List.mem_append_left _ (List.mem_append_right _ h))))))
theorem lw_ch_wsX70 : ∀ w ∈ wsX70, w ∈ wsL_law0 := fun w h => List.mem_append_left _ (List.mem_append_left _ (List.mem_append_left _ (List.mem_append_left _ (List.mem_append_left _ (List.mem_append_right _ h)))))
theorem lw_ch_wsX30 : ∀ w ∈ wsX30, w ∈ wsL_law0 := fun w h => List.mem_append_left _ (List.mem_append_left _ (List.mem_append_left _ (List.mem_append_left _ (List.mem_append_right _ h))))
theorem lw_ch_wsJx7c7330 : ∀ w ∈ wsJx7c7330, w ∈ wsL_law0 := fun w h => List.mem_append_left _ (List.mem_append_left _ (List.mem_append_left _ (List.mem_append_right _ h)))
theorem lw_ch_wsJx000600 : ∀ w ∈ wsJx000600, w ∈ wsL_law0 := fun w h => List.mem_append_left _ (List.mem_append_left _ (List.mem_append_right _ h))
theorem lw_ch_wsJ00 : ∀ w ∈ wsJ00, w ∈ wsL_law0 := fun w h => List.mem_append_left _ (List.mem_append_right _ h)
theorem lw_chs_in : ∀ c ∈ lw_chs, ∀ w ∈ c, w ∈ wsL_law := fun c hc w hw => by
  refine lw_0_in w ?_
  rcases List.mem_append.mp hc with h | h
  · exact lw_ch_a w (List.mem_flatten.mpr ⟨c, h, hw⟩)
  · simp only [List.mem_cons, List.not_mem_nil, or_false] at h
    rcases h with rfl | rfl | rfl | rfl | rfl | rfl | rfl | rfl | rfl | rfl | rfl | rfl | rfl | rfl
    · exact lw_ch_wsX80 w hw
    · exact lw_ch_wsX90 w hw
    · exact lw_ch_wsX60 w hw
    · exact lw_ch_wsX10 w hw
    · exact lw_ch_wsX50 w hw
    · exact lw_ch_wsX00 w hw
    · exact lw_ch_wsJ40 w hw
    · exact lw_ch_wsX20 w hw
    · exact lw_ch_wsX40 w hw
    · exact lw_ch_wsX70 w hw
    · exact lw_ch_wsX30 w hw
    · exact lw_ch_wsJx7c7330 w hw
    · exact lw_ch_wsJx000600 w hw
    · exact lw_ch_wsJ00 w hw
