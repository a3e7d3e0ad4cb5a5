set_option maxRecDepth 100000 in
theorem in_wsL_law0_r11 : ∀ w ∈ wsL_law0_r11, w ∈ lw_tbl := fun w h => (goodIn_p wsL_law0_r11 [725, 859, 331, 335, 863] rfl (by decide +kernel) w h).1
set_option maxRecDepth 100000 in
theorem in_wsL_law0_r12 : ∀ w ∈ wsL_law0_r12, w ∈ lw_tbl := fun w h => (goodIn_p wsL_law0_r12 [339, 343, 347, 351, 355, 358] rfl (by decide +kernel) w h).1
set_option maxRecDepth 100000 in
theorem in_wsL_law0_r13 : ∀ w ∈ wsL_law0_r13, w ∈ lw_tbl := fun w h => (goodIn_p wsL_law0_r13 [362, 365, 369, 867, 871] rfl (by decide +kernel) w h).1
set_option maxRecDepth 100000 in
theorem in_wsL_law0_r14 : ∀ w ∈ wsL_law0_r14, w ∈ lw_tbl := fun w h => (goodIn_p wsL_law0_r14 [875, 879, 883, 887, 373] rfl (by decide +kernel) w h).1
set_option maxRecDepth 100000 in
theorem in_wsL_law0_r15 : ∀ w ∈ wsL_law0_r15, w ∈ lw_tbl := fun w h => (goodIn_p wsL_law0_r15 [891, 377, 385, 389, 393, 895] rfl (by decide +kernel) w h).1
set_option maxRecDepth 100000 in
theorem in_wsL_law0_r16 : ∀ w ∈ wsL_law0_r16, w ∈ lw_tbl := fun w h => (goodIn_p wsL_law0_r16 [899, 397, 401, 903, 405, 409] rfl (by decide +kernel) w h).1
set_option maxRecDepth 100000 in
theorem in_wsL_law0_r17 : ∀ w ∈ wsL_law0_r17, w ∈ lw_tbl := fun w h => (goodIn_p wsL_law0_r17 [413, 417, 422, 427, 432] rfl (by decide +kernel) w h).1
set_option maxRecDepth 100000 in
theorem in_wsL_law0_r18 : ∀ w ∈ wsL_law0_r18, w ∈ lw_tbl := fun w h => (goodIn_p wsL_law0_r18 [436, 440, 444, 450, 454] rfl (by decide +kernel) w h).1
set_option maxRecDepth 100000 in
theorem in_wsL_law0_r19 : ∀ w ∈ wsL_law0_r19, w ∈ lw_tbl := fun w h => (goodIn_p wsL_law0_r19 [458, 462, 907, 911, 915] rfl (by decide +kernel) w h).1
set_option maxRecDepth 100000 in
theorem in_wsL_law0_r20 : ∀ w ∈ wsL_law0_r20, w ∈ lw_tbl := fun w h => (goodIn_p wsL_law0_r20 [919, 923, 927, 931, 935, 939] rfl (by decide +kernel) w h).1
