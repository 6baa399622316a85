/-! the words of the law's calls -/
theorem inlX0 : ∀ w ∈ wsX00, w ∈ wsL_law := fun _ h => List.mem_append_left _ (List.mem_append_left _ (List.mem_append_right _ h))
theorem inX0 : ∀ w ∈ wsX00, w ∈ lw_tbl := fun w h => wsL_law_in w (inlX0 w h)
theorem inlX1 : ∀ w ∈ wsX10, w ∈ wsL_law := fun _ h => List.mem_append_left _ (List.mem_append_right _ h)
theorem inX1 : ∀ w ∈ wsX10, w ∈ lw_tbl := fun w h => wsL_law_in w (inlX1 w h)
theorem inlX2 : ∀ w ∈ wsX20, w ∈ wsL_law := fun _ h => List.mem_append_left _ (List.mem_append_left _ (List.mem_append_left _ (List.mem_append_right _ h)))
theorem inX2 : ∀ w ∈ wsX20, w ∈ lw_tbl := fun w h => wsL_law_in w (inlX2 w h)
theorem inX3 : ∀ w ∈ wsX30, w ∈ lw_tbl := by decide +kernel
set_option maxRecDepth 20000 in
theorem ggL_draws_X2_basis : GoodIn wsL_draws wsX2_basis := goodIn_r _ [7, 8, 9, 10, 11, 12, 6, 13, 14, 15, 16, 17, 18, 19, 20, 21, 22, 23, 24, 25, 26, 27, 28, 29, 30, 31, 32, 33, 34, 35, 36, 51, 52, 53, 54, 55, 56, 57, 58, 59] (by decide +kernel) (by decide +kernel)
set_option maxRecDepth 20000 in
theorem gL_draws_X2_basis : GoodIn wsL_draws (wsV RL 9 RX2 yX2_basis wsX2_basis) := goodIn_app (goodIn_of _ (by decide +kernel)) ggL_draws_X2_basis
set_option maxRecDepth 20000 in
theorem ggL_draws_X2_setCoefficient : GoodIn wsL_draws wsX2_setCoefficient := goodIn_r _ [40, 41, 42, 8, 10, 11, 12, 6, 13, 14, 15, 16, 17, 29, 30, 31, 21, 32, 23, 33, 34, 35, 36, 24, 43, 44, 45, 46, 51, 52, 53, 54, 55, 56, 57, 58, 59] (by decide +kernel) (by decide +kernel)
set_option maxRecDepth 20000 in
theorem gL_draws_X2_setCoefficient : GoodIn wsL_draws (wsV RL 15 RX2 yX2_setCoefficient wsX2_setCoefficient) := goodIn_app (goodIn_of _ (by decide +kernel)) ggL_draws_X2_setCoefficient
set_option maxRecDepth 20000 in
theorem ggL_draws_X2_degree : GoodIn wsL_draws wsX2_degree := goodIn_r _ [50, 8, 10, 11, 12, 6, 13, 14, 43, 44, 45, 21, 46, 24, 51, 52, 53, 54, 55, 56, 57, 58, 59] (by decide +kernel) (by decide +kernel)
set_option maxRecDepth 20000 in
theorem gL_draws_X2_degree : GoodIn wsL_draws (wsV RL 20 RX2 yX2_degree wsX2_degree) := goodIn_app (goodIn_of _ (by decide +kernel)) ggL_draws_X2_degree
set_option maxRecDepth 20000 in
theorem ggL_areBasics_X2_basis : GoodIn wsL_areBasics wsX2_basis := goodIn_r _ [12, 13, 14, 15, 16, 17, 11, 18, 19, 20, 21, 22, 23, 24, 25, 26, 27, 28, 29, 30, 31, 32, 33, 34, 35, 36, 37, 38, 39, 40, 41, 142, 143, 144, 145, 146, 147, 148, 149, 150] (by decide +kernel) (by decide +kernel)
set_option maxRecDepth 20000 in
theorem gL_areBasics_X2_basis : GoodIn wsL_areBasics (wsV RL 9 RX2 yX2_basis wsX2_basis) := goodIn_app (goodIn_of _ (by decide +kernel)) ggL_areBasics_X2_basis
set_option maxRecDepth 20000 in
theorem ggL_areBasics_X2_degree : GoodIn wsL_areBasics wsX2_degree := goodIn_r _ [45, 13, 15, 16, 17, 11, 18, 19, 46, 47, 48, 26, 49, 29, 142, 143, 144, 145, 146, 147, 148, 149, 150] (by decide +kernel) (by decide +kernel)
set_option maxRecDepth 20000 in
theorem gL_areBasics_X2_degree : GoodIn wsL_areBasics (wsV RL 20 RX2 yX2_degree wsX2_degree) := goodIn_app (goodIn_of _ (by decide +kernel)) ggL_areBasics_X2_degree
set_option maxRecDepth 20000 in
theorem ggL_areBasics_X2_value : GoodIn wsL_areBasics wsX2_value := goodIn_r _ [53, 54, 55, 13, 15, 16, 17, 11, 18, 19, 20, 21, 22, 56, 57, 58, 26, 59, 29, 60, 61, 62, 63, 64, 65, 28, 66, 67, 68, 69, 70, 71, 72, 142, 143, 144, 145, 146, 147, 148, 149, 150] (by decide +kernel) (by decide +kernel)
set_option maxRecDepth 20000 in
theorem gL_areBasics_X2_value : GoodIn wsL_areBasics (wsV RL 25 RX2 yX2_value wsX2_value) := goodIn_app (goodIn_of _ (by decide +kernel)) ggL_areBasics_X2_value
set_option maxRecDepth 20000 in
theorem ggL_areBasics_X2_multiply : GoodIn wsL_areBasics wsX2_multiply := goodIn_r _ [76, 13, 77, 15, 16, 17, 11, 18, 19, 78, 79, 80, 26, 81, 29, 82, 83, 84, 85, 28, 86, 87, 24, 25, 27, 30, 31, 32, 33, 62, 63, 64, 65, 88, 35, 36, 37, 66, 67, 68, 69, 70, 71, 72, 89, 39, 40, 41, 90, 91, 92, 93, 94, 95, 96, 97, 98, 99, 100, 101, 102, 103, 104, 105, 106, 107, 46, 47, 48, 49, 142, 143, 144, 145, 146, 147, 148, 149, 150] (by decide +kernel) (by decide +kernel)
set_option maxRecDepth 20000 in
theorem gL_areBasics_X2_multiply : GoodIn wsL_areBasics (wsV RL 33 RX2 yX2_multiply wsX2_multiply) := goodIn_app (goodIn_of _ (by decide +kernel)) ggL_areBasics_X2_multiply
set_option maxRecDepth 20000 in
theorem ggL_areBasics_X2_coefficient : GoodIn wsL_areBasics wsX2_coefficient := goodIn_r _ [111, 13, 15, 16, 17, 11, 18, 19, 20, 21, 22, 112, 63, 64, 26, 65, 28, 142, 143, 144, 145, 146, 147, 148, 149, 150] (by decide +kernel) (by decide +kernel)
set_option maxRecDepth 20000 in
theorem gL_areBasics_X2_coefficient : GoodIn wsL_areBasics (wsV RL 38 RX2 yX2_coefficient wsX2_coefficient) := goodIn_app (goodIn_of _ (by decide +kernel)) ggL_areBasics_X2_coefficient
set_option maxRecDepth 20000 in
theorem ggL_areBasics_X2_compose : GoodIn wsL_areBasics wsX2_compose := goodIn_r _ [116, 13, 15, 16, 17, 11, 18, 19, 117, 118, 119, 120, 121, 122, 77, 23, 24, 25, 26, 27, 28, 29, 30, 31, 32, 33, 46, 47, 48, 49, 112, 63, 64, 65, 123, 124, 125, 126, 127, 78, 79, 80, 81, 82, 83, 84, 85, 86, 87, 62, 88, 35, 36, 37, 66, 67, 68, 69, 70, 71, 72, 89, 39, 40, 41, 94, 95, 96, 97, 98, 99, 100, 101, 102, 103, 128, 129, 130, 131, 34, 38, 104, 105, 106, 107, 90, 91, 92, 93, 142, 143, 144, 145, 146, 147, 148, 149, 150] (by decide +kernel) (by decide +kernel)
set_option maxRecDepth 20000 in
theorem gL_areBasics_X2_compose : GoodIn wsL_areBasics (wsV RL 43 RX2 yX2_compose wsX2_compose) := goodIn_app (goodIn_of _ (by decide +kernel)) ggL_areBasics_X2_compose
set_option maxRecDepth 20000 in
theorem ggL_areBasics_X2_bound : GoodIn wsL_areBasics wsX2_bound := goodIn_r _ [135, 13, 136, 100, 84, 101, 15, 16, 17, 11, 18, 19, 112, 63, 64, 26, 65, 28, 142, 143, 144, 145, 146, 147, 148, 149, 150] (by decide +kernel) (by decide +kernel)
set_option maxRecDepth 20000 in
theorem gL_areBasics_X2_bound : GoodIn wsL_areBasics (wsV RL 46 RX2 yX2_bound wsX2_bound) := goodIn_app (goodIn_of _ (by decide +kernel)) ggL_areBasics_X2_bound
set_option maxRecDepth 20000 in
theorem ggL_areBasics_X2_inner : GoodIn wsL_areBasics wsX2_inner := goodIn_r _ [140, 13, 68, 14, 15, 16, 17, 11, 18, 19, 112, 63, 64, 26, 65, 28, 141, 66, 67, 69, 70, 71, 72, 142, 143, 144, 145, 146, 147, 148, 149, 150] (by decide +kernel) (by decide +kernel)
set_option maxRecDepth 20000 in
theorem gL_areBasics_X2_inner : GoodIn wsL_areBasics (wsV RL 49 RX2 yX2_inner wsX2_inner) := goodIn_app (goodIn_of _ (by decide +kernel)) ggL_areBasics_X2_inner
set_option maxRecDepth 20000 in
theorem ggL_isInverse_L_draws : GoodIn wsL_isInverse wsL_draws := goodIn_r _ [13, 14, 15, 16, 17, 18, 19, 20, 21, 22, 23, 24, 25, 26, 27, 28, 29, 30, 31, 32, 33, 34, 35, 36, 37, 38, 39, 40, 41, 42, 43, 44, 45, 46, 47, 48, 49, 50, 51, 52, 53, 54, 55, 56, 57, 58, 59, 60, 61, 62, 63, 137, 138, 139, 140, 141, 142, 143, 144, 145] (by decide +kernel) (by decide +kernel)
set_option maxRecDepth 20000 in
theorem gL_isInverse_L_draws : GoodIn wsL_isInverse (va_wsS RL 55 yL_draws wsL_draws) := goodIn_app (goodIn_of _ (by decide +kernel)) ggL_isInverse_L_draws
set_option maxRecDepth 20000 in
theorem ggL_isInverse_X2_antidifferentiate : GoodIn wsL_isInverse wsX2_antidifferentiate := goodIn_r _ [67, 21, 68, 23, 24, 25, 19, 26, 27, 69, 70, 71, 34, 72, 37, 73, 74, 32, 33, 35, 36, 38, 39, 40, 41, 75, 76, 77, 78, 79, 80, 81, 82, 83, 84, 85, 86, 43, 44, 45, 87, 47, 48, 49, 88, 89, 90, 91, 92, 93, 94, 95, 96, 97, 98, 99, 100, 101, 102, 103, 104, 105, 106, 56, 57, 58, 59, 137, 138, 139, 140, 141, 142, 143, 144, 145] (by decide +kernel) (by decide +kernel)
set_option maxRecDepth 20000 in
theorem gL_isInverse_X2_antidifferentiate : GoodIn wsL_isInverse (wsV RL 61 RX2 yX2_antidifferentiate wsX2_antidifferentiate) := goodIn_app (goodIn_of _ (by decide +kernel)) ggL_isInverse_X2_antidifferentiate
set_option maxRecDepth 20000 in
theorem ggL_isInverse_X2_differentiate : GoodIn wsL_isInverse wsX2_differentiate := goodIn_r _ [110, 21, 68, 23, 24, 25, 19, 26, 27, 111, 112, 113, 34, 114, 37, 73, 74, 32, 33, 35, 36, 38, 39, 40, 41, 75, 76, 77, 78, 86, 43, 44, 45, 79, 80, 81, 82, 83, 84, 85, 87, 47, 48, 49, 88, 89, 90, 91, 92, 93, 94, 95, 96, 97, 98, 99, 100, 101, 102, 103, 104, 105, 106, 56, 57, 58, 59, 137, 138, 139, 140, 141, 142, 143, 144, 145] (by decide +kernel) (by decide +kernel)
set_option maxRecDepth 20000 in
theorem gL_isInverse_X2_differentiate : GoodIn wsL_isInverse (wsV RL 64 RX2 yX2_differentiate wsX2_differentiate) := goodIn_app (goodIn_of _ (by decide +kernel)) ggL_isInverse_X2_differentiate
set_option maxRecDepth 20000 in
theorem ggL_isInverse_X2_value : GoodIn wsL_isInverse wsX2_value := goodIn_r _ [118, 119, 120, 21, 23, 24, 25, 19, 26, 27, 28, 29, 30, 121, 122, 123, 34, 124, 37, 73, 125, 75, 76, 77, 78, 36, 79, 80, 81, 82, 83, 84, 85, 137, 138, 139, 140, 141, 142, 143, 144, 145] (by decide +kernel) (by decide +kernel)
set_option maxRecDepth 20000 in
theorem gL_isInverse_X2_value : GoodIn wsL_isInverse (wsV RL 25 RX2 yX2_value wsX2_value) := goodIn_app (goodIn_of _ (by decide +kernel)) ggL_isInverse_X2_value
set_option maxRecDepth 20000 in
theorem ggL_isInverse_X2_coefficient : GoodIn wsL_isInverse wsX2_coefficient := goodIn_r _ [129, 21, 23, 24, 25, 19, 26, 27, 28, 29, 30, 130, 76, 77, 34, 78, 36, 137, 138, 139, 140, 141, 142, 143, 144, 145] (by decide +kernel) (by decide +kernel)
set_option maxRecDepth 20000 in
theorem gL_isInverse_X2_coefficient : GoodIn wsL_isInverse (wsV RL 38 RX2 yX2_coefficient wsX2_coefficient) := goodIn_app (goodIn_of _ (by decide +kernel)) ggL_isInverse_X2_coefficient
set_option maxRecDepth 20000 in
theorem ggL_isInverse_X2_integral : GoodIn wsL_isInverse wsX2_integral := goodIn_r _ [134, 21, 81, 135, 23, 24, 25, 19, 26, 27, 130, 76, 77, 34, 78, 36, 56, 57, 58, 59, 37, 136, 79, 80, 82, 83, 84, 85, 137, 138, 139, 140, 141, 142, 143, 144, 145] (by decide +kernel) (by decide +kernel)
set_option maxRecDepth 20000 in
theorem gL_isInverse_X2_integral : GoodIn wsL_isInverse (wsV RL 75 RX2 yX2_integral wsX2_integral) := goodIn_app (goodIn_of _ (by decide +kernel)) ggL_isInverse_X2_integral
set_option maxRecDepth 20000 in
theorem ggL_isInverse_X2_degree : GoodIn wsL_isInverse wsX2_degree := goodIn_r _ [63, 21, 23, 24, 25, 19, 26, 27, 56, 57, 58, 34, 59, 37, 137, 138, 139, 140, 141, 142, 143, 144, 145] (by decide +kernel) (by decide +kernel)
set_option maxRecDepth 20000 in
theorem gL_isInverse_X2_degree : GoodIn wsL_isInverse (wsV RL 20 RX2 yX2_degree wsX2_degree) := goodIn_app (goodIn_of _ (by decide +kernel)) ggL_isInverse_X2_degree
set_option maxRecDepth 20000 in
theorem ggL_isBounded_L_draws : GoodIn wsL_isBounded wsL_draws := goodIn_r _ [12, 13, 14, 15, 16, 17, 18, 19, 20, 21, 22, 23, 24, 25, 26, 27, 28, 29, 30, 31, 32, 33, 34, 35, 36, 37, 38, 39, 40, 41, 42, 43, 44, 45, 46, 47, 48, 49, 50, 51, 52, 53, 54, 55, 56, 57, 58, 59, 60, 61, 62, 158, 159, 160, 161, 162, 163, 164, 165, 166] (by decide +kernel) (by decide +kernel)
set_option maxRecDepth 20000 in
theorem gL_isBounded_L_draws : GoodIn wsL_isBounded (va_wsS RL 55 yL_draws wsL_draws) := goodIn_app (goodIn_of _ (by decide +kernel)) ggL_isBounded_L_draws
set_option maxRecDepth 20000 in
theorem ggL_isBounded_X2_bound : GoodIn wsL_isBounded wsX2_bound := goodIn_r _ [66, 20, 67, 68, 69, 70, 22, 23, 24, 18, 25, 26, 71, 72, 73, 33, 74, 35, 158, 159, 160, 161, 162, 163, 164, 165, 166] (by decide +kernel) (by decide +kernel)
set_option maxRecDepth 20000 in
theorem gL_isBounded_X2_bound : GoodIn wsL_isBounded (wsV RL 46 RX2 yX2_bound wsX2_bound) := goodIn_app (goodIn_of _ (by decide +kernel)) ggL_isBounded_X2_bound
set_option maxRecDepth 20000 in
theorem ggL_isBounded_X2_value : GoodIn wsL_isBounded wsX2_value := goodIn_r _ [78, 79, 80, 20, 22, 23, 24, 18, 25, 26, 27, 28, 29, 81, 82, 83, 33, 84, 36, 85, 86, 87, 72, 73, 74, 35, 88, 89, 90, 91, 92, 93, 94, 158, 159, 160, 161, 162, 163, 164, 165, 166] (by decide +kernel) (by decide +kernel)
set_option maxRecDepth 20000 in
theorem gL_isBounded_X2_value : GoodIn wsL_isBounded (wsV RL 25 RX2 yX2_value wsX2_value) := goodIn_app (goodIn_of _ (by decide +kernel)) ggL_isBounded_X2_value
set_option maxRecDepth 20000 in
theorem ggL_isBounded_X2_copy : GoodIn wsL_isBounded wsX2_copy := goodIn_r _ [98, 20, 22, 23, 24, 18, 25, 26, 99, 100, 101, 33, 102, 35, 36, 87, 72, 73, 74, 55, 56, 57, 58, 158, 159, 160, 161, 162, 163, 164, 165, 166] (by decide +kernel) (by decide +kernel)
set_option maxRecDepth 20000 in
theorem gL_isBounded_X2_copy : GoodIn wsL_isBounded (wsV RL 86 RX2 yX2_copy wsX2_copy) := goodIn_app (goodIn_of _ (by decide +kernel)) ggL_isBounded_X2_copy
set_option maxRecDepth 20000 in
theorem ggL_isBounded_X2_degreeWith : GoodIn wsL_isBounded wsX2_degreeWith := goodIn_r _ [106, 107, 20, 22, 23, 24, 18, 25, 26, 27, 28, 29, 108, 109, 110, 33, 111, 36, 112, 68, 69, 70, 87, 72, 73, 74, 35, 158, 159, 160, 161, 162, 163, 164, 165, 166] (by decide +kernel) (by decide +kernel)
set_option maxRecDepth 20000 in
theorem gL_isBounded_X2_degreeWith : GoodIn wsL_isBounded (wsV RL 89 RX2 yX2_degreeWith wsX2_degreeWith) := goodIn_app (goodIn_of _ (by decide +kernel)) ggL_isBounded_X2_degreeWith
set_option maxRecDepth 20000 in
theorem ggL_isBounded_X2_cut : GoodIn wsL_isBounded wsX2_cut := goodIn_r _ [116, 107, 20, 22, 23, 24, 18, 25, 26, 27, 28, 29, 55, 56, 57, 33, 58, 36, 108, 109, 110, 111, 112, 68, 69, 70, 87, 72, 73, 74, 35, 117, 118, 119, 120, 121, 122, 123, 124, 46, 47, 48, 158, 159, 160, 161, 162, 163, 164, 165, 166] (by decide +kernel) (by decide +kernel)
set_option maxRecDepth 20000 in
theorem gL_isBounded_X2_cut : GoodIn wsL_isBounded (wsV RL 92 RX2 yX2_cut wsX2_cut) := goodIn_app (goodIn_of _ (by decide +kernel)) ggL_isBounded_X2_cut
set_option maxRecDepth 20000 in
theorem ggL_isBounded_X2_degree : GoodIn wsL_isBounded wsX2_degree := goodIn_r _ [62, 20, 22, 23, 24, 18, 25, 26, 55, 56, 57, 33, 58, 36, 158, 159, 160, 161, 162, 163, 164, 165, 166] (by decide +kernel) (by decide +kernel)
set_option maxRecDepth 20000 in
theorem gL_isBounded_X2_degree : GoodIn wsL_isBounded (wsV RL 20 RX2 yX2_degree wsX2_degree) := goodIn_app (goodIn_of _ (by decide +kernel)) ggL_isBounded_X2_degree
set_option maxRecDepth 20000 in
theorem ggL_isBounded_X2_add : GoodIn wsL_isBounded wsX2_add := goodIn_r _ [128, 20, 129, 22, 23, 24, 18, 25, 26, 27, 28, 29, 130, 131, 132, 33, 133, 35, 87, 72, 73, 74, 124, 46, 47, 48, 36, 134, 135, 136, 137, 138, 139, 140, 141, 142, 112, 68, 69, 70, 143, 144, 99, 100, 101, 102, 55, 56, 57, 58, 158, 159, 160, 161, 162, 163, 164, 165, 166] (by decide +kernel) (by decide +kernel)
set_option maxRecDepth 20000 in
theorem gL_isBounded_X2_add : GoodIn wsL_isBounded (wsV RL 97 RX2 yX2_add wsX2_add) := goodIn_app (goodIn_of _ (by decide +kernel)) ggL_isBounded_X2_add
set_option maxRecDepth 20000 in
theorem ggL_isBounded_X2_coefficient : GoodIn wsL_isBounded wsX2_coefficient := goodIn_r _ [148, 20, 22, 23, 24, 18, 25, 26, 27, 28, 29, 71, 72, 73, 33, 74, 35, 158, 159, 160, 161, 162, 163, 164, 165, 166] (by decide +kernel) (by decide +kernel)
set_option maxRecDepth 20000 in
theorem gL_isBounded_X2_coefficient : GoodIn wsL_isBounded (wsV RL 38 RX2 yX2_coefficient wsX2_coefficient) := goodIn_app (goodIn_of _ (by decide +kernel)) ggL_isBounded_X2_coefficient
set_option maxRecDepth 20000 in
theorem ggL_isBounded_X2_byValue : GoodIn wsL_isBounded wsX2_byValue := goodIn_r _ [152, 20, 153, 22, 23, 24, 18, 25, 26, 27, 28, 29, 55, 56, 57, 33, 58, 36, 154, 155, 156, 157, 112, 68, 69, 70, 87, 72, 73, 74, 35, 158, 159, 160, 161, 162, 163, 164, 165, 166] (by decide +kernel) (by decide +kernel)
set_option maxRecDepth 20000 in
theorem gL_isBounded_X2_byValue : GoodIn wsL_isBounded (wsV RL 101 RX2 yX2_byValue wsX2_byValue) := goodIn_app (goodIn_of _ (by decide +kernel)) ggL_isBounded_X2_byValue
set_option maxRecDepth 20000 in
theorem ggL_isRooted_X2_basis : GoodIn wsL_isRooted wsX2_basis := goodIn_r _ [15, 16, 17, 18, 19, 20, 14, 21, 22, 23, 24, 25, 26, 27, 28, 29, 30, 31, 32, 33, 34, 35, 36, 37, 38, 39, 40, 41, 42, 43, 44, 198, 199, 200, 201, 202, 203, 204, 205, 206] (by decide +kernel) (by decide +kernel)
set_option maxRecDepth 20000 in
theorem gL_isRooted_X2_basis : GoodIn wsL_isRooted (wsV RL 9 RX2 yX2_basis wsX2_basis) := goodIn_app (goodIn_of _ (by decide +kernel)) ggL_isRooted_X2_basis
set_option maxRecDepth 20000 in
theorem ggL_isRooted_X2_setCoefficient : GoodIn wsL_isRooted wsX2_setCoefficient := goodIn_r _ [48, 49, 50, 16, 18, 19, 20, 14, 21, 22, 23, 24, 25, 37, 38, 39, 29, 40, 31, 41, 42, 43, 44, 32, 51, 52, 53, 54, 198, 199, 200, 201, 202, 203, 204, 205, 206] (by decide +kernel) (by decide +kernel)
set_option maxRecDepth 20000 in
theorem gL_isRooted_X2_setCoefficient : GoodIn wsL_isRooted (wsV RL 15 RX2 yX2_setCoefficient wsX2_setCoefficient) := goodIn_app (goodIn_of _ (by decide +kernel)) ggL_isRooted_X2_setCoefficient
set_option maxRecDepth 20000 in
theorem ggL_isRooted_X2_value : GoodIn wsL_isRooted wsX2_value := goodIn_r _ [58, 59, 60, 16, 18, 19, 20, 14, 21, 22, 23, 24, 25, 61, 62, 63, 29, 64, 32, 65, 66, 67, 68, 69, 70, 31, 71, 72, 73, 74, 75, 76, 77, 198, 199, 200, 201, 202, 203, 204, 205, 206] (by decide +kernel) (by decide +kernel)
set_option maxRecDepth 20000 in
theorem gL_isRooted_X2_value : GoodIn wsL_isRooted (wsV RL 25 RX2 yX2_value wsX2_value) := goodIn_app (goodIn_of _ (by decide +kernel)) ggL_isRooted_X2_value
set_option maxRecDepth 20000 in
theorem ggL_isRooted_X2_root : GoodIn wsL_isRooted wsX2_root := goodIn_r _ [81, 16, 82, 83, 18, 19, 20, 14, 21, 22, 84, 85, 86, 87, 88, 89, 90, 91, 92, 93, 94, 95, 96, 97, 98, 99, 100, 101, 102, 103, 104, 105, 52, 53, 29, 54, 32, 106, 68, 69, 70, 31, 107, 108, 109, 110, 111, 112, 113, 114, 115, 116, 117, 76, 118, 119, 75, 77, 120, 121, 122, 123, 124, 62, 63, 64, 65, 66, 67, 71, 72, 73, 74, 125, 126, 127, 128, 129, 130, 131, 132, 133, 134, 135, 136, 137, 138, 198, 199, 200, 201, 202, 203, 204, 207, 208, 209, 210, 211, 205, 206] (by decide +kernel) (by decide +kernel)
set_option maxRecDepth 20000 in
theorem gL_isRooted_X2_root : GoodIn wsL_isRooted (wsV RL 108 RX2 yX2_root wsX2_root) := goodIn_app (goodIn_of _ (by decide +kernel)) ggL_isRooted_X2_root
set_option maxRecDepth 20000 in
theorem ggL_isRooted_X2_greatest : GoodIn wsL_isRooted wsX2_greatest := goodIn_r _ [142, 16, 143, 82, 144, 17, 145, 95, 96, 97, 18, 19, 20, 14, 21, 22, 146, 147, 148, 29, 149, 32, 65, 150, 27, 28, 30, 31, 33, 34, 35, 36, 67, 68, 69, 70, 151, 38, 39, 40, 71, 72, 73, 74, 75, 76, 77, 152, 42, 43, 44, 153, 154, 155, 156, 157, 158, 103, 104, 159, 160, 84, 85, 86, 87, 88, 89, 90, 91, 92, 93, 94, 98, 99, 100, 101, 102, 105, 52, 53, 54, 106, 107, 108, 109, 110, 111, 112, 113, 114, 115, 116, 117, 118, 119, 120, 121, 122, 123, 124, 62, 63, 64, 66, 125, 126, 127, 128, 129, 130, 131, 132, 133, 61, 134, 135, 136, 137, 138, 198, 199, 200, 201, 202, 203, 204, 205, 206, 207, 208, 209, 210, 211] (by decide +kernel) (by decide +kernel)
set_option maxRecDepth 20000 in
theorem gL_isRooted_X2_greatest : GoodIn wsL_isRooted (wsV RL 111 RX2 yX2_greatest wsX2_greatest) := goodIn_app (goodIn_of _ (by decide +kernel)) ggL_isRooted_X2_greatest
set_option maxRecDepth 20000 in
theorem ggL_isRooted_X2_divide : GoodIn wsL_isRooted wsX2_divide := goodIn_r _ [164, 59, 60, 16, 143, 18, 19, 20, 14, 21, 22, 23, 24, 25, 61, 62, 63, 29, 64, 32, 65, 66, 67, 68, 69, 70, 31, 71, 72, 73, 74, 75, 76, 77, 165, 166, 167, 168, 150, 27, 28, 30, 33, 34, 35, 36, 151, 38, 39, 40, 152, 42, 43, 44, 169, 170, 171, 172, 153, 154, 155, 156, 157, 158, 103, 96, 104, 159, 160, 173, 174, 175, 176, 51, 52, 53, 54, 198, 199, 200, 201, 202, 203, 204, 205, 206] (by decide +kernel) (by decide +kernel)
set_option maxRecDepth 20000 in
theorem gL_isRooted_X2_divide : GoodIn wsL_isRooted (wsV RL 118 RX2 yX2_divide wsX2_divide) := goodIn_app (goodIn_of _ (by decide +kernel)) ggL_isRooted_X2_divide
set_option maxRecDepth 20000 in
theorem ggL_isRooted_X2_degree : GoodIn wsL_isRooted wsX2_degree := goodIn_r _ [180, 16, 18, 19, 20, 14, 21, 22, 51, 52, 53, 29, 54, 32, 198, 199, 200, 201, 202, 203, 204, 205, 206] (by decide +kernel) (by decide +kernel)
set_option maxRecDepth 20000 in
theorem gL_isRooted_X2_degree : GoodIn wsL_isRooted (wsV RL 20 RX2 yX2_degree wsX2_degree) := goodIn_app (goodIn_of _ (by decide +kernel)) ggL_isRooted_X2_degree
set_option maxRecDepth 20000 in
theorem ggL_isRooted_X2_coefficient : GoodIn wsL_isRooted wsX2_coefficient := goodIn_r _ [184, 16, 18, 19, 20, 14, 21, 22, 23, 24, 25, 185, 68, 69, 29, 70, 31, 198, 199, 200, 201, 202, 203, 204, 205, 206] (by decide +kernel) (by decide +kernel)
set_option maxRecDepth 20000 in
theorem gL_isRooted_X2_coefficient : GoodIn wsL_isRooted (wsV RL 38 RX2 yX2_coefficient wsX2_coefficient) := goodIn_app (goodIn_of _ (by decide +kernel)) ggL_isRooted_X2_coefficient
set_option maxRecDepth 20000 in
theorem ggL_isRooted_X2_multiply : GoodIn wsL_isRooted wsX2_multiply := goodIn_r _ [189, 16, 143, 18, 19, 20, 14, 21, 22, 190, 191, 192, 29, 193, 32, 194, 195, 96, 196, 31, 197, 150, 27, 28, 30, 33, 34, 35, 36, 67, 68, 69, 70, 151, 38, 39, 40, 71, 72, 73, 74, 75, 76, 77, 152, 42, 43, 44, 169, 170, 171, 172, 153, 154, 155, 156, 157, 158, 103, 104, 159, 160, 173, 174, 175, 176, 51, 52, 53, 54, 198, 199, 200, 201, 202, 203, 204, 205, 206] (by decide +kernel) (by decide +kernel)
set_option maxRecDepth 20000 in
theorem gL_isRooted_X2_multiply : GoodIn wsL_isRooted (wsV RL 33 RX2 yX2_multiply wsX2_multiply) := goodIn_app (goodIn_of _ (by decide +kernel)) ggL_isRooted_X2_multiply
set_option maxRecDepth 20000 in
theorem ggL_isSampled_L_draws : GoodIn wsL_isSampled wsL_draws := goodIn_r _ [9, 10, 11, 12, 13, 14, 15, 16, 17, 18, 19, 20, 21, 22, 23, 24, 25, 26, 27, 28, 29, 30, 31, 32, 33, 34, 35, 36, 37, 38, 39, 40, 41, 42, 43, 44, 45, 46, 47, 48, 49, 50, 51, 52, 53, 54, 55, 56, 57, 58, 59, 137, 138, 139, 140, 141, 142, 143, 144, 145] (by decide +kernel) (by decide +kernel)
set_option maxRecDepth 20000 in
theorem gL_isSampled_L_draws : GoodIn wsL_isSampled (va_wsS RL 55 yL_draws wsL_draws) := goodIn_app (goodIn_of _ (by decide +kernel)) ggL_isSampled_L_draws
set_option maxRecDepth 20000 in
theorem ggL_isSampled_X2_sample : GoodIn wsL_isSampled wsX2_sample := goodIn_r _ [63, 17, 64, 65, 66, 67, 68, 69, 70, 19, 20, 21, 15, 22, 23, 24, 25, 26, 71, 72, 73, 74, 75, 76, 77, 78, 79, 80, 30, 81, 33, 82, 83, 84, 85, 86, 87, 32, 88, 89, 90, 91, 92, 93, 94, 137, 138, 139, 140, 141, 142, 143, 144, 145] (by decide +kernel) (by decide +kernel)
set_option maxRecDepth 20000 in
theorem gL_isSampled_X2_sample : GoodIn wsL_isSampled (wsV RL 128 RX2 yX2_sample wsX2_sample) := goodIn_app (goodIn_of _ (by decide +kernel)) ggL_isSampled_X2_sample
set_option maxRecDepth 20000 in
theorem ggL_isSampled_X2_misfit : GoodIn wsL_isSampled wsX2_misfit := goodIn_r _ [98, 17, 70, 64, 65, 66, 67, 99, 100, 101, 19, 20, 21, 15, 22, 23, 24, 25, 26, 71, 72, 73, 74, 75, 76, 77, 78, 79, 80, 30, 81, 33, 82, 83, 84, 85, 86, 87, 32, 88, 89, 90, 91, 92, 93, 94, 137, 138, 139, 140, 141, 142, 143, 144, 145] (by decide +kernel) (by decide +kernel)
set_option maxRecDepth 20000 in
theorem gL_isSampled_X2_misfit : GoodIn wsL_isSampled (wsV RL 131 RX2 yX2_misfit wsX2_misfit) := goodIn_app (goodIn_of _ (by decide +kernel)) ggL_isSampled_X2_misfit
set_option maxRecDepth 20000 in
theorem ggL_isSampled_X2_interpolate : GoodIn wsL_isSampled wsX2_interpolate := goodIn_r _ [105, 17, 106, 90, 18, 19, 20, 21, 15, 22, 23, 24, 25, 26, 27, 28, 29, 30, 31, 32, 33, 34, 35, 36, 37, 107, 108, 109, 110, 70, 71, 72, 73, 74, 75, 76, 77, 111, 88, 89, 91, 92, 93, 94, 38, 39, 40, 41, 42, 43, 44, 45, 112, 113, 114, 115, 116, 117, 118, 119, 120, 121, 65, 66, 67, 122, 123, 124, 125, 126, 127, 84, 85, 86, 87, 52, 53, 54, 55, 137, 138, 139, 140, 141, 142, 143, 144, 145] (by decide +kernel) (by decide +kernel)
set_option maxRecDepth 20000 in
theorem gL_isSampled_X2_interpolate : GoodIn wsL_isSampled (wsV RL 134 RX2 yX2_interpolate wsX2_interpolate) := goodIn_app (goodIn_of _ (by decide +kernel)) ggL_isSampled_X2_interpolate
set_option maxRecDepth 20000 in
theorem ggL_isSampled_X2_coefficient : GoodIn wsL_isSampled wsX2_coefficient := goodIn_r _ [131, 17, 19, 20, 21, 15, 22, 23, 24, 25, 26, 132, 85, 86, 30, 87, 32, 137, 138, 139, 140, 141, 142, 143, 144, 145] (by decide +kernel) (by decide +kernel)
set_option maxRecDepth 20000 in
theorem gL_isSampled_X2_coefficient : GoodIn wsL_isSampled (wsV RL 38 RX2 yX2_coefficient wsX2_coefficient) := goodIn_app (goodIn_of _ (by decide +kernel)) ggL_isSampled_X2_coefficient
set_option maxRecDepth 20000 in
theorem ggL_isSampled_X2_extremePoint : GoodIn wsL_isSampled wsX2_extremePoint := goodIn_r _ [136, 17, 24, 25, 15, 26, 71, 72, 73, 74, 75, 76, 77] (by decide +kernel) (by decide +kernel)
set_option maxRecDepth 20000 in
theorem gL_isSampled_X2_extremePoint : GoodIn wsL_isSampled (wsV RL 141 RX2 yX2_extremePoint wsX2_extremePoint) := goodIn_app (goodIn_of _ (by decide +kernel)) ggL_isSampled_X2_extremePoint
set_option maxRecDepth 20000 in
theorem ggL_law_X2_init : GoodIn wsL_law wsX2_init := goodIn_r _ [5, 6, 7, 8, 9, 10, 11, 12, 13, 14, 15, 16, 17, 18, 19, 20, 21, 22, 23, 24, 25, 26, 27, 28, 29, 30, 31, 374, 375, 376, 377, 378, 379, 380, 381, 382, 383, 384, 385, 386, 387] (by decide +kernel) (by decide +kernel)
set_option maxRecDepth 20000 in
theorem gL_law_X2_init : GoodIn wsL_law (wsX2_init) := ggL_law_X2_init
set_option maxRecDepth 20000 in
theorem ggL_law_L_cell : GoodIn wsL_law wsL_cell := goodIn_r _ [35, 36, 37] (by decide +kernel) (by decide +kernel)
set_option maxRecDepth 20000 in
theorem gL_law_L_cell : GoodIn wsL_law (va_wsS RL 147 yL_cell wsL_cell) := goodIn_app (goodIn_of _ (by decide +kernel)) ggL_law_L_cell
set_option maxRecDepth 20000 in
theorem ggL_law_L_areBasics : GoodIn wsL_law wsL_areBasics := goodIn_r _ [40, 41, 42, 43, 44, 45, 46, 47, 48, 49, 50, 2, 51, 52, 53, 54, 55, 56, 57, 10, 58, 59, 60, 61, 62, 63, 18, 64, 31, 65, 66, 67, 68, 69, 70, 71, 72, 73, 74, 75, 76, 77, 78, 79, 80, 81, 82, 83, 84, 85, 86, 87, 88, 89, 90, 91, 92, 93, 94, 95, 96, 97, 98, 99, 100, 101, 102, 103, 104, 105, 106, 107, 108, 109, 110, 111, 112, 19, 113, 114, 115, 116, 117, 118, 119, 120, 121, 122, 123, 124, 125, 126, 127, 128, 129, 130, 131, 132, 133, 134, 135, 136, 137, 138, 139, 140, 141, 142, 143, 144, 145, 146, 147, 148, 149, 150, 151, 152, 153, 154, 155, 21, 22, 156, 157, 158, 159, 20, 160, 161, 162, 163, 164, 165, 166, 167, 168, 169, 170, 171, 172, 173, 374, 375, 376, 377, 378, 379, 380, 386, 387] (by decide +kernel) (by decide +kernel)
set_option maxRecDepth 20000 in
theorem gL_law_L_areBasics : GoodIn wsL_law (va_wsS RL 151 yL_areBasics wsL_areBasics) := goodIn_app (goodIn_of _ (by decide +kernel)) ggL_law_L_areBasics
set_option maxRecDepth 20000 in
theorem ggL_law_L_isInverse : GoodIn wsL_law wsL_isInverse := goodIn_r _ [176, 177, 43, 178, 179, 180, 181, 41, 182, 183, 184, 185, 34, 186, 187, 37, 48, 49, 50, 2, 51, 52, 53, 54, 55, 56, 57, 10, 58, 59, 60, 61, 62, 63, 18, 64, 31, 65, 66, 67, 68, 69, 70, 71, 72, 73, 74, 75, 76, 77, 188, 189, 190, 191, 192, 193, 82, 83, 84, 85, 78, 79, 80, 81, 194, 195, 196, 197, 19, 198, 199, 200, 201, 96, 122, 98, 99, 100, 101, 102, 103, 104, 105, 106, 107, 108, 123, 124, 125, 126, 127, 128, 129, 130, 131, 132, 133, 134, 135, 119, 136, 137, 138, 139, 140, 141, 142, 202, 203, 204, 205, 206, 207, 208, 209, 86, 87, 88, 89, 90, 91, 92, 93, 94, 95, 97, 143, 144, 145, 146, 147, 210, 211, 212, 213, 214, 173, 374, 375, 376, 377, 378, 379, 380, 386, 387] (by decide +kernel) (by decide +kernel)
set_option maxRecDepth 20000 in
theorem gL_law_L_isInverse : GoodIn wsL_law (va_wsS RL 155 yL_isInverse wsL_isInverse) := goodIn_app (goodIn_of _ (by decide +kernel)) ggL_law_L_isInverse
set_option maxRecDepth 20000 in
theorem ggL_law_L_isBounded : GoodIn wsL_law wsL_isBounded := goodIn_r _ [217, 218, 219, 220, 221, 41, 179, 222, 223, 184, 185, 34, 186, 187, 37, 48, 49, 50, 2, 51, 52, 53, 54, 55, 56, 57, 10, 58, 59, 60, 61, 62, 63, 18, 64, 31, 65, 66, 67, 68, 69, 70, 71, 72, 73, 74, 75, 76, 77, 188, 189, 190, 191, 192, 193, 82, 83, 84, 85, 78, 79, 80, 81, 164, 165, 166, 167, 168, 135, 119, 136, 147, 99, 100, 101, 86, 87, 88, 89, 90, 91, 92, 93, 94, 95, 96, 97, 98, 102, 103, 104, 105, 106, 107, 108, 224, 225, 226, 227, 139, 140, 141, 142, 228, 229, 230, 231, 232, 233, 234, 235, 236, 134, 237, 238, 239, 240, 241, 242, 243, 244, 245, 246, 247, 124, 248, 249, 250, 251, 19, 160, 161, 162, 163, 125, 126, 127, 128, 129, 130, 131, 132, 133, 137, 138, 143, 144, 145, 146, 252, 253, 254, 255, 256, 257, 258, 259, 260, 374, 375, 376, 377, 378, 379, 380, 386, 387] (by decide +kernel) (by decide +kernel)
set_option maxRecDepth 20000 in
theorem gL_law_L_isBounded : GoodIn wsL_law (va_wsS RL 158 yL_isBounded wsL_isBounded) := goodIn_app (goodIn_of _ (by decide +kernel)) ggL_law_L_isBounded
set_option maxRecDepth 20000 in
theorem ggL_law_L_isRooted : GoodIn wsL_law wsL_isRooted := goodIn_r _ [263, 264, 265, 42, 266, 267, 268, 222, 269, 270, 271, 48, 49, 50, 2, 51, 52, 53, 54, 55, 56, 57, 10, 58, 59, 60, 61, 62, 63, 18, 64, 31, 65, 66, 67, 68, 69, 70, 71, 72, 73, 74, 75, 76, 77, 188, 189, 190, 191, 192, 193, 82, 83, 84, 85, 86, 87, 88, 89, 90, 91, 92, 93, 94, 95, 96, 97, 98, 99, 100, 101, 102, 103, 104, 105, 106, 107, 108, 272, 273, 274, 275, 16, 256, 276, 277, 278, 15, 279, 280, 281, 282, 283, 284, 285, 286, 119, 287, 288, 289, 290, 291, 292, 135, 136, 293, 294, 295, 296, 297, 298, 27, 299, 300, 301, 302, 303, 304, 305, 306, 307, 308, 309, 310, 311, 312, 313, 314, 315, 26, 316, 317, 318, 319, 320, 321, 322, 323, 324, 325, 326, 327, 328, 19, 329, 330, 206, 207, 208, 209, 122, 123, 124, 129, 130, 131, 132, 133, 134, 137, 138, 331, 332, 333, 334, 335, 336, 337, 338, 125, 126, 127, 128, 139, 140, 141, 142, 78, 79, 80, 81, 143, 144, 145, 146, 147, 109, 110, 111, 112, 113, 114, 115, 116, 117, 118, 120, 121, 374, 375, 376, 377, 378, 379, 380, 386, 387, 381, 382, 383, 384, 385] (by decide +kernel) (by decide +kernel)
set_option maxRecDepth 20000 in
theorem gL_law_L_isRooted : GoodIn wsL_law (va_wsS RL 161 yL_isRooted wsL_isRooted) := goodIn_app (goodIn_of _ (by decide +kernel)) ggL_law_L_isRooted
set_option maxRecDepth 20000 in
theorem ggL_law_L_isSampled : GoodIn wsL_law wsL_isSampled := goodIn_r _ [341, 218, 342, 343, 42, 344, 184, 185, 34, 186, 187, 37, 48, 49, 50, 2, 51, 52, 53, 54, 55, 56, 57, 10, 58, 59, 60, 61, 62, 63, 18, 64, 31, 65, 66, 67, 68, 69, 70, 71, 72, 73, 74, 75, 76, 77, 188, 189, 190, 191, 192, 193, 82, 83, 84, 85, 78, 79, 80, 81, 345, 346, 347, 348, 168, 135, 119, 136, 349, 350, 12, 351, 352, 353, 354, 355, 356, 357, 92, 93, 94, 95, 96, 97, 98, 99, 100, 101, 102, 103, 104, 105, 106, 107, 108, 358, 359, 360, 361, 330, 286, 287, 362, 363, 364, 365, 19, 366, 367, 368, 369, 173, 125, 126, 127, 128, 129, 130, 131, 132, 133, 134, 137, 138, 139, 140, 141, 142, 143, 144, 145, 146, 147, 370, 371, 372, 373, 374, 375, 376, 377, 378, 379, 380, 386, 387] (by decide +kernel) (by decide +kernel)
set_option maxRecDepth 20000 in
theorem gL_law_L_isSampled : GoodIn wsL_law (va_wsS RL 165 yL_isSampled wsL_isSampled) := goodIn_app (goodIn_of _ (by decide +kernel)) ggL_law_L_isSampled
