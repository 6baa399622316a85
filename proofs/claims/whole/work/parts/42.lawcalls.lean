/-! the words of the law's calls -/
theorem inlX0 : ∀ w ∈ wsX00, w ∈ wsL_law := fun _ h => List.mem_append_left _ (List.mem_append_left _ (List.mem_append_right _ h))
theorem inX0 : ∀ w ∈ wsX00, w ∈ lw_tbl := fun w h => wsL_law_in w (inlX0 w h)
theorem inlX1 : ∀ w ∈ wsX10, w ∈ wsL_law := fun _ h => List.mem_append_left _ (List.mem_append_right _ h)
theorem inX1 : ∀ w ∈ wsX10, w ∈ lw_tbl := fun w h => wsL_law_in w (inlX1 w h)
theorem inlX2 : ∀ w ∈ wsX20, w ∈ wsL_law := fun _ h => List.mem_append_left _ (List.mem_append_left _ (List.mem_append_left _ (List.mem_append_left _ (List.mem_append_right _ h))))
theorem inX2 : ∀ w ∈ wsX20, w ∈ lw_tbl := fun w h => wsL_law_in w (inlX2 w h)
theorem inlX3 : ∀ w ∈ wsX30, w ∈ wsL_law := fun _ h => List.mem_append_left _ (List.mem_append_left _ (List.mem_append_left _ (List.mem_append_right _ h)))
theorem inX3 : ∀ w ∈ wsX30, w ∈ lw_tbl := fun w h => wsL_law_in w (inlX3 w h)
set_option maxRecDepth 20000 in
theorem ggL_law_X2_init : GoodIn wsL_law wsX2_init := goodIn_r _ [8, 9, 10, 11, 12, 13, 14, 15, 16, 17, 18, 19, 20, 21, 22, 23, 24, 25, 26, 27, 28, 29, 30, 31, 32, 33, 34, 566, 567, 568, 569, 570, 571, 572, 581, 582, 583, 584, 585, 586, 587] (by decide +kernel) (by decide +kernel)
set_option maxRecDepth 20000 in
theorem gL_law_X2_init : GoodIn wsL_law (wsX2_init) := ggL_law_X2_init
set_option maxRecDepth 20000 in
theorem ggL_law_X3_init : GoodIn wsL_law wsX3_init := goodIn_r _ [37, 38, 10, 11, 14, 39, 40, 41, 42, 43, 44, 45, 46, 47, 48, 49, 50, 51, 52, 53, 573, 574, 575, 576, 577, 578, 579, 580] (by decide +kernel) (by decide +kernel)
set_option maxRecDepth 20000 in
theorem gL_law_X3_init : GoodIn wsL_law (wsX3_init) := ggL_law_X3_init
set_option maxRecDepth 20000 in
theorem ggL_law_X2_setCoefficient : GoodIn wsL_law wsX2_setCoefficient := goodIn_r _ [57, 58, 59, 60, 61, 62, 63, 2, 64, 13, 65, 66, 67, 68, 69, 70, 21, 71, 34, 72, 73, 74, 75, 76, 77, 78, 79, 80, 566, 567, 568, 569, 570, 571, 572, 586, 587] (by decide +kernel) (by decide +kernel)
set_option maxRecDepth 20000 in
theorem gL_law_X2_setCoefficient : GoodIn wsL_law (wsV RL 13 RX2 yX2_setCoefficient wsX2_setCoefficient) := goodIn_app (goodIn_of _ (by decide +kernel)) ggL_law_X2_setCoefficient
set_option maxRecDepth 20000 in
theorem ggL_law_X3_setCoefficient : GoodIn wsL_law wsX3_setCoefficient := goodIn_r _ [84, 85, 86, 87, 88, 41, 89, 90, 5, 91, 92, 93, 94, 95, 96, 97, 98, 99, 100, 101, 102, 103, 39, 104, 105, 106, 107, 108, 109, 110, 111, 112, 113, 114, 115, 116, 117, 118, 119, 120, 573, 574, 575, 576, 577, 578, 579, 580] (by decide +kernel) (by decide +kernel)
set_option maxRecDepth 20000 in
theorem gL_law_X3_setCoefficient : GoodIn wsL_law (wsV RL 17 RX3 yX3_setCoefficient wsX3_setCoefficient) := goodIn_app (goodIn_of _ (by decide +kernel)) ggL_law_X3_setCoefficient
set_option maxRecDepth 20000 in
theorem ggL_law_X2_coefficient : GoodIn wsL_law wsX2_coefficient := goodIn_r _ [124, 60, 61, 62, 63, 2, 64, 13, 65, 66, 67, 125, 126, 127, 21, 128, 34, 566, 567, 568, 569, 570, 571, 572, 586, 587] (by decide +kernel) (by decide +kernel)
set_option maxRecDepth 20000 in
theorem gL_law_X2_coefficient : GoodIn wsL_law (wsV RL 18 RX2 yX2_coefficient wsX2_coefficient) := goodIn_app (goodIn_of _ (by decide +kernel)) ggL_law_X2_coefficient
set_option maxRecDepth 20000 in
theorem ggL_law_X3_coefficient : GoodIn wsL_law wsX3_coefficient := goodIn_r _ [132, 85, 88, 89, 90, 5, 91, 92, 93, 94, 95, 100, 101, 102, 103, 39, 573, 574, 575, 576, 577, 578, 579, 580] (by decide +kernel) (by decide +kernel)
set_option maxRecDepth 20000 in
theorem gL_law_X3_coefficient : GoodIn wsL_law (wsV RL 22 RX3 yX3_coefficient wsX3_coefficient) := goodIn_app (goodIn_of _ (by decide +kernel)) ggL_law_X3_coefficient
set_option maxRecDepth 20000 in
theorem ggL_law_X2_degree : GoodIn wsL_law wsX2_degree := goodIn_r _ [136, 60, 61, 62, 63, 2, 64, 13, 77, 78, 79, 21, 80, 76, 566, 567, 568, 569, 570, 571, 572, 586, 587] (by decide +kernel) (by decide +kernel)
set_option maxRecDepth 20000 in
theorem gL_law_X2_degree : GoodIn wsL_law (wsV RL 23 RX2 yX2_degree wsX2_degree) := goodIn_app (goodIn_of _ (by decide +kernel)) ggL_law_X2_degree
set_option maxRecDepth 20000 in
theorem ggL_law_X3_degree : GoodIn wsL_law wsX3_degree := goodIn_r _ [140, 41, 88, 89, 90, 5, 91, 92, 93, 94, 95, 573, 574, 575, 576, 577, 578, 579, 580] (by decide +kernel) (by decide +kernel)
set_option maxRecDepth 20000 in
theorem gL_law_X3_degree : GoodIn wsL_law (wsV RL 27 RX3 yX3_degree wsX3_degree) := goodIn_app (goodIn_of _ (by decide +kernel)) ggL_law_X3_degree
set_option maxRecDepth 20000 in
theorem ggL_law_X2_copy : GoodIn wsL_law wsX2_copy := goodIn_r _ [144, 60, 61, 62, 63, 2, 64, 13, 145, 146, 147, 21, 148, 34, 76, 149, 126, 127, 128, 77, 78, 79, 80, 566, 567, 568, 569, 570, 571, 572, 586, 587] (by decide +kernel) (by decide +kernel)
set_option maxRecDepth 20000 in
theorem gL_law_X2_copy : GoodIn wsL_law (wsV RL 28 RX2 yX2_copy wsX2_copy) := goodIn_app (goodIn_of _ (by decide +kernel)) ggL_law_X2_copy
set_option maxRecDepth 20000 in
theorem ggL_law_X3_copy : GoodIn wsL_law wsX3_copy := goodIn_r _ [153, 88, 41, 89, 90, 5, 91, 92, 93, 94, 95, 96, 97, 98, 99, 100, 101, 102, 103, 39, 104, 105, 106, 107, 573, 574, 575, 576, 577, 578, 579, 580] (by decide +kernel) (by decide +kernel)
set_option maxRecDepth 20000 in
theorem gL_law_X3_copy : GoodIn wsL_law (wsV RL 31 RX3 yX3_copy wsX3_copy) := goodIn_app (goodIn_of _ (by decide +kernel)) ggL_law_X3_copy
set_option maxRecDepth 20000 in
theorem ggL_law_X2_value : GoodIn wsL_law wsX2_value := goodIn_r _ [157, 158, 159, 60, 61, 62, 63, 2, 64, 13, 65, 66, 67, 160, 161, 162, 21, 163, 76, 164, 165, 149, 126, 127, 128, 34, 166, 167, 168, 169, 170, 171, 172, 566, 567, 568, 569, 570, 571, 572, 586, 587] (by decide +kernel) (by decide +kernel)
set_option maxRecDepth 20000 in
theorem gL_law_X2_value : GoodIn wsL_law (wsV RL 32 RX2 yX2_value wsX2_value) := goodIn_app (goodIn_of _ (by decide +kernel)) ggL_law_X2_value
set_option maxRecDepth 20000 in
theorem ggL_law_X3_value : GoodIn wsL_law wsX3_value := goodIn_r _ [176, 88, 89, 90, 5, 91, 92, 93, 94, 95, 177, 178, 179, 180, 181, 182, 183, 184, 185, 41, 186, 100, 101, 102, 103, 39, 187, 188, 189, 573, 574, 575, 576, 577, 578, 579, 580] (by decide +kernel) (by decide +kernel)
set_option maxRecDepth 20000 in
theorem gL_law_X3_value : GoodIn wsL_law (wsV RL 35 RX3 yX3_value wsX3_value) := goodIn_app (goodIn_of _ (by decide +kernel)) ggL_law_X3_value
set_option maxRecDepth 20000 in
theorem ggL_law_X2_add : GoodIn wsL_law wsX2_add := goodIn_r _ [193, 60, 22, 61, 62, 63, 2, 64, 13, 65, 66, 67, 194, 195, 196, 21, 197, 34, 149, 126, 127, 128, 198, 73, 74, 75, 76, 199, 200, 201, 202, 203, 204, 205, 206, 207, 208, 209, 210, 211, 212, 213, 145, 146, 147, 148, 77, 78, 79, 80, 566, 567, 568, 569, 570, 571, 572, 586, 587] (by decide +kernel) (by decide +kernel)
set_option maxRecDepth 20000 in
theorem gL_law_X2_add : GoodIn wsL_law (wsV RL 36 RX2 yX2_add wsX2_add) := goodIn_app (goodIn_of _ (by decide +kernel)) ggL_law_X2_add
set_option maxRecDepth 20000 in
theorem ggL_law_X3_add : GoodIn wsL_law wsX3_add := goodIn_r _ [217, 218, 219, 88, 89, 90, 5, 91, 92, 93, 94, 95, 220, 221, 222, 223, 41, 104, 105, 106, 107, 39, 100, 101, 102, 103, 108, 109, 110, 111, 112, 113, 114, 115, 116, 87, 117, 118, 119, 120, 96, 97, 98, 99, 573, 574, 575, 576, 577, 578, 579, 580] (by decide +kernel) (by decide +kernel)
set_option maxRecDepth 20000 in
theorem gL_law_X3_add : GoodIn wsL_law (wsV RL 40 RX3 yX3_add wsX3_add) := goodIn_app (goodIn_of _ (by decide +kernel)) ggL_law_X3_add
set_option maxRecDepth 20000 in
theorem ggL_law_X2_multiply : GoodIn wsL_law wsX2_multiply := goodIn_r _ [227, 60, 22, 61, 62, 63, 2, 64, 13, 228, 229, 230, 21, 231, 76, 232, 233, 210, 234, 34, 235, 236, 237, 238, 239, 240, 241, 242, 243, 149, 126, 127, 128, 244, 69, 70, 71, 166, 167, 168, 169, 170, 171, 172, 198, 73, 74, 75, 199, 200, 201, 202, 203, 204, 205, 206, 207, 208, 209, 211, 212, 213, 145, 146, 147, 148, 77, 78, 79, 80, 566, 567, 568, 569, 570, 571, 572, 586, 587] (by decide +kernel) (by decide +kernel)
set_option maxRecDepth 20000 in
theorem gL_law_X2_multiply : GoodIn wsL_law (wsV RL 41 RX2 yX2_multiply wsX2_multiply) := goodIn_app (goodIn_of _ (by decide +kernel)) ggL_law_X2_multiply
set_option maxRecDepth 20000 in
theorem ggL_law_X3_multiply : GoodIn wsL_law wsX3_multiply := goodIn_r _ [248, 88, 89, 90, 5, 91, 92, 93, 94, 95, 249, 250, 251, 252, 41, 253, 220, 221, 222, 223, 104, 105, 106, 107, 39, 100, 101, 102, 103, 187, 188, 189, 186, 112, 113, 114, 115, 116, 87, 117, 118, 119, 120, 108, 109, 110, 111, 96, 97, 98, 99, 573, 574, 575, 576, 577, 578, 579, 580] (by decide +kernel) (by decide +kernel)
set_option maxRecDepth 20000 in
theorem gL_law_X3_multiply : GoodIn wsL_law (wsV RL 44 RX3 yX3_multiply wsX3_multiply) := goodIn_app (goodIn_of _ (by decide +kernel)) ggL_law_X3_multiply
set_option maxRecDepth 20000 in
theorem ggL_law_X2_differentiate : GoodIn wsL_law wsX2_differentiate := goodIn_r _ [257, 60, 22, 61, 62, 63, 2, 64, 13, 258, 259, 260, 21, 261, 76, 164, 236, 237, 238, 239, 34, 240, 241, 242, 243, 149, 126, 127, 128, 244, 69, 70, 71, 166, 167, 168, 169, 170, 171, 172, 198, 73, 74, 75, 199, 200, 201, 202, 203, 204, 205, 206, 207, 208, 209, 210, 211, 212, 213, 145, 146, 147, 148, 77, 78, 79, 80, 566, 567, 568, 569, 570, 571, 572, 586, 587] (by decide +kernel) (by decide +kernel)
set_option maxRecDepth 20000 in
theorem gL_law_X2_differentiate : GoodIn wsL_law (wsV RL 45 RX2 yX2_differentiate wsX2_differentiate) := goodIn_app (goodIn_of _ (by decide +kernel)) ggL_law_X2_differentiate
set_option maxRecDepth 20000 in
theorem ggL_law_X3_differentiate : GoodIn wsL_law wsX3_differentiate := goodIn_r _ [265, 88, 89, 90, 5, 91, 92, 93, 94, 95, 266, 267, 268, 269, 41, 186, 220, 221, 222, 223, 104, 105, 106, 107, 39, 100, 101, 102, 103, 187, 188, 189, 108, 109, 110, 111, 112, 113, 114, 115, 116, 87, 117, 118, 119, 120, 96, 97, 98, 99, 573, 574, 575, 576, 577, 578, 579, 580] (by decide +kernel) (by decide +kernel)
set_option maxRecDepth 20000 in
theorem gL_law_X3_differentiate : GoodIn wsL_law (wsV RL 48 RX3 yX3_differentiate wsX3_differentiate) := goodIn_app (goodIn_of _ (by decide +kernel)) ggL_law_X3_differentiate
set_option maxRecDepth 20000 in
theorem ggL_law_X2_antidifferentiate : GoodIn wsL_law wsX2_antidifferentiate := goodIn_r _ [273, 60, 22, 61, 62, 63, 2, 64, 13, 274, 275, 276, 21, 277, 76, 164, 236, 237, 238, 239, 34, 240, 241, 242, 243, 149, 126, 127, 128, 166, 167, 168, 169, 170, 171, 172, 244, 69, 70, 71, 198, 73, 74, 75, 199, 200, 201, 202, 203, 204, 205, 206, 207, 208, 209, 210, 211, 212, 213, 145, 146, 147, 148, 77, 78, 79, 80, 566, 567, 568, 569, 570, 571, 572, 586, 587] (by decide +kernel) (by decide +kernel)
set_option maxRecDepth 20000 in
theorem gL_law_X2_antidifferentiate : GoodIn wsL_law (wsV RL 49 RX2 yX2_antidifferentiate wsX2_antidifferentiate) := goodIn_app (goodIn_of _ (by decide +kernel)) ggL_law_X2_antidifferentiate
set_option maxRecDepth 20000 in
theorem ggL_law_X3_antidifferentiate : GoodIn wsL_law wsX3_antidifferentiate := goodIn_r _ [281, 88, 41, 186, 89, 90, 5, 91, 92, 93, 94, 95, 220, 221, 222, 223, 104, 105, 106, 107, 39, 100, 101, 102, 103, 187, 188, 189, 108, 109, 110, 111, 112, 113, 114, 115, 116, 87, 117, 118, 119, 120, 96, 97, 98, 99, 573, 574, 575, 576, 577, 578, 579, 580] (by decide +kernel) (by decide +kernel)
set_option maxRecDepth 20000 in
theorem gL_law_X3_antidifferentiate : GoodIn wsL_law (wsV RL 52 RX3 yX3_antidifferentiate wsX3_antidifferentiate) := goodIn_app (goodIn_of _ (by decide +kernel)) ggL_law_X3_antidifferentiate
set_option maxRecDepth 20000 in
theorem ggL_law_X2_compose : GoodIn wsL_law wsX2_compose := goodIn_r _ [285, 60, 61, 62, 63, 2, 64, 13, 286, 287, 288, 289, 24, 25, 22, 290, 237, 238, 21, 239, 34, 76, 240, 241, 242, 243, 77, 78, 79, 80, 125, 126, 127, 128, 291, 292, 293, 294, 23, 228, 229, 230, 231, 232, 233, 210, 234, 235, 236, 149, 244, 69, 70, 71, 166, 167, 168, 169, 170, 171, 172, 198, 73, 74, 75, 203, 204, 205, 206, 207, 208, 209, 211, 212, 213, 194, 195, 196, 197, 68, 72, 145, 146, 147, 148, 199, 200, 201, 202, 566, 567, 568, 569, 570, 571, 572, 586, 587] (by decide +kernel) (by decide +kernel)
set_option maxRecDepth 20000 in
theorem gL_law_X2_compose : GoodIn wsL_law (wsV RL 53 RX2 yX2_compose wsX2_compose) := goodIn_app (goodIn_of _ (by decide +kernel)) ggL_law_X2_compose
set_option maxRecDepth 20000 in
theorem ggL_law_X3_compose : GoodIn wsL_law wsX3_compose := goodIn_r _ [298, 88, 41, 89, 90, 5, 91, 92, 93, 94, 95, 220, 221, 222, 223, 104, 105, 106, 107, 39, 100, 101, 102, 103, 299, 300, 301, 302, 249, 250, 251, 252, 253, 187, 188, 189, 186, 112, 113, 114, 115, 116, 87, 117, 118, 119, 120, 96, 97, 98, 99, 573, 574, 575, 576, 577, 578, 579, 580] (by decide +kernel) (by decide +kernel)
set_option maxRecDepth 20000 in
theorem gL_law_X3_compose : GoodIn wsL_law (wsV RL 56 RX3 yX3_compose wsX3_compose) := goodIn_app (goodIn_of _ (by decide +kernel)) ggL_law_X3_compose
set_option maxRecDepth 20000 in
theorem ggL_law_X2_divide : GoodIn wsL_law wsX2_divide := goodIn_r _ [306, 158, 159, 60, 22, 61, 62, 63, 2, 64, 13, 65, 66, 67, 160, 161, 162, 21, 163, 76, 164, 165, 149, 126, 127, 128, 34, 166, 167, 168, 169, 170, 171, 172, 307, 308, 309, 310, 236, 237, 238, 239, 240, 241, 242, 243, 244, 69, 70, 71, 198, 73, 74, 75, 199, 200, 201, 202, 203, 204, 205, 206, 207, 208, 209, 210, 211, 212, 213, 145, 146, 147, 148, 77, 78, 79, 80, 566, 567, 568, 569, 570, 571, 572, 586, 587] (by decide +kernel) (by decide +kernel)
set_option maxRecDepth 20000 in
theorem gL_law_X2_divide : GoodIn wsL_law (wsV RL 57 RX2 yX2_divide wsX2_divide) := goodIn_app (goodIn_of _ (by decide +kernel)) ggL_law_X2_divide
set_option maxRecDepth 20000 in
theorem ggL_law_X3_divide : GoodIn wsL_law wsX3_divide := goodIn_r _ [314, 88, 41, 186, 181, 89, 90, 5, 91, 92, 93, 94, 95, 177, 178, 179, 180, 182, 183, 184, 185, 100, 101, 102, 103, 39, 187, 188, 189, 220, 221, 222, 223, 104, 105, 106, 107, 108, 109, 110, 111, 112, 113, 114, 115, 116, 87, 117, 118, 119, 120, 96, 97, 98, 99, 573, 574, 575, 576, 577, 578, 579, 580] (by decide +kernel) (by decide +kernel)
set_option maxRecDepth 20000 in
theorem gL_law_X3_divide : GoodIn wsL_law (wsV RL 60 RX3 yX3_divide wsX3_divide) := goodIn_app (goodIn_of _ (by decide +kernel)) ggL_law_X3_divide
set_option maxRecDepth 20000 in
theorem ggL_law_X2_cut : GoodIn wsL_law wsX2_cut := goodIn_r _ [318, 319, 60, 61, 62, 63, 2, 64, 13, 65, 66, 67, 77, 78, 79, 21, 80, 76, 320, 321, 322, 323, 208, 209, 210, 211, 149, 126, 127, 128, 34, 324, 325, 326, 327, 328, 329, 330, 198, 73, 74, 75, 566, 567, 568, 569, 570, 571, 572, 586, 587] (by decide +kernel) (by decide +kernel)
set_option maxRecDepth 20000 in
theorem gL_law_X2_cut : GoodIn wsL_law (wsV RL 61 RX2 yX2_cut wsX2_cut) := goodIn_app (goodIn_of _ (by decide +kernel)) ggL_law_X2_cut
set_option maxRecDepth 20000 in
theorem ggL_law_X3_cut : GoodIn wsL_law wsX3_cut := goodIn_r _ [334, 88, 41, 89, 90, 5, 91, 92, 93, 94, 95, 335, 336, 337, 338, 339, 340, 341, 342, 100, 101, 102, 103, 39, 118, 119, 120, 104, 105, 106, 107, 573, 574, 575, 576, 577, 578, 579, 580] (by decide +kernel) (by decide +kernel)
set_option maxRecDepth 20000 in
theorem gL_law_X3_cut : GoodIn wsL_law (wsV RL 64 RX3 yX3_cut wsX3_cut) := goodIn_app (goodIn_of _ (by decide +kernel)) ggL_law_X3_cut
set_option maxRecDepth 20000 in
theorem ggL_law_X2_basis : GoodIn wsL_law wsX2_basis := goodIn_r _ [346, 60, 347, 61, 62, 63, 2, 64, 13, 65, 66, 67, 290, 237, 238, 21, 239, 34, 76, 240, 241, 242, 243, 68, 69, 70, 71, 72, 73, 74, 75, 566, 567, 568, 569, 570, 571, 572, 586, 587] (by decide +kernel) (by decide +kernel)
set_option maxRecDepth 20000 in
theorem gL_law_X2_basis : GoodIn wsL_law (wsV RL 65 RX2 yX2_basis wsX2_basis) := goodIn_app (goodIn_of _ (by decide +kernel)) ggL_law_X2_basis
set_option maxRecDepth 20000 in
theorem ggL_law_X3_basis : GoodIn wsL_law wsX3_basis := goodIn_r _ [351, 85, 88, 181, 93, 94, 5, 95, 89, 90, 91, 92, 220, 221, 222, 223, 41, 104, 105, 106, 107, 39, 573, 574, 575, 576, 577, 578, 579, 580] (by decide +kernel) (by decide +kernel)
set_option maxRecDepth 20000 in
theorem gL_law_X3_basis : GoodIn wsL_law (wsV RL 68 RX3 yX3_basis wsX3_basis) := goodIn_app (goodIn_of _ (by decide +kernel)) ggL_law_X3_basis
set_option maxRecDepth 20000 in
theorem ggL_law_X2_integral : GoodIn wsL_law wsX2_integral := goodIn_r _ [355, 60, 168, 356, 61, 62, 63, 2, 64, 13, 125, 126, 127, 21, 128, 34, 77, 78, 79, 80, 76, 357, 166, 167, 169, 170, 171, 172, 566, 567, 568, 569, 570, 571, 572, 586, 587] (by decide +kernel) (by decide +kernel)
set_option maxRecDepth 20000 in
theorem gL_law_X2_integral : GoodIn wsL_law (wsV RL 69 RX2 yX2_integral wsX2_integral) := goodIn_app (goodIn_of _ (by decide +kernel)) ggL_law_X2_integral
set_option maxRecDepth 20000 in
theorem ggL_law_X3_integral : GoodIn wsL_law wsX3_integral := goodIn_r _ [361, 88, 186, 41, 362, 89, 90, 5, 91, 92, 93, 94, 95, 100, 101, 102, 103, 39, 187, 188, 189, 573, 574, 575, 576, 577, 578, 579, 580] (by decide +kernel) (by decide +kernel)
set_option maxRecDepth 20000 in
theorem gL_law_X3_integral : GoodIn wsL_law (wsV RL 72 RX3 yX3_integral wsX3_integral) := goodIn_app (goodIn_of _ (by decide +kernel)) ggL_law_X3_integral
set_option maxRecDepth 20000 in
theorem ggL_law_X2_inner : GoodIn wsL_law wsX2_inner := goodIn_r _ [366, 60, 168, 347, 61, 62, 63, 2, 64, 13, 125, 126, 127, 21, 128, 34, 357, 166, 167, 169, 170, 171, 172, 566, 567, 568, 569, 570, 571, 572, 586, 587] (by decide +kernel) (by decide +kernel)
set_option maxRecDepth 20000 in
theorem gL_law_X2_inner : GoodIn wsL_law (wsV RL 73 RX2 yX2_inner wsX2_inner) := goodIn_app (goodIn_of _ (by decide +kernel)) ggL_law_X2_inner
set_option maxRecDepth 20000 in
theorem ggL_law_X3_inner : GoodIn wsL_law wsX3_inner := goodIn_r _ [370, 88, 181, 89, 90, 5, 91, 92, 93, 94, 95, 100, 101, 102, 103, 39, 187, 188, 189, 186, 573, 574, 575, 576, 577, 578, 579, 580] (by decide +kernel) (by decide +kernel)
set_option maxRecDepth 20000 in
theorem gL_law_X3_inner : GoodIn wsL_law (wsV RL 76 RX3 yX3_inner wsX3_inner) := goodIn_app (goodIn_of _ (by decide +kernel)) ggL_law_X3_inner
set_option maxRecDepth 20000 in
theorem ggL_law_X2_bound : GoodIn wsL_law wsX2_bound := goodIn_r _ [374, 60, 375, 209, 210, 211, 61, 62, 63, 2, 64, 13, 125, 126, 127, 21, 128, 34, 566, 567, 568, 569, 570, 571, 572, 586, 587] (by decide +kernel) (by decide +kernel)
set_option maxRecDepth 20000 in
theorem gL_law_X2_bound : GoodIn wsL_law (wsV RL 77 RX2 yX2_bound wsX2_bound) := goodIn_app (goodIn_of _ (by decide +kernel)) ggL_law_X2_bound
set_option maxRecDepth 20000 in
theorem ggL_law_X3_bound : GoodIn wsL_law wsX3_bound := goodIn_r _ [379, 88, 89, 90, 5, 91, 92, 93, 94, 95, 100, 101, 102, 103, 39, 118, 119, 120, 573, 574, 575, 576, 577, 578, 579, 580] (by decide +kernel) (by decide +kernel)
set_option maxRecDepth 20000 in
theorem gL_law_X3_bound : GoodIn wsL_law (wsV RL 80 RX3 yX3_bound wsX3_bound) := goodIn_app (goodIn_of _ (by decide +kernel)) ggL_law_X3_bound
set_option maxRecDepth 20000 in
theorem ggL_law_X2_degreeWith : GoodIn wsL_law wsX2_degreeWith := goodIn_r _ [383, 319, 60, 61, 62, 63, 2, 64, 13, 65, 66, 67, 320, 321, 322, 21, 323, 76, 208, 209, 210, 211, 149, 126, 127, 128, 34, 566, 567, 568, 569, 570, 571, 572, 586, 587] (by decide +kernel) (by decide +kernel)
set_option maxRecDepth 20000 in
theorem gL_law_X2_degreeWith : GoodIn wsL_law (wsV RL 81 RX2 yX2_degreeWith wsX2_degreeWith) := goodIn_app (goodIn_of _ (by decide +kernel)) ggL_law_X2_degreeWith
set_option maxRecDepth 20000 in
theorem ggL_law_X3_degreeWith : GoodIn wsL_law wsX3_degreeWith := goodIn_r _ [387, 88, 89, 90, 5, 91, 92, 93, 94, 95, 335, 336, 337, 338, 339, 340, 341, 342, 41, 100, 101, 102, 103, 39, 118, 119, 120, 573, 574, 575, 576, 577, 578, 579, 580] (by decide +kernel) (by decide +kernel)
set_option maxRecDepth 20000 in
theorem gL_law_X3_degreeWith : GoodIn wsL_law (wsV RL 84 RX3 yX3_degreeWith wsX3_degreeWith) := goodIn_app (goodIn_of _ (by decide +kernel)) ggL_law_X3_degreeWith
set_option maxRecDepth 20000 in
theorem ggL_law_X2_byValue : GoodIn wsL_law wsX2_byValue := goodIn_r _ [391, 60, 392, 61, 62, 63, 2, 64, 13, 65, 66, 67, 77, 78, 79, 21, 80, 76, 393, 394, 395, 396, 208, 209, 210, 211, 149, 126, 127, 128, 34, 566, 567, 568, 569, 570, 571, 572, 586, 587] (by decide +kernel) (by decide +kernel)
set_option maxRecDepth 20000 in
theorem gL_law_X2_byValue : GoodIn wsL_law (wsV RL 85 RX2 yX2_byValue wsX2_byValue) := goodIn_app (goodIn_of _ (by decide +kernel)) ggL_law_X2_byValue
set_option maxRecDepth 20000 in
theorem ggL_law_X3_byValue : GoodIn wsL_law wsX3_byValue := goodIn_r _ [400, 85, 88, 41, 401, 89, 90, 5, 91, 92, 93, 94, 95, 100, 101, 102, 103, 39, 118, 119, 120, 573, 574, 575, 576, 577, 578, 579, 580] (by decide +kernel) (by decide +kernel)
set_option maxRecDepth 20000 in
theorem gL_law_X3_byValue : GoodIn wsL_law (wsV RL 88 RX3 yX3_byValue wsX3_byValue) := goodIn_app (goodIn_of _ (by decide +kernel)) ggL_law_X3_byValue
set_option maxRecDepth 20000 in
theorem ggL_law_X2_setValue : GoodIn wsL_law wsX2_setValue := goodIn_r _ [405, 406, 407, 60, 15, 65, 66, 2, 67, 566, 567, 568, 569, 570, 571, 572] (by decide +kernel) (by decide +kernel)
set_option maxRecDepth 20000 in
theorem gL_law_X2_setValue : GoodIn wsL_law (wsV RL 89 RX2 yX2_setValue wsX2_setValue) := goodIn_app (goodIn_of _ (by decide +kernel)) ggL_law_X2_setValue
set_option maxRecDepth 20000 in
theorem ggL_law_X3_setValue : GoodIn wsL_law wsX3_setValue := goodIn_r _ [411, 412, 413, 414, 88, 42, 93, 94, 5, 95, 573, 574, 575, 576, 577, 578, 579, 580] (by decide +kernel) (by decide +kernel)
set_option maxRecDepth 20000 in
theorem gL_law_X3_setValue : GoodIn wsL_law (wsV RL 92 RX3 yX3_setValue wsX3_setValue) := goodIn_app (goodIn_of _ (by decide +kernel)) ggL_law_X3_setValue
set_option maxRecDepth 20000 in
theorem ggL_law_X2_interpolate : GoodIn wsL_law wsX2_interpolate := goodIn_r _ [418, 60, 22, 168, 347, 61, 62, 63, 2, 64, 13, 65, 66, 67, 290, 237, 238, 21, 239, 34, 76, 240, 241, 242, 243, 419, 420, 421, 422, 15, 423, 424, 425, 426, 427, 428, 429, 357, 166, 167, 169, 170, 171, 172, 68, 69, 70, 71, 72, 73, 74, 75, 199, 200, 201, 202, 203, 204, 205, 206, 207, 208, 209, 210, 211, 212, 213, 145, 146, 147, 148, 149, 126, 127, 128, 77, 78, 79, 80, 566, 567, 568, 569, 570, 571, 572, 586, 587] (by decide +kernel) (by decide +kernel)
set_option maxRecDepth 20000 in
theorem gL_law_X2_interpolate : GoodIn wsL_law (wsV RL 93 RX2 yX2_interpolate wsX2_interpolate) := goodIn_app (goodIn_of _ (by decide +kernel)) ggL_law_X2_interpolate
set_option maxRecDepth 20000 in
theorem ggL_law_X3_interpolate : GoodIn wsL_law wsX3_interpolate := goodIn_r _ [433, 88, 186, 42, 181, 434, 435, 5, 436, 437, 93, 94, 95, 89, 90, 91, 92, 220, 221, 222, 223, 41, 104, 105, 106, 107, 39, 438, 439, 440, 441, 51, 187, 188, 189, 108, 109, 110, 111, 112, 113, 114, 115, 116, 87, 117, 100, 101, 102, 103, 118, 119, 120, 96, 97, 98, 99, 573, 574, 575, 576, 577, 578, 579, 580] (by decide +kernel) (by decide +kernel)
set_option maxRecDepth 20000 in
theorem gL_law_X3_interpolate : GoodIn wsL_law (wsV RL 96 RX3 yX3_interpolate wsX3_interpolate) := goodIn_app (goodIn_of _ (by decide +kernel)) ggL_law_X3_interpolate
set_option maxRecDepth 20000 in
theorem ggL_law_X2_sample : GoodIn wsL_law wsX2_sample := goodIn_r _ [445, 60, 375, 209, 210, 211, 446, 447, 15, 61, 62, 63, 2, 64, 13, 65, 66, 67, 423, 424, 425, 426, 427, 428, 429, 160, 161, 162, 21, 163, 76, 164, 165, 149, 126, 127, 128, 34, 166, 167, 168, 169, 170, 171, 172, 566, 567, 568, 569, 570, 571, 572, 586, 587] (by decide +kernel) (by decide +kernel)
set_option maxRecDepth 20000 in
theorem gL_law_X2_sample : GoodIn wsL_law (wsV RL 97 RX2 yX2_sample wsX2_sample) := goodIn_app (goodIn_of _ (by decide +kernel)) ggL_law_X2_sample
set_option maxRecDepth 20000 in
theorem ggL_law_X3_sample : GoodIn wsL_law wsX3_sample := goodIn_r _ [451, 88, 414, 117, 42, 89, 90, 5, 91, 92, 93, 94, 95, 434, 435, 436, 437, 452, 453, 454, 455, 438, 439, 440, 441, 51, 182, 183, 184, 185, 41, 186, 181, 100, 101, 102, 103, 39, 187, 188, 189, 118, 119, 120, 573, 574, 575, 576, 577, 578, 579, 580] (by decide +kernel) (by decide +kernel)
set_option maxRecDepth 20000 in
theorem gL_law_X3_sample : GoodIn wsL_law (wsV RL 100 RX3 yX3_sample wsX3_sample) := goodIn_app (goodIn_of _ (by decide +kernel)) ggL_law_X3_sample
set_option maxRecDepth 20000 in
theorem ggL_law_X2_misfit : GoodIn wsL_law wsX2_misfit := goodIn_r _ [459, 60, 15, 375, 209, 210, 211, 460, 461, 462, 61, 62, 63, 2, 64, 13, 65, 66, 67, 423, 424, 425, 426, 427, 428, 429, 160, 161, 162, 21, 163, 76, 164, 165, 149, 126, 127, 128, 34, 166, 167, 168, 169, 170, 171, 172, 566, 567, 568, 569, 570, 571, 572, 586, 587] (by decide +kernel) (by decide +kernel)
set_option maxRecDepth 20000 in
theorem gL_law_X2_misfit : GoodIn wsL_law (wsV RL 101 RX2 yX2_misfit wsX2_misfit) := goodIn_app (goodIn_of _ (by decide +kernel)) ggL_law_X2_misfit
set_option maxRecDepth 20000 in
theorem ggL_law_X3_misfit : GoodIn wsL_law wsX3_misfit := goodIn_r _ [466, 88, 42, 89, 90, 5, 91, 92, 93, 94, 95, 434, 435, 436, 437, 452, 453, 454, 455, 438, 439, 440, 441, 51, 182, 183, 184, 185, 41, 186, 181, 100, 101, 102, 103, 39, 187, 188, 189, 118, 119, 120, 573, 574, 575, 576, 577, 578, 579, 580] (by decide +kernel) (by decide +kernel)
set_option maxRecDepth 20000 in
theorem gL_law_X3_misfit : GoodIn wsL_law (wsV RL 104 RX3 yX3_misfit wsX3_misfit) := goodIn_app (goodIn_of _ (by decide +kernel)) ggL_law_X3_misfit
set_option maxRecDepth 20000 in
theorem ggL_law_X2_extremePoint : GoodIn wsL_law wsX2_extremePoint := goodIn_r _ [470, 60, 65, 66, 2, 67, 423, 424, 425, 426, 427, 428, 429] (by decide +kernel) (by decide +kernel)
set_option maxRecDepth 20000 in
theorem gL_law_X2_extremePoint : GoodIn wsL_law (wsV RL 105 RX2 yX2_extremePoint wsX2_extremePoint) := goodIn_app (goodIn_of _ (by decide +kernel)) ggL_law_X2_extremePoint
set_option maxRecDepth 20000 in
theorem ggL_law_X3_extremePoint : GoodIn wsL_law wsX3_extremePoint := goodIn_r _ [474, 88, 434, 435, 5, 436, 437, 93, 94, 95, 452, 453, 454, 455, 438, 439, 440, 441, 51, 573, 574, 575, 576, 577, 578, 579, 580] (by decide +kernel) (by decide +kernel)
set_option maxRecDepth 20000 in
theorem gL_law_X3_extremePoint : GoodIn wsL_law (wsV RL 108 RX3 yX3_extremePoint wsX3_extremePoint) := goodIn_app (goodIn_of _ (by decide +kernel)) ggL_law_X3_extremePoint
set_option maxRecDepth 20000 in
theorem ggL_law_X2_root : GoodIn wsL_law wsX2_root := goodIn_r _ [478, 60, 19, 392, 61, 62, 63, 2, 64, 13, 479, 480, 481, 18, 482, 483, 484, 485, 486, 487, 488, 461, 210, 462, 489, 490, 491, 492, 493, 209, 211, 494, 78, 79, 21, 80, 76, 495, 126, 127, 128, 34, 496, 497, 498, 499, 30, 500, 501, 502, 503, 504, 505, 171, 506, 507, 170, 172, 508, 509, 510, 511, 512, 161, 162, 163, 164, 165, 149, 166, 167, 168, 169, 513, 514, 515, 516, 29, 517, 518, 519, 520, 521, 522, 523, 524, 525, 566, 567, 568, 569, 570, 571, 572, 581, 582, 583, 584, 585, 586, 587] (by decide +kernel) (by decide +kernel)
set_option maxRecDepth 20000 in
theorem gL_law_X2_root : GoodIn wsL_law (wsV RL 109 RX2 yX2_root wsX2_root) := goodIn_app (goodIn_of _ (by decide +kernel)) ggL_law_X2_root
set_option maxRecDepth 20000 in
theorem ggL_law_X3_root : GoodIn wsL_law wsX3_root := goodIn_r _ [529, 88, 530, 52, 401, 89, 90, 5, 91, 92, 93, 94, 95, 531, 532, 533, 534, 535, 53, 536, 43, 537, 538, 539, 540, 41, 181, 541, 542, 543, 544, 100, 101, 102, 103, 39, 118, 119, 120, 182, 183, 184, 185, 186, 187, 188, 189, 573, 574, 575, 576, 577, 578, 579, 580] (by decide +kernel) (by decide +kernel)
set_option maxRecDepth 20000 in
theorem gL_law_X3_root : GoodIn wsL_law (wsV RL 112 RX3 yX3_root wsX3_root) := goodIn_app (goodIn_of _ (by decide +kernel)) ggL_law_X3_root
set_option maxRecDepth 20000 in
theorem ggL_law_X2_intervals : GoodIn wsL_law wsX2_intervals := goodIn_r _ [548, 60, 19, 61, 62, 63, 2, 64, 13, 479, 480, 481, 18, 482, 483, 484, 485, 486, 487, 488, 461, 210, 462, 489, 490, 491, 492, 493, 209, 211, 494, 78, 79, 21, 80, 76, 495, 126, 127, 128, 34, 496, 497, 498, 499, 30, 500, 501, 502, 503, 504, 505, 171, 506, 507, 170, 172, 508, 509, 510, 511, 512, 161, 162, 163, 164, 165, 149, 166, 167, 168, 169, 513, 514, 515, 516, 29, 517, 518, 519, 520, 549, 550, 551, 552, 566, 567, 568, 569, 570, 571, 572, 581, 582, 583, 584, 585, 586, 587] (by decide +kernel) (by decide +kernel)
set_option maxRecDepth 20000 in
theorem gL_law_X2_intervals : GoodIn wsL_law (wsV RL 113 RX2 yX2_intervals wsX2_intervals) := goodIn_app (goodIn_of _ (by decide +kernel)) ggL_law_X2_intervals
set_option maxRecDepth 20000 in
theorem ggL_law_X3_intervals : GoodIn wsL_law wsX3_intervals := goodIn_r _ [556, 88, 535, 89, 90, 5, 91, 92, 93, 94, 95, 531, 532, 533, 534, 530, 53, 536, 43, 52, 537, 538, 539, 540, 41, 181, 541, 542, 543, 544, 100, 101, 102, 103, 39, 118, 119, 120, 182, 183, 184, 185, 186, 187, 188, 189, 573, 574, 575, 576, 577, 578, 579, 580] (by decide +kernel) (by decide +kernel)
set_option maxRecDepth 20000 in
theorem gL_law_X3_intervals : GoodIn wsL_law (wsV RL 116 RX3 yX3_intervals wsX3_intervals) := goodIn_app (goodIn_of _ (by decide +kernel)) ggL_law_X3_intervals
set_option maxRecDepth 20000 in
theorem ggL_law_X2_greatest : GoodIn wsL_law wsX2_greatest := goodIn_r _ [560, 60, 22, 19, 561, 347, 460, 461, 210, 462, 61, 62, 63, 2, 64, 13, 258, 259, 260, 21, 261, 76, 164, 236, 237, 238, 239, 34, 240, 241, 242, 243, 149, 126, 127, 128, 244, 69, 70, 71, 166, 167, 168, 169, 170, 171, 172, 198, 73, 74, 75, 203, 204, 205, 206, 207, 208, 209, 211, 212, 213, 479, 480, 481, 18, 482, 483, 484, 485, 486, 487, 488, 489, 490, 491, 492, 493, 494, 78, 79, 80, 495, 496, 497, 498, 499, 30, 500, 501, 502, 503, 504, 505, 506, 507, 508, 509, 510, 511, 512, 161, 162, 163, 165, 513, 514, 515, 516, 29, 517, 518, 519, 520, 160, 521, 522, 523, 524, 525, 566, 567, 568, 569, 570, 571, 572, 586, 587, 581, 582, 583, 584, 585] (by decide +kernel) (by decide +kernel)
set_option maxRecDepth 20000 in
theorem gL_law_X2_greatest : GoodIn wsL_law (wsV RL 117 RX2 yX2_greatest wsX2_greatest) := goodIn_app (goodIn_of _ (by decide +kernel)) ggL_law_X2_greatest
set_option maxRecDepth 20000 in
theorem ggL_law_X3_greatest : GoodIn wsL_law wsX3_greatest := goodIn_r _ [565, 88, 117, 180, 181, 530, 52, 89, 90, 5, 91, 92, 93, 94, 95, 266, 267, 268, 269, 41, 186, 220, 221, 222, 223, 104, 105, 106, 107, 39, 100, 101, 102, 103, 187, 188, 189, 112, 113, 114, 115, 116, 87, 118, 119, 120, 531, 532, 533, 534, 535, 53, 536, 43, 537, 538, 539, 540, 541, 542, 543, 544, 182, 183, 184, 185, 573, 574, 575, 576, 577, 578, 579, 580] (by decide +kernel) (by decide +kernel)
set_option maxRecDepth 20000 in
theorem gL_law_X3_greatest : GoodIn wsL_law (wsV RL 120 RX3 yX3_greatest wsX3_greatest) := goodIn_app (goodIn_of _ (by decide +kernel)) ggL_law_X3_greatest