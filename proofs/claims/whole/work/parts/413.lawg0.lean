set_option maxRecDepth 20000 in
theorem ggL_law_X3_init : GoodIn wsL_law wsX3_init := goodIn_r _ [9, 10, 11, 12, 13, 14, 15, 16, 17, 18, 19, 20, 21, 22, 23, 24, 25, 26, 27, 28, 29, 30, 31, 32, 33, 6, 34, 35, 563, 564, 565, 566, 567, 568, 569, 570, 571, 595, 596, 597, 598, 599, 600, 601] (by decide +kernel) (by decide +kernel)
set_option maxRecDepth 20000 in
theorem gL_law_X3_init : GoodIn wsL_law (wsX3_init) := ggL_law_X3_init
set_option maxRecDepth 20000 in
theorem ggL_law_X4_init : GoodIn wsL_law wsX4_init := goodIn_r _ [38, 39, 11, 12, 13, 40, 41, 42, 43, 44, 45, 46, 47, 48, 49, 50, 51, 52, 53, 54, 55, 56, 57, 58, 572, 573, 574, 575, 576, 577, 578, 579, 580, 581, 582, 583, 584, 585, 586, 587, 588, 589, 590, 591, 592, 593, 594] (by decide +kernel) (by decide +kernel)
set_option maxRecDepth 20000 in
theorem gL_law_X4_init : GoodIn wsL_law (wsX4_init) := ggL_law_X4_init
set_option maxRecDepth 20000 in
theorem ggL_law_L_setWeights : GoodIn wsL_law wsL_setWeights := goodIn_ca (goodIn_ca (goodIn_r _ [62, 63, 64, 65, 66, 67, 2, 68, 69, 70, 71, 72, 14, 15, 73, 74, 75, 76, 77, 78, 79, 80, 81, 82, 83, 84, 563, 564, 565, 566, 567, 568, 569, 570, 571] (by decide +kernel) (by decide +kernel)) (goodIn_sub (fun _ h => List.mem_append_left _ (List.mem_append_left _ (List.mem_append_right _ h))) (by decide +kernel))) (goodIn_sub (fun _ h => List.mem_append_left _ (List.mem_append_right _ h)) (by decide +kernel))
set_option maxRecDepth 20000 in
theorem gL_law_L_setWeights : GoodIn wsL_law (va_wsS RL 72 yL_setWeights wsL_setWeights) := goodIn_app (goodIn_of _ (by decide +kernel)) ggL_law_L_setWeights
set_option maxRecDepth 20000 in
theorem ggL_law_X4_setWeights : GoodIn wsL_law wsX4_setWeights := goodIn_r _ [88, 89, 40, 41, 90, 91, 5, 92, 93, 94, 95, 572, 573, 574, 575, 576, 577, 578, 579, 580, 581, 582, 583, 584, 585, 586, 587, 588, 589, 590, 591, 592, 593, 594] (by decide +kernel) (by decide +kernel)
set_option maxRecDepth 20000 in
theorem gL_law_X4_setWeights : GoodIn wsL_law (wsV RL 77 RX4 yX4_setWeights wsX4_setWeights) := goodIn_app (goodIn_of _ (by decide +kernel)) ggL_law_X4_setWeights
set_option maxRecDepth 20000 in
theorem ggL_law_X4_thrown : GoodIn wsL_law wsX4_thrown := goodIn_r _ [99, 89, 572, 573, 574, 575, 576, 577, 578, 579, 580, 581, 582, 583, 584, 585, 586, 587, 588, 589, 590, 591, 592, 593, 594] (by decide +kernel) (by decide +kernel)
set_option maxRecDepth 20000 in
theorem gL_law_X4_thrown : GoodIn wsL_law (wsV RL 78 RX4 yX4_thrown wsX4_thrown) := goodIn_app (goodIn_of _ (by decide +kernel)) ggL_law_X4_thrown
set_option maxRecDepth 20000 in
theorem ggL_law_L_setFloor : GoodIn wsL_law wsL_setFloor := goodIn_ca (goodIn_r _ [102, 64, 103, 104, 105, 2, 106, 71, 72, 26, 76, 77, 78, 563, 564, 565, 566, 567, 568, 569, 570, 571] (by decide +kernel) (by decide +kernel)) (goodIn_sub (fun _ h => List.mem_append_left _ (List.mem_append_right _ h)) (by decide +kernel))
set_option maxRecDepth 20000 in
theorem gL_law_L_setFloor : GoodIn wsL_law (va_wsS RL 82 yL_setFloor wsL_setFloor) := goodIn_app (goodIn_of _ (by decide +kernel)) ggL_law_L_setFloor
set_option maxRecDepth 20000 in
theorem ggL_law_X4_setFloor : GoodIn wsL_law wsX4_setFloor := goodIn_r _ [110, 89, 42, 93, 94, 5, 95, 572, 573, 574, 575, 576, 577, 578, 579, 580, 581, 582, 583, 584, 585, 586, 587, 588, 589, 590, 591, 592, 593, 594] (by decide +kernel) (by decide +kernel)
set_option maxRecDepth 20000 in
theorem gL_law_X4_setFloor : GoodIn wsL_law (wsV RL 85 RX4 yX4_setFloor wsX4_setFloor) := goodIn_app (goodIn_of _ (by decide +kernel)) ggL_law_X4_setFloor
set_option maxRecDepth 20000 in
theorem ggL_law_L_setCapital : GoodIn wsL_law wsL_setCapital := goodIn_ca (goodIn_r _ [113, 64, 114, 115, 116, 2, 117, 71, 72, 118, 27, 76, 77, 78, 563, 564, 565, 566, 567, 568, 569, 570, 571] (by decide +kernel) (by decide +kernel)) (goodIn_sub (fun _ h => List.mem_append_left _ (List.mem_append_right _ h)) (by decide +kernel))
set_option maxRecDepth 20000 in
theorem gL_law_L_setCapital : GoodIn wsL_law (va_wsS RL 86 yL_setCapital wsL_setCapital) := goodIn_app (goodIn_of _ (by decide +kernel)) ggL_law_L_setCapital
set_option maxRecDepth 20000 in
theorem ggL_law_X4_setCapital : GoodIn wsL_law wsX4_setCapital := goodIn_r _ [122, 123, 89, 124, 93, 94, 5, 95, 572, 573, 574, 575, 576, 577, 578, 579, 580, 581, 582, 583, 584, 585, 586, 587, 588, 589, 590, 591, 592, 593, 594] (by decide +kernel) (by decide +kernel)
set_option maxRecDepth 20000 in
theorem gL_law_X4_setCapital : GoodIn wsL_law (wsV RL 88 RX4 yX4_setCapital wsX4_setCapital) := goodIn_app (goodIn_of _ (by decide +kernel)) ggL_law_X4_setCapital
set_option maxRecDepth 20000 in
theorem ggL_law_L_addExposure : GoodIn wsL_law wsL_addExposure := goodIn_ca (goodIn_ca (goodIn_ca (goodIn_r _ [127, 63, 64, 128, 129, 130, 131, 2, 132, 69, 70, 71, 72, 133, 134, 24, 17, 16, 135, 136, 73, 74, 75, 76, 77, 78, 137, 138, 139, 140, 141, 142, 143, 144, 145, 146, 147, 148, 149, 150, 151, 152, 11, 12, 153, 154, 155, 156, 157, 158, 159, 160, 563, 564, 565, 566, 567, 568, 569, 570, 571, 602, 603, 604, 605, 606, 607, 608, 609] (by decide +kernel) (by decide +kernel)) (goodIn_sub (fun _ h => List.mem_append_left _ (List.mem_append_left _ (List.mem_append_right _ h))) (by decide +kernel))) (goodIn_sub (fun _ h => List.mem_append_left _ (List.mem_append_right _ h)) (by decide +kernel))) (goodIn_sub (fun _ h => List.mem_append_right _ h) (by decide +kernel))
set_option maxRecDepth 20000 in
theorem gL_law_L_addExposure : GoodIn wsL_law (va_wsS RL 89 yL_addExposure wsL_addExposure) := goodIn_app (goodIn_of _ (by decide +kernel)) ggL_law_L_addExposure
set_option maxRecDepth 20000 in
theorem ggL_law_X4_addExposure : GoodIn wsL_law wsX4_addExposure := goodIn_r _ [164, 165, 89, 43, 44, 45, 46, 47, 48, 166, 167, 5, 168, 169, 93, 94, 95, 90, 91, 92, 572, 573, 574, 575, 576, 577, 578, 579, 580, 581, 582, 583, 584, 585, 586, 587, 588, 589, 590, 591, 592, 593, 594] (by decide +kernel) (by decide +kernel)
set_option maxRecDepth 20000 in
theorem gL_law_X4_addExposure : GoodIn wsL_law (wsV RL 92 RX4 yX4_addExposure wsX4_addExposure) := goodIn_app (goodIn_of _ (by decide +kernel)) ggL_law_X4_addExposure
set_option maxRecDepth 20000 in
theorem ggL_law_L_draw : GoodIn wsL_law wsL_draw := goodIn_ca (goodIn_ca (goodIn_ca (goodIn_r _ [172, 63, 64, 128, 173, 174, 175, 2, 176, 69, 70, 71, 72, 133, 134, 177, 143, 178, 179, 180, 181, 17, 76, 77, 78, 140, 141, 142, 602, 603, 604, 605, 606, 607, 608, 609, 563, 564, 565, 566, 567, 568, 569, 570, 571] (by decide +kernel) (by decide +kernel)) (goodIn_sub (fun _ h => List.mem_append_left _ (List.mem_append_left _ (List.mem_append_right _ h))) (by decide +kernel))) (goodIn_sub (fun _ h => List.mem_append_left _ (List.mem_append_right _ h)) (by decide +kernel))) (goodIn_sub (fun _ h => List.mem_append_right _ h) (by decide +kernel))
set_option maxRecDepth 20000 in
theorem gL_law_L_draw : GoodIn wsL_law (va_wsS RL 93 yL_draw wsL_draw) := goodIn_app (goodIn_of _ (by decide +kernel)) ggL_law_L_draw
set_option maxRecDepth 20000 in
theorem ggL_law_X4_draw : GoodIn wsL_law wsX4_draw := goodIn_r _ [185, 186, 169, 89, 45, 46, 187, 188, 189, 5, 190, 165, 93, 94, 95, 166, 167, 168, 572, 573, 574, 575, 576, 577, 578, 579, 580, 581, 582, 583, 584, 585, 586, 587, 588, 589, 590, 591, 592, 593, 594] (by decide +kernel) (by decide +kernel)
