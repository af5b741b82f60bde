set_option maxRecDepth 20000 in
theorem gL_law_X4_draw : GoodIn wsL_law (wsV RL 96 RX4 yX4_draw wsX4_draw) := goodIn_app (goodIn_of _ (by decide +kernel)) ggL_law_X4_draw
set_option maxRecDepth 20000 in
theorem ggL_law_L_setClass : GoodIn wsL_law wsL_setClass := goodIn_ca (goodIn_r _ [193, 63, 194, 195, 196, 2, 197, 69, 70, 178, 179, 180, 181, 17, 73, 74, 75, 76, 77, 78, 602, 603, 604, 605, 606, 607, 608, 609, 563, 564, 565, 566, 567, 568, 569, 570, 571] (by decide +kernel) (by decide +kernel)) (goodIn_sub (fun _ h => List.mem_append_left _ (List.mem_append_left _ (List.mem_append_right _ h))) (by decide +kernel))
set_option maxRecDepth 20000 in
theorem gL_law_L_setClass : GoodIn wsL_law (va_wsS RL 97 yL_setClass wsL_setClass) := goodIn_app (goodIn_of _ (by decide +kernel)) ggL_law_L_setClass
set_option maxRecDepth 20000 in
theorem ggL_law_X4_setClass : GoodIn wsL_law wsX4_setClass := goodIn_r _ [201, 89, 43, 187, 188, 189, 5, 190, 165, 93, 94, 95, 90, 91, 92, 572, 573, 574, 575, 576, 577, 578, 579, 580, 581, 582, 583, 584, 585, 586, 587, 588, 589, 590, 591, 592, 593, 594] (by decide +kernel) (by decide +kernel)
set_option maxRecDepth 20000 in
theorem gL_law_X4_setClass : GoodIn wsL_law (wsV RL 99 RX4 yX4_setClass wsX4_setClass) := goodIn_app (goodIn_of _ (by decide +kernel)) ggL_law_X4_setClass
set_option maxRecDepth 20000 in
theorem ggL_law_L_guarantee : GoodIn wsL_law wsL_guarantee := goodIn_ca (goodIn_ca (goodIn_r _ [204, 63, 64, 205, 206, 207, 2, 208, 69, 70, 71, 72, 178, 179, 180, 181, 17, 73, 74, 75, 76, 77, 78, 140, 141, 142, 143, 602, 603, 604, 605, 606, 607, 608, 609, 563, 564, 565, 566, 567, 568, 569, 570, 571] (by decide +kernel) (by decide +kernel)) (goodIn_sub (fun _ h => List.mem_append_left _ (List.mem_append_left _ (List.mem_append_right _ h))) (by decide +kernel))) (goodIn_sub (fun _ h => List.mem_append_left _ (List.mem_append_right _ h)) (by decide +kernel))
set_option maxRecDepth 20000 in
theorem gL_law_L_guarantee : GoodIn wsL_law (va_wsS RL 100 yL_guarantee wsL_guarantee) := goodIn_app (goodIn_of _ (by decide +kernel)) ggL_law_L_guarantee
set_option maxRecDepth 20000 in
theorem ggL_law_X4_guarantee : GoodIn wsL_law wsX4_guarantee := goodIn_r _ [212, 89, 50, 49, 187, 188, 189, 5, 190, 165, 93, 94, 95, 90, 91, 92, 166, 167, 168, 169, 572, 573, 574, 575, 576, 577, 578, 579, 580, 581, 582, 583, 584, 585, 586, 587, 588, 589, 590, 591, 592, 593, 594] (by decide +kernel) (by decide +kernel)
set_option maxRecDepth 20000 in
theorem gL_law_X4_guarantee : GoodIn wsL_law (wsV RL 102 RX4 yX4_guarantee wsX4_guarantee) := goodIn_app (goodIn_of _ (by decide +kernel)) ggL_law_X4_guarantee
set_option maxRecDepth 20000 in
theorem ggL_law_X3_exposures : GoodIn wsL_law wsX3_exposures := goodIn_r _ [216, 24, 563, 564, 565, 566, 567, 568, 569, 570, 571] (by decide +kernel) (by decide +kernel)
set_option maxRecDepth 20000 in
theorem gL_law_X3_exposures : GoodIn wsL_law (wsV RL 103 RX3 yX3_exposures wsX3_exposures) := goodIn_app (goodIn_of _ (by decide +kernel)) ggL_law_X3_exposures
set_option maxRecDepth 20000 in
theorem ggL_law_X4_exposures : GoodIn wsL_law wsX4_exposures := goodIn_r _ [220, 89, 165, 572, 573, 574, 575, 576, 577, 578, 579, 580, 581, 582, 583, 584, 585, 586, 587, 588, 589, 590, 591, 592, 593, 594] (by decide +kernel) (by decide +kernel)
set_option maxRecDepth 20000 in
theorem gL_law_X4_exposures : GoodIn wsL_law (wsV RL 106 RX4 yX4_exposures wsX4_exposures) := goodIn_app (goodIn_of _ (by decide +kernel)) ggL_law_X4_exposures
set_option maxRecDepth 20000 in
theorem ggL_law_L_amount : GoodIn wsL_law wsL_amount := goodIn_ca (goodIn_r _ [223, 63, 224, 225, 226, 2, 227, 69, 70, 178, 179, 180, 181, 17, 228, 136, 229, 230, 155, 156, 231, 232, 233, 563, 564, 565, 566, 567, 568, 569, 570, 571, 602, 603, 604, 605, 606, 607, 608, 609] (by decide +kernel) (by decide +kernel)) (goodIn_sub (fun _ h => List.mem_append_left _ (List.mem_append_left _ (List.mem_append_right _ h))) (by decide +kernel))
set_option maxRecDepth 20000 in
theorem gL_law_L_amount : GoodIn wsL_law (va_wsS RL 107 yL_amount wsL_amount) := goodIn_app (goodIn_of _ (by decide +kernel)) ggL_law_L_amount
set_option maxRecDepth 20000 in
theorem ggL_law_X4_amount : GoodIn wsL_law wsX4_amount := goodIn_r _ [237, 89, 187, 188, 189, 5, 190, 165, 93, 94, 95, 238, 239, 240, 241, 45, 46, 242, 243, 244, 245, 572, 573, 574, 575, 576, 577, 578, 579, 580, 581, 582, 583, 584, 585, 586, 587, 588, 589, 590, 591, 592, 593, 594] (by decide +kernel) (by decide +kernel)
set_option maxRecDepth 20000 in
theorem gL_law_X4_amount : GoodIn wsL_law (wsV RL 109 RX4 yX4_amount wsX4_amount) := goodIn_app (goodIn_of _ (by decide +kernel)) ggL_law_X4_amount
set_option maxRecDepth 20000 in
theorem ggL_law_L_addPiece : GoodIn wsL_law wsL_addPiece := goodIn_ca (goodIn_ca (goodIn_r _ [248, 64, 128, 249, 250, 251, 2, 252, 71, 72, 133, 134, 25, 19, 18, 253, 254, 255, 256, 257, 143, 76, 77, 78, 144, 145, 146, 147, 148, 149, 258, 259, 260, 261, 262, 263, 11, 12, 264, 265, 266, 267, 268, 563, 564, 565, 566, 567, 568, 569, 570, 571, 610, 611, 612, 613, 614] (by decide +kernel) (by decide +kernel)) (goodIn_sub (fun _ h => List.mem_append_left _ (List.mem_append_right _ h)) (by decide +kernel))) (goodIn_sub (fun _ h => List.mem_append_right _ h) (by decide +kernel))
set_option maxRecDepth 20000 in
theorem gL_law_L_addPiece : GoodIn wsL_law (va_wsS RL 110 yL_addPiece wsL_addPiece) := goodIn_app (goodIn_of _ (by decide +kernel)) ggL_law_L_addPiece
set_option maxRecDepth 20000 in
theorem ggL_law_X4_addPiece : GoodIn wsL_law wsX4_addPiece := goodIn_r _ [272, 169, 273, 89, 51, 52, 53, 54, 55, 93, 94, 5, 95, 572, 573, 574, 575, 576, 577, 578, 579, 580, 581, 582, 583, 584, 585, 586, 587, 588, 589, 590, 591, 592, 593, 594] (by decide +kernel) (by decide +kernel)
set_option maxRecDepth 20000 in
theorem gL_law_X4_addPiece : GoodIn wsL_law (wsV RL 113 RX4 yX4_addPiece wsX4_addPiece) := goodIn_app (goodIn_of _ (by decide +kernel)) ggL_law_X4_addPiece
set_option maxRecDepth 20000 in
theorem ggL_law_L_setPiece : GoodIn wsL_law wsL_setPiece := goodIn_ca (goodIn_ca (goodIn_r _ [276, 63, 64, 277, 278, 279, 2, 280, 69, 70, 71, 72, 281, 282, 283, 284, 19, 255, 256, 257, 143, 76, 77, 78, 258, 259, 260, 610, 611, 612, 613, 614, 563, 564, 565, 566, 567, 568, 569, 570, 571] (by decide +kernel) (by decide +kernel)) (goodIn_sub (fun _ h => List.mem_append_left _ (List.mem_append_left _ (List.mem_append_right _ h))) (by decide +kernel))) (goodIn_sub (fun _ h => List.mem_append_left _ (List.mem_append_right _ h)) (by decide +kernel))
set_option maxRecDepth 20000 in
theorem gL_law_L_setPiece : GoodIn wsL_law (va_wsS RL 114 yL_setPiece wsL_setPiece) := goodIn_app (goodIn_of _ (by decide +kernel)) ggL_law_L_setPiece
set_option maxRecDepth 20000 in
theorem ggL_law_X4_setPiece : GoodIn wsL_law wsX4_setPiece := goodIn_r _ [288, 169, 89, 51, 55, 289, 290, 291, 5, 292, 273, 93, 94, 95, 572, 573, 574, 575, 576, 577, 578, 579, 580, 581, 582, 583, 584, 585, 586, 587, 588, 589, 590, 591, 592, 593, 594] (by decide +kernel) (by decide +kernel)
set_option maxRecDepth 20000 in
theorem gL_law_X4_setPiece : GoodIn wsL_law (wsV RL 116 RX4 yX4_setPiece wsX4_setPiece) := goodIn_app (goodIn_of _ (by decide +kernel)) ggL_law_X4_setPiece
