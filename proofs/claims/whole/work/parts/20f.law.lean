set_option maxRecDepth 20000 in
theorem ggL_law_X6_weed : GoodIn wsL_law wsX6_weed := goodIn_r _ [536, 15, 196, 34, 347, 135, 136, 2, 137, 537, 538, 539, 51, 540, 65, 541, 269, 270, 271, 72, 73, 74, 75, 272, 273, 274, 275, 70, 276, 212, 213, 33, 214, 57, 58, 59, 60, 542, 229, 230, 231, 232, 233, 289, 290, 291, 292, 590, 591, 592, 593, 594, 595, 596, 597, 613, 614, 615, 616, 617, 618, 645, 646, 647, 648, 649, 650, 641, 642, 643, 644] (by decide +kernel) (by decide +kernel)
set_option maxRecDepth 20000 in
theorem gL_law_X6_weed : GoodIn wsL_law (wsV RL 73 RX6 yX6_weed wsX6_weed) := goodIn_app (goodIn_of _ (by decide +kernel)) ggL_law_X6_weed
set_option maxRecDepth 20000 in
theorem ggL_law_X7_weed : GoodIn wsL_law wsX7_weed := goodIn_r _ [546, 117, 142, 143, 5, 144, 384, 385, 386, 387, 369, 370, 371, 307, 308, 309, 314, 315, 316, 317, 598, 599, 600, 601, 602, 603, 604, 605, 606, 607, 608, 609, 610, 611, 612] (by decide +kernel) (by decide +kernel)
set_option maxRecDepth 20000 in
theorem gL_law_X7_weed : GoodIn wsL_law (wsV RL 76 RX7 yX7_weed wsX7_weed) := goodIn_app (goodIn_of _ (by decide +kernel)) ggL_law_X7_weed
set_option maxRecDepth 20000 in
theorem ggL_law_X6_image : GoodIn wsL_law wsX6_image := goodIn_r _ [550, 15, 18, 135, 136, 2, 137, 551, 552, 553, 554, 16, 17, 555, 556, 557, 14, 558, 44, 559, 560, 561, 562, 45, 46, 48, 52, 53, 563, 221, 222, 33, 223, 57, 58, 59, 60, 219, 212, 213, 214, 564, 565, 566, 51, 567, 65, 70, 568, 180, 68, 181, 66, 67, 69, 72, 569, 73, 74, 75, 590, 591, 592, 593, 594, 595, 596, 597, 613, 614, 615, 616, 617, 618, 641, 642, 643, 644, 645, 646, 647, 648, 649, 650] (by decide +kernel) (by decide +kernel)
set_option maxRecDepth 20000 in
theorem gL_law_X6_image : GoodIn wsL_law (wsV RL 77 RX6 yX6_image wsX6_image) := goodIn_app (goodIn_of _ (by decide +kernel)) ggL_law_X6_image
set_option maxRecDepth 20000 in
theorem ggL_law_X7_image : GoodIn wsL_law wsX7_image := goodIn_r _ [573, 118, 117, 120, 142, 143, 5, 144, 598, 599, 600, 601, 602, 603, 604, 605, 606, 607, 608, 609, 610, 611, 612] (by decide +kernel) (by decide +kernel)
set_option maxRecDepth 20000 in
theorem gL_law_X7_image : GoodIn wsL_law (wsV RL 80 RX7 yX7_image wsX7_image) := goodIn_app (goodIn_of _ (by decide +kernel)) ggL_law_X7_image
set_option maxRecDepth 20000 in
theorem ggL_law_X6_restore : GoodIn wsL_law wsX6_restore := goodIn_r _ [577, 18, 15, 135, 136, 2, 137, 551, 552, 553, 554, 16, 17, 555, 556, 557, 14, 558, 44, 559, 560, 561, 562, 45, 46, 48, 52, 53, 563, 221, 222, 33, 223, 57, 58, 59, 60, 219, 212, 213, 214, 564, 565, 566, 51, 567, 65, 70, 568, 180, 68, 181, 66, 67, 69, 72, 569, 73, 74, 75, 590, 591, 592, 593, 594, 595, 596, 597, 613, 614, 615, 616, 617, 618, 641, 642, 643, 644, 645, 646, 647, 648, 649, 650] (by decide +kernel) (by decide +kernel)
set_option maxRecDepth 20000 in
theorem gL_law_X6_restore : GoodIn wsL_law (wsV RL 81 RX6 yX6_restore wsX6_restore) := goodIn_app (goodIn_of _ (by decide +kernel)) ggL_law_X6_restore
set_option maxRecDepth 20000 in
theorem ggL_law_X7_restore : GoodIn wsL_law wsX7_restore := goodIn_r _ [581, 120, 117, 118, 142, 143, 5, 144, 598, 599, 600, 601, 602, 603, 604, 605, 606, 607, 608, 609, 610, 611, 612] (by decide +kernel) (by decide +kernel)
set_option maxRecDepth 20000 in
theorem gL_law_X7_restore : GoodIn wsL_law (wsV RL 84 RX7 yX7_restore wsX7_restore) := goodIn_app (goodIn_of _ (by decide +kernel)) ggL_law_X7_restore
set_option maxRecDepth 20000 in
theorem ggL_law_X6_count : GoodIn wsL_law wsX6_count := goodIn_r _ [585, 15, 134, 160, 149, 198, 196, 347, 18, 135, 136, 2, 137, 590, 591, 592, 593, 594, 595, 596, 597, 613, 614, 615, 616, 617, 618, 645, 646, 647, 648, 649, 650] (by decide +kernel) (by decide +kernel)
set_option maxRecDepth 20000 in
theorem gL_law_X6_count : GoodIn wsL_law (wsV RL 85 RX6 yX6_count wsX6_count) := goodIn_app (goodIn_of _ (by decide +kernel)) ggL_law_X6_count
set_option maxRecDepth 20000 in
theorem ggL_law_X7_count : GoodIn wsL_law wsX7_count := goodIn_r _ [589, 117, 120, 142, 143, 5, 144, 598, 599, 600, 601, 602, 603, 604, 605, 606, 607, 608, 609, 610, 611, 612] (by decide +kernel) (by decide +kernel)
set_option maxRecDepth 20000 in
theorem gL_law_X7_count : GoodIn wsL_law (wsV RL 88 RX7 yX7_count wsX7_count) := goodIn_app (goodIn_of _ (by decide +kernel)) ggL_law_X7_count
