set_option maxRecDepth 20000 in
theorem ggL_law_X6_page : GoodIn wsL_law wsX6_page := goodIn_r _ [525, 15, 194, 349, 34, 133, 134, 2, 135, 526, 271, 272, 51, 273, 72, 73, 74, 75, 274, 275, 276, 277, 65, 70, 278, 214, 215, 33, 216, 57, 58, 59, 60, 366, 231, 232, 233, 234, 235, 592, 593, 594, 595, 596, 597, 598, 599, 615, 616, 617, 618, 619, 620, 645, 646, 647, 648, 649, 650, 641, 642, 643, 644] (by decide +kernel) (by decide +kernel)
set_option maxRecDepth 20000 in
theorem gL_law_X6_page : GoodIn wsL_law (wsV RL 69 RX6 yX6_page wsX6_page) := goodIn_app (goodIn_of _ (by decide +kernel)) ggL_law_X6_page
set_option maxRecDepth 20000 in
theorem ggL_law_X7_page : GoodIn wsL_law wsX7_page := goodIn_r _ [530, 531, 532, 533, 5, 534, 115, 140, 141, 142, 386, 387, 388, 389, 371, 372, 373, 309, 310, 311, 600, 601, 602, 603, 604, 605, 606, 607, 608, 609, 610, 611, 612, 613, 614] (by decide +kernel) (by decide +kernel)
set_option maxRecDepth 20000 in
theorem gL_law_X7_page : GoodIn wsL_law (wsV RL 72 RX7 yX7_page wsX7_page) := goodIn_app (goodIn_of _ (by decide +kernel)) ggL_law_X7_page
set_option maxRecDepth 20000 in
theorem ggL_law_X6_weed : GoodIn wsL_law wsX6_weed := goodIn_r _ [538, 15, 194, 34, 349, 133, 134, 2, 135, 539, 540, 541, 51, 542, 65, 543, 271, 272, 273, 72, 73, 74, 75, 274, 275, 276, 277, 70, 278, 214, 215, 33, 216, 57, 58, 59, 60, 544, 231, 232, 233, 234, 235, 291, 292, 293, 294, 592, 593, 594, 595, 596, 597, 598, 599, 615, 616, 617, 618, 619, 620, 645, 646, 647, 648, 649, 650, 641, 642, 643, 644] (by decide +kernel) (by decide +kernel)
set_option maxRecDepth 20000 in
theorem gL_law_X6_weed : GoodIn wsL_law (wsV RL 73 RX6 yX6_weed wsX6_weed) := goodIn_app (goodIn_of _ (by decide +kernel)) ggL_law_X6_weed
set_option maxRecDepth 20000 in
theorem ggL_law_X7_weed : GoodIn wsL_law wsX7_weed := goodIn_r _ [548, 115, 140, 141, 5, 142, 386, 387, 388, 389, 371, 372, 373, 309, 310, 311, 316, 317, 318, 319, 600, 601, 602, 603, 604, 605, 606, 607, 608, 609, 610, 611, 612, 613, 614] (by decide +kernel) (by decide +kernel)
set_option maxRecDepth 20000 in
theorem gL_law_X7_weed : GoodIn wsL_law (wsV RL 76 RX7 yX7_weed wsX7_weed) := goodIn_app (goodIn_of _ (by decide +kernel)) ggL_law_X7_weed
set_option maxRecDepth 20000 in
theorem ggL_law_X6_image : GoodIn wsL_law wsX6_image := goodIn_r _ [552, 15, 18, 133, 134, 2, 135, 553, 554, 555, 556, 16, 17, 557, 558, 559, 14, 560, 44, 561, 562, 563, 564, 45, 46, 48, 52, 53, 565, 223, 224, 33, 225, 57, 58, 59, 60, 221, 214, 215, 216, 566, 567, 568, 51, 569, 65, 70, 570, 178, 68, 179, 66, 67, 69, 72, 571, 73, 74, 75, 592, 593, 594, 595, 596, 597, 598, 599, 615, 616, 617, 618, 619, 620, 641, 642, 643, 644, 645, 646, 647, 648, 649, 650] (by decide +kernel) (by decide +kernel)
set_option maxRecDepth 20000 in
theorem gL_law_X6_image : GoodIn wsL_law (wsV RL 77 RX6 yX6_image wsX6_image) := goodIn_app (goodIn_of _ (by decide +kernel)) ggL_law_X6_image
set_option maxRecDepth 20000 in
theorem ggL_law_X7_image : GoodIn wsL_law wsX7_image := goodIn_r _ [575, 116, 115, 118, 140, 141, 5, 142, 600, 601, 602, 603, 604, 605, 606, 607, 608, 609, 610, 611, 612, 613, 614] (by decide +kernel) (by decide +kernel)
set_option maxRecDepth 20000 in
theorem gL_law_X7_image : GoodIn wsL_law (wsV RL 80 RX7 yX7_image wsX7_image) := goodIn_app (goodIn_of _ (by decide +kernel)) ggL_law_X7_image
set_option maxRecDepth 20000 in
theorem ggL_law_X6_restore : GoodIn wsL_law wsX6_restore := goodIn_r _ [579, 18, 15, 133, 134, 2, 135, 553, 554, 555, 556, 16, 17, 557, 558, 559, 14, 560, 44, 561, 562, 563, 564, 45, 46, 48, 52, 53, 565, 223, 224, 33, 225, 57, 58, 59, 60, 221, 214, 215, 216, 566, 567, 568, 51, 569, 65, 70, 570, 178, 68, 179, 66, 67, 69, 72, 571, 73, 74, 75, 592, 593, 594, 595, 596, 597, 598, 599, 615, 616, 617, 618, 619, 620, 641, 642, 643, 644, 645, 646, 647, 648, 649, 650] (by decide +kernel) (by decide +kernel)
set_option maxRecDepth 20000 in
theorem gL_law_X6_restore : GoodIn wsL_law (wsV RL 81 RX6 yX6_restore wsX6_restore) := goodIn_app (goodIn_of _ (by decide +kernel)) ggL_law_X6_restore
set_option maxRecDepth 20000 in
theorem ggL_law_X7_restore : GoodIn wsL_law wsX7_restore := goodIn_r _ [583, 118, 115, 116, 140, 141, 5, 142, 600, 601, 602, 603, 604, 605, 606, 607, 608, 609, 610, 611, 612, 613, 614] (by decide +kernel) (by decide +kernel)
set_option maxRecDepth 20000 in
theorem gL_law_X7_restore : GoodIn wsL_law (wsV RL 84 RX7 yX7_restore wsX7_restore) := goodIn_app (goodIn_of _ (by decide +kernel)) ggL_law_X7_restore
set_option maxRecDepth 20000 in
theorem ggL_law_X6_count : GoodIn wsL_law wsX6_count := goodIn_r _ [587, 15, 132, 158, 147, 196, 194, 349, 18, 133, 134, 2, 135, 592, 593, 594, 595, 596, 597, 598, 599, 615, 616, 617, 618, 619, 620, 645, 646, 647, 648, 649, 650] (by decide +kernel) (by decide +kernel)
set_option maxRecDepth 20000 in
theorem gL_law_X6_count : GoodIn wsL_law (wsV RL 85 RX6 yX6_count wsX6_count) := goodIn_app (goodIn_of _ (by decide +kernel)) ggL_law_X6_count
set_option maxRecDepth 20000 in
theorem ggL_law_X7_count : GoodIn wsL_law wsX7_count := goodIn_r _ [591, 115, 118, 140, 141, 5, 142, 600, 601, 602, 603, 604, 605, 606, 607, 608, 609, 610, 611, 612, 613, 614] (by decide +kernel) (by decide +kernel)
set_option maxRecDepth 20000 in
theorem gL_law_X7_count : GoodIn wsL_law (wsV RL 88 RX7 yX7_count wsX7_count) := goodIn_app (goodIn_of _ (by decide +kernel)) ggL_law_X7_count
