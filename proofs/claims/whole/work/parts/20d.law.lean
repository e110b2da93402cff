set_option maxRecDepth 20000 in
theorem ggL_law_X6_run : GoodIn wsL_law wsX6_run := goodIn_r _ [194, 22, 15, 195, 196, 197, 198, 199, 200, 201, 202, 2, 203, 160, 204, 205, 206, 21, 207, 208, 80, 81, 87, 209, 210, 88, 211, 212, 213, 33, 214, 57, 58, 59, 60, 215, 216, 217, 218, 219, 220, 221, 222, 223, 224, 225, 226, 51, 227, 65, 228, 229, 230, 231, 232, 233, 234, 176, 177, 14, 178, 179, 180, 68, 181, 182, 67, 69, 45, 235, 236, 237, 238, 239, 240, 241, 242, 85, 243, 244, 245, 246, 247, 248, 249, 250, 70, 72, 251, 73, 252, 74, 253, 75, 254, 255, 256, 257, 258, 259, 89, 90, 82, 83, 84, 260, 261, 262, 263, 264, 265, 266, 267, 268, 269, 270, 271, 272, 273, 274, 275, 276, 277, 278, 279, 280, 281, 282, 283, 284, 285, 286, 287, 288, 66, 289, 290, 291, 292, 293, 590, 591, 592, 593, 594, 595, 596, 597, 613, 614, 615, 616, 617, 618, 619, 620, 621, 622, 623, 624, 625, 626, 627, 628, 641, 642, 643, 644, 645, 646, 647, 648, 649, 650] (by decide +kernel) (by decide +kernel)
set_option maxRecDepth 20000 in
theorem gL_law_X6_run : GoodIn wsL_law (wsV RL 32 RX6 yX6_run wsX6_run) := goodIn_app (goodIn_of _ (by decide +kernel)) ggL_law_X6_run
set_option maxRecDepth 20000 in
theorem ggL_law_X7_run : GoodIn wsL_law wsX7_run := goodIn_r _ [297, 117, 124, 298, 299, 300, 5, 301, 302, 303, 304, 305, 123, 122, 306, 307, 308, 309, 187, 188, 189, 190, 310, 311, 312, 313, 121, 314, 315, 316, 317, 318, 319, 320, 321, 322, 323, 324, 325, 326, 327, 328, 329, 330, 331, 332, 333, 334, 335, 336, 337, 338, 339, 340, 341, 598, 599, 600, 601, 602, 603, 604, 605, 606, 607, 608, 609, 610, 611, 612] (by decide +kernel) (by decide +kernel)
set_option maxRecDepth 20000 in
theorem gL_law_X7_run : GoodIn wsL_law (wsV RL 36 RX7 yX7_run wsX7_run) := goodIn_app (goodIn_of _ (by decide +kernel)) ggL_law_X7_run
set_option maxRecDepth 20000 in
theorem ggL_law_X6_litre : GoodIn wsL_law wsX6_litre := goodIn_r _ [345, 22, 346, 347, 200, 201, 202, 2, 203, 15, 195, 160, 204, 205, 206, 21, 207, 208, 80, 81, 87, 209, 210, 88, 211, 212, 213, 33, 214, 57, 58, 59, 60, 215, 216, 217, 218, 219, 220, 221, 222, 223, 224, 225, 226, 51, 227, 65, 228, 229, 230, 231, 232, 233, 234, 176, 177, 14, 178, 179, 180, 68, 181, 182, 67, 69, 45, 235, 236, 237, 238, 239, 240, 241, 242, 85, 243, 244, 245, 246, 247, 248, 249, 250, 70, 72, 251, 73, 252, 74, 253, 75, 254, 255, 256, 257, 258, 259, 89, 90, 82, 83, 84, 260, 261, 262, 263, 264, 265, 266, 267, 268, 269, 270, 271, 272, 273, 274, 275, 276, 135, 136, 137, 348, 349, 350, 351, 590, 591, 592, 593, 594, 595, 596, 597, 619, 620, 621, 622, 623, 624, 625, 626, 627, 628, 645, 646, 647, 648, 649, 650, 613, 614, 615, 616, 617, 618, 641, 642, 643, 644] (by decide +kernel) (by decide +kernel)
set_option maxRecDepth 20000 in
theorem gL_law_X6_litre : GoodIn wsL_law (wsV RL 37 RX6 yX6_litre wsX6_litre) := goodIn_app (goodIn_of _ (by decide +kernel)) ggL_law_X6_litre
set_option maxRecDepth 20000 in
theorem ggL_law_X7_litre : GoodIn wsL_law wsX7_litre := goodIn_r _ [355, 306, 121, 117, 298, 299, 300, 5, 301, 302, 303, 304, 305, 123, 122, 307, 308, 309, 187, 188, 189, 190, 310, 311, 312, 313, 142, 143, 144, 326, 327, 328, 329, 598, 599, 600, 601, 602, 603, 604, 605, 606, 607, 608, 609, 610, 611, 612] (by decide +kernel) (by decide +kernel)
set_option maxRecDepth 20000 in
theorem gL_law_X7_litre : GoodIn wsL_law (wsV RL 40 RX7 yX7_litre wsX7_litre) := goodIn_app (goodIn_of _ (by decide +kernel)) ggL_law_X7_litre
set_option maxRecDepth 20000 in
theorem ggL_law_X6_part : GoodIn wsL_law wsX6_part := goodIn_r _ [359, 22, 135, 136, 2, 137, 200, 201, 202, 203, 15, 195, 160, 204, 205, 206, 21, 207, 208, 80, 81, 87, 209, 210, 88, 211, 212, 213, 33, 214, 57, 58, 59, 60, 215, 216, 217, 218, 219, 220, 221, 222, 223, 224, 225, 226, 51, 227, 65, 228, 229, 230, 231, 232, 233, 234, 176, 177, 14, 178, 179, 180, 68, 181, 182, 67, 69, 45, 235, 236, 237, 238, 239, 240, 241, 242, 85, 243, 244, 245, 246, 247, 248, 249, 250, 70, 72, 251, 73, 252, 74, 253, 75, 254, 255, 256, 257, 258, 259, 89, 90, 82, 83, 84, 260, 261, 262, 263, 264, 265, 266, 267, 268, 269, 270, 271, 272, 273, 274, 275, 276, 360, 361, 362, 363, 364, 590, 591, 592, 593, 594, 595, 596, 597, 613, 614, 615, 616, 617, 618, 619, 620, 621, 622, 623, 624, 625, 626, 627, 628, 641, 642, 643, 644, 645, 646, 647, 648, 649, 650] (by decide +kernel) (by decide +kernel)
set_option maxRecDepth 20000 in
theorem gL_law_X6_part : GoodIn wsL_law (wsV RL 41 RX6 yX6_part wsX6_part) := goodIn_app (goodIn_of _ (by decide +kernel)) ggL_law_X6_part
set_option maxRecDepth 20000 in
theorem ggL_law_X7_part : GoodIn wsL_law wsX7_part := goodIn_r _ [368, 123, 117, 122, 142, 143, 5, 144, 298, 299, 300, 301, 302, 303, 304, 305, 306, 307, 308, 309, 187, 188, 189, 190, 310, 311, 312, 313, 121, 322, 323, 324, 325, 124, 369, 370, 371, 330, 331, 332, 333, 372, 373, 374, 375, 318, 319, 320, 321, 326, 327, 328, 329, 598, 599, 600, 601, 602, 603, 604, 605, 606, 607, 608, 609, 610, 611, 612] (by decide +kernel) (by decide +kernel)
set_option maxRecDepth 20000 in
theorem gL_law_X7_part : GoodIn wsL_law (wsV RL 44 RX7 yX7_part wsX7_part) := goodIn_app (goodIn_of _ (by decide +kernel)) ggL_law_X7_part
set_option maxRecDepth 20000 in
theorem ggL_law_X6_kept : GoodIn wsL_law wsX6_kept := goodIn_r _ [379, 15, 195, 135, 136, 2, 137, 364, 229, 230, 33, 231, 57, 58, 59, 60, 232, 233, 590, 591, 592, 593, 594, 595, 596, 597, 613, 614, 615, 616, 617, 618, 641, 642, 643, 644] (by decide +kernel) (by decide +kernel)
set_option maxRecDepth 20000 in
theorem gL_law_X6_kept : GoodIn wsL_law (wsV RL 45 RX6 yX6_kept wsX6_kept) := goodIn_app (goodIn_of _ (by decide +kernel)) ggL_law_X6_kept
set_option maxRecDepth 20000 in
theorem ggL_law_X7_kept : GoodIn wsL_law wsX7_kept := goodIn_r _ [383, 142, 143, 5, 144, 384, 385, 386, 387, 117, 369, 370, 371, 307, 308, 309, 598, 599, 600, 601, 602, 603, 604, 605, 606, 607, 608, 609, 610, 611, 612] (by decide +kernel) (by decide +kernel)
set_option maxRecDepth 20000 in
theorem gL_law_X7_kept : GoodIn wsL_law (wsV RL 48 RX7 yX7_kept wsX7_kept) := goodIn_app (goodIn_of _ (by decide +kernel)) ggL_law_X7_kept
set_option maxRecDepth 20000 in
theorem ggL_law_X6_pour : GoodIn wsL_law wsX6_pour := goodIn_r _ [391, 15, 195, 199, 392, 265, 266, 33, 267, 219, 212, 213, 214, 57, 58, 59, 60, 590, 591, 592, 593, 594, 595, 596, 597, 613, 614, 615, 616, 617, 618, 641, 642, 643, 644] (by decide +kernel) (by decide +kernel)
set_option maxRecDepth 20000 in
theorem gL_law_X6_pour : GoodIn wsL_law (wsV RL 49 RX6 yX6_pour wsX6_pour) := goodIn_app (goodIn_of _ (by decide +kernel)) ggL_law_X6_pour
set_option maxRecDepth 20000 in
theorem ggL_law_X7_pour : GoodIn wsL_law wsX7_pour := goodIn_r _ [396, 117, 322, 323, 324, 5, 325, 124, 334, 335, 336, 337, 598, 599, 600, 601, 602, 603, 604, 605, 606, 607, 608, 609, 610, 611, 612] (by decide +kernel) (by decide +kernel)
set_option maxRecDepth 20000 in
theorem gL_law_X7_pour : GoodIn wsL_law (wsV RL 52 RX7 yX7_pour wsX7_pour) := goodIn_app (goodIn_of _ (by decide +kernel)) ggL_law_X7_pour
