set_option maxRecDepth 20000 in
theorem ggL_law_X7_over : GoodIn wsL_law wsX7_over := goodIn_r _ [184, 140, 141, 5, 142, 185, 186, 187, 188, 115, 600, 601, 602, 603, 604, 605, 606, 607, 608, 609, 610, 611, 612, 613, 614] (by decide +kernel) (by decide +kernel)
set_option maxRecDepth 20000 in
theorem gL_law_X7_over : GoodIn wsL_law (wsV RL 31 RX7 yX7_over wsX7_over) := goodIn_app (goodIn_of _ (by decide +kernel)) ggL_law_X7_over
set_option maxRecDepth 20000 in
theorem ggL_law_X6_run : GoodIn wsL_law wsX6_run := goodIn_r _ [192, 22, 15, 193, 194, 195, 196, 197, 198, 199, 200, 2, 201, 202, 203, 204, 21, 205, 206, 207, 208, 209, 210, 211, 80, 81, 87, 212, 88, 213, 214, 215, 33, 216, 57, 58, 59, 60, 217, 218, 219, 220, 221, 222, 223, 224, 225, 226, 227, 228, 51, 229, 65, 230, 231, 232, 233, 234, 235, 236, 174, 175, 14, 176, 177, 178, 68, 179, 180, 67, 69, 45, 237, 238, 239, 240, 241, 242, 243, 244, 85, 245, 246, 247, 248, 249, 250, 251, 252, 70, 72, 253, 73, 254, 74, 255, 75, 256, 257, 258, 259, 260, 261, 89, 90, 82, 83, 84, 262, 263, 264, 265, 266, 267, 268, 269, 270, 271, 272, 273, 274, 275, 276, 277, 278, 279, 280, 281, 282, 283, 284, 285, 286, 287, 288, 289, 290, 66, 291, 292, 293, 294, 295, 592, 593, 594, 595, 596, 597, 598, 599, 615, 616, 617, 618, 619, 620, 621, 622, 623, 624, 625, 626, 627, 628, 629, 630, 641, 642, 643, 644, 645, 646, 647, 648, 649, 650] (by decide +kernel) (by decide +kernel)
set_option maxRecDepth 20000 in
theorem gL_law_X6_run : GoodIn wsL_law (wsV RL 32 RX6 yX6_run wsX6_run) := goodIn_app (goodIn_of _ (by decide +kernel)) ggL_law_X6_run
set_option maxRecDepth 20000 in
theorem ggL_law_X7_run : GoodIn wsL_law wsX7_run := goodIn_r _ [299, 115, 122, 300, 301, 302, 5, 303, 304, 305, 306, 307, 121, 120, 308, 309, 310, 311, 185, 186, 187, 188, 312, 313, 314, 315, 119, 316, 317, 318, 319, 320, 321, 322, 323, 324, 325, 326, 327, 328, 329, 330, 331, 332, 333, 334, 335, 336, 337, 338, 339, 340, 341, 342, 343, 600, 601, 602, 603, 604, 605, 606, 607, 608, 609, 610, 611, 612, 613, 614] (by decide +kernel) (by decide +kernel)
set_option maxRecDepth 20000 in
theorem gL_law_X7_run : GoodIn wsL_law (wsV RL 36 RX7 yX7_run wsX7_run) := goodIn_app (goodIn_of _ (by decide +kernel)) ggL_law_X7_run
set_option maxRecDepth 20000 in
theorem ggL_law_X6_litre : GoodIn wsL_law wsX6_litre := goodIn_r _ [347, 22, 348, 349, 198, 199, 200, 2, 201, 15, 193, 202, 203, 204, 21, 205, 206, 207, 208, 209, 210, 211, 80, 81, 87, 212, 88, 213, 214, 215, 33, 216, 57, 58, 59, 60, 217, 218, 219, 220, 221, 222, 223, 224, 225, 226, 227, 228, 51, 229, 65, 230, 231, 232, 233, 234, 235, 236, 174, 175, 14, 176, 177, 178, 68, 179, 180, 67, 69, 45, 237, 238, 239, 240, 241, 242, 243, 244, 85, 245, 246, 247, 248, 249, 250, 251, 252, 70, 72, 253, 73, 254, 74, 255, 75, 256, 257, 258, 259, 260, 261, 89, 90, 82, 83, 84, 262, 263, 264, 265, 266, 267, 268, 269, 270, 271, 272, 273, 274, 275, 276, 277, 278, 133, 134, 135, 350, 351, 352, 353, 592, 593, 594, 595, 596, 597, 598, 599, 621, 622, 623, 624, 625, 626, 627, 628, 629, 630, 645, 646, 647, 648, 649, 650, 615, 616, 617, 618, 619, 620, 641, 642, 643, 644] (by decide +kernel) (by decide +kernel)
set_option maxRecDepth 20000 in
theorem gL_law_X6_litre : GoodIn wsL_law (wsV RL 37 RX6 yX6_litre wsX6_litre) := goodIn_app (goodIn_of _ (by decide +kernel)) ggL_law_X6_litre
set_option maxRecDepth 20000 in
theorem ggL_law_X7_litre : GoodIn wsL_law wsX7_litre := goodIn_r _ [357, 308, 119, 115, 300, 301, 302, 5, 303, 304, 305, 306, 307, 121, 120, 309, 310, 311, 185, 186, 187, 188, 312, 313, 314, 315, 140, 141, 142, 328, 329, 330, 331, 600, 601, 602, 603, 604, 605, 606, 607, 608, 609, 610, 611, 612, 613, 614] (by decide +kernel) (by decide +kernel)
set_option maxRecDepth 20000 in
theorem gL_law_X7_litre : GoodIn wsL_law (wsV RL 40 RX7 yX7_litre wsX7_litre) := goodIn_app (goodIn_of _ (by decide +kernel)) ggL_law_X7_litre
set_option maxRecDepth 20000 in
theorem ggL_law_X6_part : GoodIn wsL_law wsX6_part := goodIn_r _ [361, 22, 133, 134, 2, 135, 198, 199, 200, 201, 15, 193, 202, 203, 204, 21, 205, 206, 207, 208, 209, 210, 211, 80, 81, 87, 212, 88, 213, 214, 215, 33, 216, 57, 58, 59, 60, 217, 218, 219, 220, 221, 222, 223, 224, 225, 226, 227, 228, 51, 229, 65, 230, 231, 232, 233, 234, 235, 236, 174, 175, 14, 176, 177, 178, 68, 179, 180, 67, 69, 45, 237, 238, 239, 240, 241, 242, 243, 244, 85, 245, 246, 247, 248, 249, 250, 251, 252, 70, 72, 253, 73, 254, 74, 255, 75, 256, 257, 258, 259, 260, 261, 89, 90, 82, 83, 84, 262, 263, 264, 265, 266, 267, 268, 269, 270, 271, 272, 273, 274, 275, 276, 277, 278, 362, 363, 364, 365, 366, 592, 593, 594, 595, 596, 597, 598, 599, 615, 616, 617, 618, 619, 620, 621, 622, 623, 624, 625, 626, 627, 628, 629, 630, 641, 642, 643, 644, 645, 646, 647, 648, 649, 650] (by decide +kernel) (by decide +kernel)
set_option maxRecDepth 20000 in
theorem gL_law_X6_part : GoodIn wsL_law (wsV RL 41 RX6 yX6_part wsX6_part) := goodIn_app (goodIn_of _ (by decide +kernel)) ggL_law_X6_part
set_option maxRecDepth 20000 in
theorem ggL_law_X7_part : GoodIn wsL_law wsX7_part := goodIn_r _ [370, 121, 115, 120, 140, 141, 5, 142, 300, 301, 302, 303, 304, 305, 306, 307, 308, 309, 310, 311, 185, 186, 187, 188, 312, 313, 314, 315, 119, 324, 325, 326, 327, 122, 371, 372, 373, 332, 333, 334, 335, 374, 375, 376, 377, 320, 321, 322, 323, 328, 329, 330, 331, 600, 601, 602, 603, 604, 605, 606, 607, 608, 609, 610, 611, 612, 613, 614] (by decide +kernel) (by decide +kernel)
set_option maxRecDepth 20000 in
theorem gL_law_X7_part : GoodIn wsL_law (wsV RL 44 RX7 yX7_part wsX7_part) := goodIn_app (goodIn_of _ (by decide +kernel)) ggL_law_X7_part
set_option maxRecDepth 20000 in
theorem ggL_law_X6_kept : GoodIn wsL_law wsX6_kept := goodIn_r _ [381, 15, 193, 133, 134, 2, 135, 366, 231, 232, 33, 233, 57, 58, 59, 60, 234, 235, 592, 593, 594, 595, 596, 597, 598, 599, 615, 616, 617, 618, 619, 620, 641, 642, 643, 644] (by decide +kernel) (by decide +kernel)
set_option maxRecDepth 20000 in
theorem gL_law_X6_kept : GoodIn wsL_law (wsV RL 45 RX6 yX6_kept wsX6_kept) := goodIn_app (goodIn_of _ (by decide +kernel)) ggL_law_X6_kept
set_option maxRecDepth 20000 in
theorem ggL_law_X7_kept : GoodIn wsL_law wsX7_kept := goodIn_r _ [385, 140, 141, 5, 142, 386, 387, 388, 389, 115, 371, 372, 373, 309, 310, 311, 600, 601, 602, 603, 604, 605, 606, 607, 608, 609, 610, 611, 612, 613, 614] (by decide +kernel) (by decide +kernel)
set_option maxRecDepth 20000 in
theorem gL_law_X7_kept : GoodIn wsL_law (wsV RL 48 RX7 yX7_kept wsX7_kept) := goodIn_app (goodIn_of _ (by decide +kernel)) ggL_law_X7_kept
set_option maxRecDepth 20000 in
theorem ggL_law_X6_pour : GoodIn wsL_law wsX6_pour := goodIn_r _ [393, 15, 193, 197, 394, 267, 268, 33, 269, 221, 214, 215, 216, 57, 58, 59, 60, 592, 593, 594, 595, 596, 597, 598, 599, 615, 616, 617, 618, 619, 620, 641, 642, 643, 644] (by decide +kernel) (by decide +kernel)
set_option maxRecDepth 20000 in
theorem gL_law_X6_pour : GoodIn wsL_law (wsV RL 49 RX6 yX6_pour wsX6_pour) := goodIn_app (goodIn_of _ (by decide +kernel)) ggL_law_X6_pour
