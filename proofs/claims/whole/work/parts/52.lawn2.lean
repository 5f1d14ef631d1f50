set_option maxRecDepth 20000 in
theorem gL_law_X5_begins : GoodIn wsL_law (wsV RL 41 RX5 yX5_begins wsX5_begins) := goodIn_app (goodIn_of _ (by decide +kernel)) ggL_law_X5_begins
set_option maxRecDepth 20000 in
theorem ggL_law_X6_begins : GoodIn wsL_law wsX6_begins := goodIn_r _ [296, 234, 221, 222, 223, 5, 224, 85, 120, 121, 122, 225, 226, 227, 228, 229, 230, 231, 232, 86, 233, 79, 235, 236, 237, 238, 76, 77, 78, 239, 240, 241, 242, 74, 72, 73, 243, 244, 245, 246, 631, 632, 633, 634, 635, 636, 637, 638, 639, 640, 641, 642, 643, 644, 645, 646, 647, 648, 649, 650] (by decide +kernel) (by decide +kernel)
set_option maxRecDepth 20000 in
theorem gL_law_X6_begins : GoodIn wsL_law (wsV RL 44 RX6 yX6_begins wsX6_begins) := goodIn_app (goodIn_of _ (by decide +kernel)) ggL_law_X6_begins
set_option maxRecDepth 20000 in
theorem ggL_law_X5_off : GoodIn wsL_law wsX5_off := goodIn_r _ [300, 15, 144, 145, 146, 147, 14, 148, 38, 35, 149, 150, 2, 151, 152, 153, 154, 155, 156, 157, 158, 159, 160, 42, 161, 57, 162, 163, 164, 165, 166, 167, 168, 169, 170, 171, 172, 173, 174, 175, 176, 177, 56, 178, 179, 180, 181, 182, 183, 184, 185, 37, 33, 186, 128, 129, 130, 187, 188, 189, 40, 190, 48, 47, 191, 192, 193, 194, 195, 196, 197, 198, 54, 199, 200, 201, 202, 99, 100, 203, 204, 205, 206, 55, 207, 208, 209, 210, 211, 212, 213, 214, 215, 301, 302, 303, 304, 305, 306, 307, 308, 309, 310, 311, 624, 625, 626, 627, 628, 629, 630, 651, 652, 653, 654, 660, 661, 662, 663, 658, 659] (by decide +kernel) (by decide +kernel)
set_option maxRecDepth 20000 in
theorem gL_law_X5_off : GoodIn wsL_law (wsV RL 45 RX5 yX5_off wsX5_off) := goodIn_app (goodIn_of _ (by decide +kernel)) ggL_law_X5_off
set_option maxRecDepth 20000 in
theorem ggL_law_X6_off : GoodIn wsL_law wsX6_off := goodIn_r _ [315, 113, 115, 221, 222, 223, 5, 224, 85, 120, 121, 122, 225, 226, 227, 228, 229, 230, 231, 232, 86, 233, 79, 234, 235, 236, 237, 238, 76, 77, 78, 239, 240, 241, 242, 74, 72, 73, 243, 244, 245, 246, 631, 632, 633, 634, 635, 636, 637, 638, 639, 640, 641, 642, 643, 644, 645, 646, 647, 648, 649, 650] (by decide +kernel) (by decide +kernel)
set_option maxRecDepth 20000 in
theorem gL_law_X6_off : GoodIn wsL_law (wsV RL 48 RX6 yX6_off wsX6_off) := goodIn_app (goodIn_of _ (by decide +kernel)) ggL_law_X6_off
set_option maxRecDepth 20000 in
theorem ggL_law_X5_add : GoodIn wsL_law wsX5_add := goodIn_r _ [319, 19, 320, 99, 2, 100, 321, 322, 323, 18, 324, 62, 61, 325, 326, 327, 328, 624, 625, 626, 627, 628, 629, 630, 655, 656] (by decide +kernel) (by decide +kernel)
set_option maxRecDepth 20000 in
theorem gL_law_X5_add : GoodIn wsL_law (wsV RL 49 RX5 yX5_add wsX5_add) := goodIn_app (goodIn_of _ (by decide +kernel)) ggL_law_X5_add
set_option maxRecDepth 20000 in
theorem ggL_law_X6_add : GoodIn wsL_law wsX6_add := goodIn_r _ [332, 115, 333, 80, 120, 121, 5, 122, 631, 632, 633, 634, 635, 636, 637, 638, 639, 640, 641, 642, 643, 644, 645, 646, 647, 648, 649, 650] (by decide +kernel) (by decide +kernel)
set_option maxRecDepth 20000 in
theorem gL_law_X6_add : GoodIn wsL_law (wsV RL 53 RX6 yX6_add wsX6_add) := goodIn_app (goodIn_of _ (by decide +kernel)) ggL_law_X6_add
set_option maxRecDepth 20000 in
theorem ggL_law_X5_take : GoodIn wsL_law wsX5_take := goodIn_r _ [337, 15, 144, 19, 145, 146, 147, 14, 148, 38, 35, 149, 150, 2, 151, 152, 153, 154, 155, 156, 157, 158, 159, 160, 42, 161, 57, 162, 163, 164, 165, 166, 167, 168, 169, 170, 171, 172, 173, 174, 175, 176, 177, 56, 178, 179, 180, 181, 182, 183, 184, 185, 37, 33, 186, 128, 129, 130, 187, 188, 189, 40, 190, 48, 47, 191, 192, 193, 194, 195, 196, 197, 198, 54, 199, 200, 201, 202, 99, 100, 203, 204, 205, 206, 55, 207, 208, 209, 210, 211, 212, 213, 214, 215, 338, 339, 340, 18, 341, 62, 216, 321, 322, 323, 324, 61, 624, 625, 626, 627, 628, 629, 630, 651, 652, 653, 654, 660, 661, 662, 663, 658, 659, 655, 656] (by decide +kernel) (by decide +kernel)
set_option maxRecDepth 20000 in
theorem gL_law_X5_take : GoodIn wsL_law (wsV RL 54 RX5 yX5_take wsX5_take) := goodIn_app (goodIn_of _ (by decide +kernel)) ggL_law_X5_take
set_option maxRecDepth 20000 in
theorem ggL_law_X6_take : GoodIn wsL_law wsX6_take := goodIn_r _ [345, 346, 75, 80, 333, 221, 222, 223, 5, 224, 85, 120, 121, 122, 225, 226, 227, 228, 229, 230, 231, 232, 86, 233, 79, 234, 235, 236, 237, 238, 76, 77, 78, 239, 240, 241, 242, 74, 72, 73, 243, 244, 245, 246, 631, 632, 633, 634, 635, 636, 637, 638, 639, 640, 641, 642, 643, 644, 645, 646, 647, 648, 649, 650] (by decide +kernel) (by decide +kernel)
set_option maxRecDepth 20000 in
theorem gL_law_X6_take : GoodIn wsL_law (wsV RL 57 RX6 yX6_take wsX6_take) := goodIn_app (goodIn_of _ (by decide +kernel)) ggL_law_X6_take
set_option maxRecDepth 20000 in
theorem ggL_law_X5_clear : GoodIn wsL_law wsX5_clear := goodIn_r _ [350, 19, 325, 326, 327, 18, 328, 62, 338, 339, 340, 341, 624, 625, 626, 627, 628, 629, 630, 655, 656] (by decide +kernel) (by decide +kernel)
set_option maxRecDepth 20000 in
theorem gL_law_X5_clear : GoodIn wsL_law (wsV RL 58 RX5 yX5_clear wsX5_clear) := goodIn_app (goodIn_of _ (by decide +kernel)) ggL_law_X5_clear
set_option maxRecDepth 20000 in
theorem ggL_law_X6_clear : GoodIn wsL_law wsX6_clear := goodIn_r _ [354, 333, 631, 632, 633, 634, 635, 636, 637, 638, 639, 640, 641, 642, 643, 644, 645, 646, 647, 648, 649, 650] (by decide +kernel) (by decide +kernel)
set_option maxRecDepth 20000 in
theorem gL_law_X6_clear : GoodIn wsL_law (wsV RL 62 RX6 yX6_clear wsX6_clear) := goodIn_app (goodIn_of _ (by decide +kernel)) ggL_law_X6_clear
set_option maxRecDepth 20000 in
theorem ggL_law_X5_letter : GoodIn wsL_law wsX5_letter := goodIn_r _ [358, 19, 359, 360, 361, 18, 362, 62, 61, 624, 625, 626, 627, 628, 629, 630, 655, 656] (by decide +kernel) (by decide +kernel)
set_option maxRecDepth 20000 in
theorem gL_law_X5_letter : GoodIn wsL_law (wsV RL 63 RX5 yX5_letter wsX5_letter) := goodIn_app (goodIn_of _ (by decide +kernel)) ggL_law_X5_letter
set_option maxRecDepth 20000 in
theorem ggL_law_X6_letter : GoodIn wsL_law wsX6_letter := goodIn_r _ [366, 333, 80, 120, 121, 5, 122, 631, 632, 633, 634, 635, 636, 637, 638, 639, 640, 641, 642, 643, 644, 645, 646, 647, 648, 649, 650] (by decide +kernel) (by decide +kernel)
set_option maxRecDepth 20000 in
theorem gL_law_X6_letter : GoodIn wsL_law (wsV RL 66 RX6 yX6_letter wsX6_letter) := goodIn_app (goodIn_of _ (by decide +kernel)) ggL_law_X6_letter
set_option maxRecDepth 20000 in
theorem ggL_law_X5_runs : GoodIn wsL_law wsX5_runs := goodIn_r _ [370, 19, 371, 372, 373, 18, 374, 62, 375, 376, 377, 378, 379, 360, 361, 362, 61, 624, 625, 626, 627, 628, 629, 630, 655, 656] (by decide +kernel) (by decide +kernel)
set_option maxRecDepth 20000 in
theorem gL_law_X5_runs : GoodIn wsL_law (wsV RL 67 RX5 yX5_runs wsX5_runs) := goodIn_app (goodIn_of _ (by decide +kernel)) ggL_law_X5_runs
set_option maxRecDepth 20000 in
theorem ggL_law_X6_runs : GoodIn wsL_law wsX6_runs := goodIn_r _ [383, 384, 385, 386, 387, 5, 388, 333, 389, 81, 80, 390, 391, 392, 393, 82, 631, 632, 633, 634, 635, 636, 637, 638, 639, 640, 641, 642, 643, 644, 645, 646, 647, 648, 649, 650] (by decide +kernel) (by decide +kernel)
set_option maxRecDepth 20000 in
theorem gL_law_X6_runs : GoodIn wsL_law (wsV RL 70 RX6 yX6_runs wsX6_runs) := goodIn_app (goodIn_of _ (by decide +kernel)) ggL_law_X6_runs
set_option maxRecDepth 20000 in
theorem ggL_law_X5_shorten : GoodIn wsL_law wsX5_shorten := goodIn_r _ [397, 19, 320, 99, 2, 100, 398, 399, 400, 18, 401, 62, 402, 310, 307, 311, 375, 376, 377, 378, 379, 360, 361, 362, 61, 403, 404, 405, 406, 407, 408, 409, 410, 325, 326, 327, 328, 624, 625, 626, 627, 628, 629, 630, 655, 656] (by decide +kernel) (by decide +kernel)
set_option maxRecDepth 20000 in
theorem gL_law_X5_shorten : GoodIn wsL_law (wsV RL 71 RX5 yX5_shorten wsX5_shorten) := goodIn_app (goodIn_of _ (by decide +kernel)) ggL_law_X5_shorten
