set_option maxRecDepth 20000 in
theorem ggL_law_X5_init : GoodIn wsL_law wsX5_init := goodIn_r _ [8, 9, 10, 11, 12, 13, 14, 15, 16, 17, 18, 19, 20, 21, 22, 23, 24, 25, 26, 27, 28, 29, 30, 31, 32, 33, 34, 35, 36, 37, 38, 39, 40, 41, 42, 43, 44, 45, 46, 47, 48, 49, 50, 51, 52, 53, 54, 55, 56, 57, 58, 59, 60, 61, 62, 63, 64, 65, 66, 67, 651, 652, 653, 654, 624, 625, 626, 627, 628, 629, 630, 655, 656, 657, 658, 659, 660, 661, 662, 663] (by decide +kernel) (by decide +kernel)
set_option maxRecDepth 20000 in
theorem gL_law_X5_init : GoodIn wsL_law (wsX5_init) := ggL_law_X5_init
set_option maxRecDepth 20000 in
theorem ggL_law_X6_init : GoodIn wsL_law wsX6_init := goodIn_r _ [70, 71, 10, 11, 36, 72, 73, 74, 75, 53, 76, 77, 78, 79, 80, 81, 82, 83, 66, 84, 85, 86, 631, 632, 633, 634, 635, 636, 637, 638, 639, 640, 641, 642, 643, 644, 645, 646, 647, 648, 649, 650] (by decide +kernel) (by decide +kernel)
set_option maxRecDepth 20000 in
theorem gL_law_X6_init : GoodIn wsL_law (wsX6_init) := ggL_law_X6_init
set_option maxRecDepth 20000 in
theorem ggL_law_X5_alphabet : GoodIn wsL_law wsX5_alphabet := goodIn_r _ [90, 15, 91, 92, 93, 14, 94, 33, 95, 96, 97, 40, 98, 47, 48, 99, 2, 100, 101, 102, 103, 104, 35, 105, 106, 107, 42, 108, 57, 56, 624, 625, 626, 627, 628, 629, 630, 651, 652, 653, 654, 658, 659, 660, 661, 662, 663] (by decide +kernel) (by decide +kernel)
set_option maxRecDepth 20000 in
theorem gL_law_X5_alphabet : GoodIn wsL_law (wsV RL 13 RX5 yX5_alphabet wsX5_alphabet) := goodIn_app (goodIn_of _ (by decide +kernel)) ggL_law_X5_alphabet
set_option maxRecDepth 20000 in
theorem ggL_law_X6_alphabet : GoodIn wsL_law wsX6_alphabet := goodIn_r _ [112, 113, 114, 115, 72, 73, 86, 116, 117, 5, 118, 119, 120, 121, 122, 631, 632, 633, 634, 635, 636, 637, 638, 639, 640, 641, 642, 643, 644, 645, 646, 647, 648, 649, 650] (by decide +kernel) (by decide +kernel)
set_option maxRecDepth 20000 in
theorem gL_law_X6_alphabet : GoodIn wsL_law (wsV RL 17 RX6 yX6_alphabet wsX6_alphabet) := goodIn_app (goodIn_of _ (by decide +kernel)) ggL_law_X6_alphabet
set_option maxRecDepth 20000 in
theorem ggL_law_X5_ring : GoodIn wsL_law wsX5_ring := goodIn_r _ [126, 15, 127, 128, 129, 14, 130, 33, 131, 132, 133, 134, 38, 37, 135, 102, 103, 104, 35, 105, 106, 107, 42, 108, 57, 56, 624, 625, 626, 627, 628, 629, 630, 651, 652, 653, 654, 660, 661, 662, 663] (by decide +kernel) (by decide +kernel)
set_option maxRecDepth 20000 in
theorem gL_law_X5_ring : GoodIn wsL_law (wsV RL 18 RX5 yX5_ring wsX5_ring) := goodIn_app (goodIn_of _ (by decide +kernel)) ggL_law_X5_ring
set_option maxRecDepth 20000 in
theorem ggL_law_X6_ring : GoodIn wsL_law wsX6_ring := goodIn_r _ [139, 119, 85, 74, 86, 120, 121, 5, 122, 116, 117, 118, 631, 632, 633, 634, 635, 636, 637, 638, 639, 640, 641, 642, 643, 644, 645, 646, 647, 648, 649, 650] (by decide +kernel) (by decide +kernel)
set_option maxRecDepth 20000 in
theorem gL_law_X6_ring : GoodIn wsL_law (wsV RL 22 RX6 yX6_ring wsX6_ring) := goodIn_app (goodIn_of _ (by decide +kernel)) ggL_law_X6_ring
set_option maxRecDepth 20000 in
theorem ggL_law_X5_at : GoodIn wsL_law wsX5_at := goodIn_r _ [143, 15, 144, 145, 146, 147, 14, 148, 38, 35, 149, 150, 2, 151, 152, 153, 154, 155, 156, 157, 158, 159, 160, 42, 161, 57, 162, 163, 164, 165, 166, 167, 168, 169, 170, 171, 172, 173, 174, 175, 176, 177, 56, 178, 179, 180, 181, 182, 183, 184, 185, 37, 33, 186, 128, 129, 130, 187, 188, 189, 40, 190, 48, 47, 191, 192, 193, 194, 195, 196, 197, 198, 54, 199, 200, 201, 202, 99, 100, 203, 204, 205, 206, 55, 207, 208, 209, 210, 211, 212, 213, 214, 215, 216, 624, 625, 626, 627, 628, 629, 630, 651, 652, 653, 654, 660, 661, 662, 663, 658, 659] (by decide +kernel) (by decide +kernel)
set_option maxRecDepth 20000 in
theorem gL_law_X5_at : GoodIn wsL_law (wsV RL 23 RX5 yX5_at wsX5_at) := goodIn_app (goodIn_of _ (by decide +kernel)) ggL_law_X5_at
set_option maxRecDepth 20000 in
theorem ggL_law_X6_at : GoodIn wsL_law wsX6_at := goodIn_r _ [220, 221, 222, 223, 5, 224, 85, 120, 121, 122, 225, 226, 227, 228, 229, 230, 231, 232, 86, 233, 79, 234, 235, 236, 237, 238, 76, 77, 78, 239, 240, 241, 242, 74, 72, 73, 243, 244, 245, 246, 631, 632, 633, 634, 635, 636, 637, 638, 639, 640, 641, 642, 643, 644, 645, 646, 647, 648, 649, 650] (by decide +kernel) (by decide +kernel)
set_option maxRecDepth 20000 in
theorem gL_law_X6_at : GoodIn wsL_law (wsV RL 27 RX6 yX6_at wsX6_at) := goodIn_app (goodIn_of _ (by decide +kernel)) ggL_law_X6_at
set_option maxRecDepth 20000 in
theorem ggL_law_X5_count : GoodIn wsL_law wsX5_count := goodIn_r _ [250, 15, 144, 145, 146, 147, 14, 148, 38, 35, 149, 150, 2, 151, 152, 153, 154, 155, 156, 157, 158, 159, 160, 42, 161, 57, 162, 163, 164, 165, 166, 167, 168, 169, 170, 171, 172, 173, 174, 175, 176, 177, 56, 178, 179, 180, 181, 182, 183, 184, 185, 37, 33, 186, 128, 129, 130, 187, 188, 189, 40, 190, 48, 47, 191, 192, 193, 194, 195, 196, 197, 198, 54, 199, 200, 201, 202, 99, 100, 203, 204, 205, 206, 55, 207, 208, 209, 210, 211, 212, 213, 214, 215, 251, 252, 253, 254, 255, 256, 257, 258, 624, 625, 626, 627, 628, 629, 630, 651, 652, 653, 654, 660, 661, 662, 663, 658, 659] (by decide +kernel) (by decide +kernel)
set_option maxRecDepth 20000 in
theorem gL_law_X5_count : GoodIn wsL_law (wsV RL 28 RX5 yX5_count wsX5_count) := goodIn_app (goodIn_of _ (by decide +kernel)) ggL_law_X5_count
set_option maxRecDepth 20000 in
theorem ggL_law_X6_count : GoodIn wsL_law wsX6_count := goodIn_r _ [262, 221, 222, 223, 5, 224, 85, 120, 121, 122, 225, 226, 227, 228, 229, 230, 231, 232, 86, 233, 79, 234, 235, 236, 237, 238, 76, 77, 78, 239, 240, 241, 242, 74, 72, 73, 243, 244, 245, 246, 631, 632, 633, 634, 635, 636, 637, 638, 639, 640, 641, 642, 643, 644, 645, 646, 647, 648, 649, 650] (by decide +kernel) (by decide +kernel)
set_option maxRecDepth 20000 in
theorem gL_law_X6_count : GoodIn wsL_law (wsV RL 32 RX6 yX6_count wsX6_count) := goodIn_app (goodIn_of _ (by decide +kernel)) ggL_law_X6_count
set_option maxRecDepth 20000 in
theorem ggL_law_X5_sum : GoodIn wsL_law wsX5_sum := goodIn_r _ [266, 15, 144, 145, 146, 147, 14, 148, 38, 35, 149, 150, 2, 151, 152, 153, 154, 155, 156, 157, 158, 159, 160, 42, 161, 57, 162, 163, 164, 165, 166, 167, 168, 169, 170, 171, 172, 173, 174, 175, 176, 177, 56, 178, 179, 180, 181, 182, 183, 184, 185, 37, 33, 186, 128, 129, 130, 187, 188, 189, 40, 190, 48, 47, 191, 192, 193, 194, 195, 196, 197, 198, 54, 199, 200, 201, 202, 99, 100, 203, 204, 205, 206, 55, 207, 208, 209, 210, 211, 212, 213, 214, 215, 267, 268, 269, 270, 271, 252, 253, 254, 255, 256, 257, 258, 624, 625, 626, 627, 628, 629, 630, 651, 652, 653, 654, 660, 661, 662, 663, 658, 659] (by decide +kernel) (by decide +kernel)
set_option maxRecDepth 20000 in
theorem gL_law_X5_sum : GoodIn wsL_law (wsV RL 33 RX5 yX5_sum wsX5_sum) := goodIn_app (goodIn_of _ (by decide +kernel)) ggL_law_X5_sum
set_option maxRecDepth 20000 in
theorem ggL_law_X6_sum : GoodIn wsL_law wsX6_sum := goodIn_r _ [275, 221, 222, 223, 5, 224, 85, 120, 121, 122, 225, 226, 227, 228, 229, 230, 231, 232, 86, 233, 79, 234, 235, 236, 237, 238, 76, 77, 78, 239, 240, 241, 242, 74, 72, 73, 243, 244, 245, 246, 631, 632, 633, 634, 635, 636, 637, 638, 639, 640, 641, 642, 643, 644, 645, 646, 647, 648, 649, 650] (by decide +kernel) (by decide +kernel)
set_option maxRecDepth 20000 in
theorem gL_law_X6_sum : GoodIn wsL_law (wsV RL 36 RX6 yX6_sum wsX6_sum) := goodIn_app (goodIn_of _ (by decide +kernel)) ggL_law_X6_sum
set_option maxRecDepth 20000 in
theorem ggL_law_X5_run : GoodIn wsL_law wsX5_run := goodIn_r _ [279, 15, 144, 145, 146, 147, 14, 148, 38, 35, 149, 150, 2, 151, 152, 153, 154, 155, 156, 157, 158, 159, 160, 42, 161, 57, 162, 163, 164, 165, 166, 167, 168, 169, 170, 171, 172, 173, 174, 175, 176, 177, 56, 178, 179, 180, 181, 182, 183, 184, 185, 37, 33, 186, 128, 129, 130, 187, 188, 189, 40, 190, 48, 47, 191, 192, 193, 194, 195, 196, 197, 198, 54, 199, 200, 201, 202, 99, 100, 203, 204, 205, 206, 55, 207, 208, 209, 210, 211, 212, 213, 214, 215, 280, 281, 282, 283, 255, 256, 257, 258, 624, 625, 626, 627, 628, 629, 630, 651, 652, 653, 654, 660, 661, 662, 663, 658, 659] (by decide +kernel) (by decide +kernel)
set_option maxRecDepth 20000 in
theorem gL_law_X5_run : GoodIn wsL_law (wsV RL 37 RX5 yX5_run wsX5_run) := goodIn_app (goodIn_of _ (by decide +kernel)) ggL_law_X5_run
set_option maxRecDepth 20000 in
theorem ggL_law_X6_run : GoodIn wsL_law wsX6_run := goodIn_r _ [287, 221, 222, 223, 5, 224, 85, 120, 121, 122, 225, 226, 227, 228, 229, 230, 231, 232, 86, 233, 79, 234, 235, 236, 237, 238, 76, 77, 78, 239, 240, 241, 242, 74, 72, 73, 243, 244, 245, 246, 631, 632, 633, 634, 635, 636, 637, 638, 639, 640, 641, 642, 643, 644, 645, 646, 647, 648, 649, 650] (by decide +kernel) (by decide +kernel)
set_option maxRecDepth 20000 in
theorem gL_law_X6_run : GoodIn wsL_law (wsV RL 40 RX6 yX6_run wsX6_run) := goodIn_app (goodIn_of _ (by decide +kernel)) ggL_law_X6_run
set_option maxRecDepth 20000 in
theorem ggL_law_X5_begins : GoodIn wsL_law wsX5_begins := goodIn_r _ [291, 15, 144, 145, 146, 147, 14, 148, 38, 35, 149, 150, 2, 151, 292, 171, 172, 173, 152, 153, 154, 155, 156, 157, 158, 159, 160, 42, 161, 57, 162, 163, 164, 165, 166, 167, 168, 169, 170, 174, 175, 176, 177, 56, 178, 179, 180, 181, 182, 183, 184, 185, 37, 33, 186, 128, 129, 130, 187, 188, 189, 40, 190, 48, 47, 191, 192, 193, 194, 195, 196, 197, 198, 54, 199, 200, 201, 202, 99, 100, 203, 204, 205, 206, 55, 207, 208, 209, 210, 211, 212, 213, 214, 215, 267, 268, 269, 270, 271, 252, 253, 254, 255, 256, 257, 258, 624, 625, 626, 627, 628, 629, 630, 651, 652, 653, 654, 660, 661, 662, 663, 658, 659] (by decide +kernel) (by decide +kernel)
