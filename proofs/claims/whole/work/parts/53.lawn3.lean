set_option maxRecDepth 20000 in
theorem ggL_law_X6_shorten : GoodIn wsL_law wsX6_shorten := goodIn_r _ [414, 115, 333, 120, 121, 5, 122, 385, 386, 387, 388, 389, 81, 80, 390, 391, 392, 393, 384, 82, 415, 416, 417, 418, 419, 420, 421, 422, 631, 632, 633, 634, 635, 636, 637, 638, 639, 640, 641, 642, 643, 644, 645, 646, 647, 648, 649, 650] (by decide +kernel) (by decide +kernel)
set_option maxRecDepth 20000 in
theorem gL_law_X6_shorten : GoodIn wsL_law (wsV RL 74 RX6 yX6_shorten wsX6_shorten) := goodIn_app (goodIn_of _ (by decide +kernel)) ggL_law_X6_shorten
set_option maxRecDepth 20000 in
theorem ggL_law_X5_lengthen : GoodIn wsL_law wsX5_lengthen := goodIn_r _ [426, 15, 19, 20, 91, 92, 93, 14, 94, 33, 427, 428, 429, 40, 430, 48, 431, 432, 433, 18, 434, 62, 379, 360, 361, 362, 61, 435, 436, 437, 438, 439, 339, 340, 341, 440, 326, 327, 328, 441, 322, 323, 324, 338, 325, 442, 188, 189, 190, 47, 359, 443, 444, 445, 446, 624, 625, 626, 627, 628, 629, 630, 651, 652, 653, 654, 658, 659, 655, 656] (by decide +kernel) (by decide +kernel)
set_option maxRecDepth 20000 in
theorem gL_law_X5_lengthen : GoodIn wsL_law (wsV RL 75 RX5 yX5_lengthen wsX5_lengthen) := goodIn_app (goodIn_of _ (by decide +kernel)) ggL_law_X5_lengthen
set_option maxRecDepth 20000 in
theorem ggL_law_X6_lengthen : GoodIn wsL_law wsX6_lengthen := goodIn_r _ [450, 73, 333, 80, 389, 81, 72, 116, 117, 5, 118, 119, 120, 121, 122, 419, 420, 421, 422, 631, 632, 633, 634, 635, 636, 637, 638, 639, 640, 641, 642, 643, 644, 645, 646, 647, 648, 649, 650] (by decide +kernel) (by decide +kernel)
set_option maxRecDepth 20000 in
theorem gL_law_X6_lengthen : GoodIn wsL_law (wsV RL 78 RX6 yX6_lengthen wsX6_lengthen) := goodIn_app (goodIn_of _ (by decide +kernel)) ggL_law_X6_lengthen
set_option maxRecDepth 20000 in
theorem ggL_law_X5_mirror : GoodIn wsL_law wsX5_mirror := goodIn_r _ [454, 19, 455, 456, 457, 18, 458, 62, 379, 360, 361, 362, 61, 407, 408, 409, 410, 325, 326, 327, 328, 624, 625, 626, 627, 628, 629, 630, 655, 656] (by decide +kernel) (by decide +kernel)
set_option maxRecDepth 20000 in
theorem gL_law_X5_mirror : GoodIn wsL_law (wsV RL 79 RX5 yX5_mirror wsX5_mirror) := goodIn_app (goodIn_of _ (by decide +kernel)) ggL_law_X5_mirror
set_option maxRecDepth 20000 in
theorem ggL_law_X6_mirror : GoodIn wsL_law wsX6_mirror := goodIn_r _ [462, 333, 80, 81, 385, 386, 387, 5, 388, 389, 631, 632, 633, 634, 635, 636, 637, 638, 639, 640, 641, 642, 643, 644, 645, 646, 647, 648, 649, 650] (by decide +kernel) (by decide +kernel)
set_option maxRecDepth 20000 in
theorem gL_law_X6_mirror : GoodIn wsL_law (wsV RL 82 RX6 yX6_mirror wsX6_mirror) := goodIn_app (goodIn_of _ (by decide +kernel)) ggL_law_X6_mirror
set_option maxRecDepth 20000 in
theorem ggL_law_X5_turn : GoodIn wsL_law wsX5_turn := goodIn_r _ [466, 15, 19, 91, 92, 93, 14, 94, 33, 467, 468, 469, 18, 470, 62, 379, 360, 361, 362, 61, 471, 472, 473, 40, 474, 48, 475, 188, 189, 190, 47, 407, 408, 409, 410, 624, 625, 626, 627, 628, 629, 630, 651, 652, 653, 654, 655, 656, 658, 659] (by decide +kernel) (by decide +kernel)
set_option maxRecDepth 20000 in
theorem gL_law_X5_turn : GoodIn wsL_law (wsV RL 83 RX5 yX5_turn wsX5_turn) := goodIn_app (goodIn_of _ (by decide +kernel)) ggL_law_X5_turn
set_option maxRecDepth 20000 in
theorem ggL_law_X6_turn : GoodIn wsL_law wsX6_turn := goodIn_r _ [479, 333, 73, 72, 80, 116, 117, 5, 118, 119, 120, 121, 122, 631, 632, 633, 634, 635, 636, 637, 638, 639, 640, 641, 642, 643, 644, 645, 646, 647, 648, 649, 650] (by decide +kernel) (by decide +kernel)
set_option maxRecDepth 20000 in
theorem gL_law_X6_turn : GoodIn wsL_law (wsV RL 86 RX6 yX6_turn wsX6_turn) := goodIn_app (goodIn_of _ (by decide +kernel)) ggL_law_X6_turn
set_option maxRecDepth 20000 in
theorem ggL_law_X5_depth : GoodIn wsL_law wsX5_depth := goodIn_r _ [483, 20, 19, 435, 436, 437, 18, 438, 439, 339, 340, 341, 62, 440, 326, 327, 328, 379, 360, 361, 362, 61, 441, 322, 323, 324, 484, 485, 2, 486, 325, 487, 488, 489, 490, 402, 310, 307, 311, 398, 399, 400, 401, 375, 376, 377, 378, 403, 404, 405, 406, 407, 408, 409, 410, 624, 625, 626, 627, 628, 629, 630, 655, 656] (by decide +kernel) (by decide +kernel)
set_option maxRecDepth 20000 in
theorem gL_law_X5_depth : GoodIn wsL_law (wsV RL 87 RX5 yX5_depth wsX5_depth) := goodIn_app (goodIn_of _ (by decide +kernel)) ggL_law_X5_depth
set_option maxRecDepth 20000 in
theorem ggL_law_X6_depth : GoodIn wsL_law wsX6_depth := goodIn_r _ [494, 113, 115, 120, 121, 5, 122, 385, 386, 387, 388, 333, 389, 81, 80, 495, 496, 497, 498, 390, 391, 392, 393, 384, 82, 415, 416, 417, 418, 631, 632, 633, 634, 635, 636, 637, 638, 639, 640, 641, 642, 643, 644, 645, 646, 647, 648, 649, 650] (by decide +kernel) (by decide +kernel)
set_option maxRecDepth 20000 in
theorem gL_law_X6_depth : GoodIn wsL_law (wsV RL 90 RX6 yX6_depth wsX6_depth) := goodIn_app (goodIn_of _ (by decide +kernel)) ggL_law_X6_depth
set_option maxRecDepth 20000 in
theorem ggL_law_X5_many : GoodIn wsL_law wsX5_many := goodIn_r _ [502, 26, 21, 20, 503, 504, 2, 505, 149, 150, 151, 338, 339, 340, 18, 341, 62, 506, 507, 508, 435, 436, 437, 438, 439, 440, 326, 327, 328, 379, 360, 361, 362, 61, 441, 322, 323, 324, 484, 485, 486, 325, 487, 488, 489, 490, 402, 310, 307, 311, 398, 399, 400, 401, 375, 376, 377, 378, 403, 404, 405, 406, 407, 408, 409, 410, 359, 321, 509, 510, 511, 512, 624, 625, 626, 627, 628, 629, 630, 655, 656] (by decide +kernel) (by decide +kernel)
set_option maxRecDepth 20000 in
theorem gL_law_X5_many : GoodIn wsL_law (wsV RL 91 RX5 yX5_many wsX5_many) := goodIn_app (goodIn_of _ (by decide +kernel)) ggL_law_X5_many
set_option maxRecDepth 20000 in
theorem ggL_law_X6_many : GoodIn wsL_law wsX6_many := goodIn_r _ [516, 113, 119, 517, 518, 519, 83, 389, 81, 120, 121, 5, 122, 495, 496, 497, 498, 390, 391, 392, 393, 384, 82, 415, 416, 417, 418, 631, 632, 633, 634, 635, 636, 637, 638, 639, 640, 641, 642, 643, 644, 645, 646, 647, 648, 649, 650] (by decide +kernel) (by decide +kernel)
set_option maxRecDepth 20000 in
theorem gL_law_X6_many : GoodIn wsL_law (wsV RL 94 RX6 yX6_many wsX6_many) := goodIn_app (goodIn_of _ (by decide +kernel)) ggL_law_X6_many
set_option maxRecDepth 20000 in
theorem ggL_law_X5_isMirror : GoodIn wsL_law wsX5_isMirror := goodIn_r _ [523, 19, 524, 525, 526, 18, 527, 62, 379, 360, 361, 362, 61, 624, 625, 626, 627, 628, 629, 630, 655, 656] (by decide +kernel) (by decide +kernel)
set_option maxRecDepth 20000 in
theorem gL_law_X5_isMirror : GoodIn wsL_law (wsV RL 95 RX5 yX5_isMirror wsX5_isMirror) := goodIn_app (goodIn_of _ (by decide +kernel)) ggL_law_X5_isMirror
set_option maxRecDepth 20000 in
theorem ggL_law_X6_isMirror : GoodIn wsL_law wsX6_isMirror := goodIn_r _ [531, 333, 80, 631, 632, 633, 634, 635, 636, 637, 638, 639, 640, 641, 642, 643, 644, 645, 646, 647, 648, 649, 650] (by decide +kernel) (by decide +kernel)
set_option maxRecDepth 20000 in
theorem gL_law_X6_isMirror : GoodIn wsL_law (wsV RL 98 RX6 yX6_isMirror wsX6_isMirror) := goodIn_app (goodIn_of _ (by decide +kernel)) ggL_law_X6_isMirror
set_option maxRecDepth 20000 in
theorem ggL_law_X5_twice : GoodIn wsL_law wsX5_twice := goodIn_r _ [535, 19, 536, 537, 538, 18, 539, 62, 540, 541, 542, 543, 379, 360, 361, 362, 61, 624, 625, 626, 627, 628, 629, 630, 655, 656] (by decide +kernel) (by decide +kernel)
set_option maxRecDepth 20000 in
theorem gL_law_X5_twice : GoodIn wsL_law (wsV RL 99 RX5 yX5_twice wsX5_twice) := goodIn_app (goodIn_of _ (by decide +kernel)) ggL_law_X5_twice
set_option maxRecDepth 20000 in
theorem ggL_law_X6_twice : GoodIn wsL_law wsX6_twice := goodIn_r _ [547, 333, 80, 631, 632, 633, 634, 635, 636, 637, 638, 639, 640, 641, 642, 643, 644, 645, 646, 647, 648, 649, 650] (by decide +kernel) (by decide +kernel)
set_option maxRecDepth 20000 in
theorem gL_law_X6_twice : GoodIn wsL_law (wsV RL 102 RX6 yX6_twice wsX6_twice) := goodIn_app (goodIn_of _ (by decide +kernel)) ggL_law_X6_twice
