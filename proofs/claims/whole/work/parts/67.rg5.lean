set_option maxRecDepth 20000 in
theorem ggL_law_X5_together : GoodIn wsL_law wsX5_together := goodIn_r _ [560, 23, 310, 80, 543, 341, 22, 342, 343, 224, 314, 315, 2, 316, 561, 562, 563, 564, 528, 529, 530, 347, 240, 241, 242, 485, 385, 386, 387, 225, 388, 362, 363, 364, 48, 138, 139, 389, 390, 391, 392, 393, 394, 395, 396, 397, 365, 366, 367, 49, 398, 368, 369, 370, 50, 399, 400, 401, 402, 403, 404, 405, 790, 791, 792, 793, 794, 795, 796, 797, 798, 831, 832, 833, 834, 835, 836, 837, 838] (by decide +kernel) (by decide +kernel)
set_option maxRecDepth 20000 in
theorem gL_law_X5_together : GoodIn wsL_law (wsV RL 94 RX5 yX5_together wsX5_together) := goodIn_app (goodIn_of _ (by decide +kernel)) ggL_law_X5_together
set_option maxRecDepth 20000 in
theorem ggL_law_X6_together : GoodIn wsL_law wsX6_together := goodIn_r _ [568, 261, 328, 105, 552, 67, 110, 111, 5, 112, 535, 536, 537, 538, 354, 355, 356, 357, 415, 416, 417, 418, 419, 420, 421, 422, 423, 424, 425, 799, 800, 801, 802, 803, 804, 805, 806, 807, 808, 809, 810, 811, 812, 813, 814, 815, 816, 817, 818, 819, 820] (by decide +kernel) (by decide +kernel)
set_option maxRecDepth 20000 in
theorem gL_law_X6_together : GoodIn wsL_law (wsV RL 97 RX6 yX6_together wsX6_together) := goodIn_app (goodIn_of _ (by decide +kernel)) ggL_law_X6_together
set_option maxRecDepth 20000 in
theorem ggL_law_X5_whoAway : GoodIn wsL_law wsX5_whoAway := goodIn_r _ [572, 23, 310, 80, 543, 341, 22, 342, 343, 224, 573, 574, 2, 575, 314, 315, 316, 240, 241, 242, 385, 386, 387, 225, 388, 362, 363, 364, 48, 138, 139, 389, 390, 391, 392, 393, 394, 395, 396, 397, 365, 366, 367, 49, 398, 368, 369, 370, 50, 399, 400, 401, 402, 403, 404, 405, 790, 791, 792, 793, 794, 795, 796, 797, 798, 831, 832, 833, 834, 835, 836, 837, 838] (by decide +kernel) (by decide +kernel)
set_option maxRecDepth 20000 in
theorem gL_law_X5_whoAway : GoodIn wsL_law (wsV RL 98 RX5 yX5_whoAway wsX5_whoAway) := goodIn_app (goodIn_of _ (by decide +kernel)) ggL_law_X5_whoAway
set_option maxRecDepth 20000 in
theorem ggL_law_X6_whoAway : GoodIn wsL_law wsX6_whoAway := goodIn_r _ [579, 261, 328, 105, 552, 580, 581, 5, 582, 583, 584, 110, 111, 112, 354, 355, 356, 357, 67, 415, 416, 417, 418, 419, 420, 421, 422, 423, 424, 425, 799, 800, 801, 802, 803, 804, 805, 806, 807, 808, 809, 810, 811, 812, 813, 814, 815, 816, 817, 818, 819, 820] (by decide +kernel) (by decide +kernel)
set_option maxRecDepth 20000 in
theorem gL_law_X6_whoAway : GoodIn wsL_law (wsV RL 101 RX6 yX6_whoAway wsX6_whoAway) := goodIn_app (goodIn_of _ (by decide +kernel)) ggL_law_X6_whoAway
set_option maxRecDepth 20000 in
theorem ggL_law_X5_enough : GoodIn wsL_law wsX5_enough := goodIn_r _ [588, 23, 310, 80, 543, 341, 22, 342, 343, 224, 573, 574, 2, 575, 314, 315, 316, 240, 241, 242, 501, 400, 401, 402, 403, 404, 405, 385, 386, 387, 225, 388, 362, 363, 364, 48, 138, 139, 389, 390, 391, 392, 393, 394, 395, 396, 397, 365, 366, 367, 49, 398, 368, 369, 370, 50, 399, 790, 791, 792, 793, 794, 795, 796, 797, 798, 831, 832, 833, 834, 835, 836, 837, 838] (by decide +kernel) (by decide +kernel)
set_option maxRecDepth 20000 in
theorem gL_law_X5_enough : GoodIn wsL_law (wsV RL 102 RX5 yX5_enough wsX5_enough) := goodIn_app (goodIn_of _ (by decide +kernel)) ggL_law_X5_enough
set_option maxRecDepth 20000 in
theorem ggL_law_X6_enough : GoodIn wsL_law wsX6_enough := goodIn_r _ [592, 261, 328, 105, 552, 580, 581, 5, 582, 583, 584, 110, 111, 112, 354, 355, 356, 357, 67, 423, 424, 425, 415, 416, 417, 418, 419, 420, 421, 422, 799, 800, 801, 802, 803, 804, 805, 806, 807, 808, 809, 810, 811, 812, 813, 814, 815, 816, 817, 818, 819, 820] (by decide +kernel) (by decide +kernel)
set_option maxRecDepth 20000 in
theorem gL_law_X6_enough : GoodIn wsL_law (wsV RL 105 RX6 yX6_enough wsX6_enough) := goodIn_app (goodIn_of _ (by decide +kernel)) ggL_law_X6_enough
set_option maxRecDepth 20000 in
theorem ggL_law_X5_best : GoodIn wsL_law wsX5_best := goodIn_r _ [596, 23, 310, 80, 341, 22, 342, 343, 224, 314, 315, 2, 316, 385, 386, 387, 225, 388, 362, 363, 364, 48, 138, 139, 389, 390, 391, 392, 393, 394, 395, 396, 397, 365, 366, 367, 49, 398, 368, 369, 370, 50, 399, 400, 401, 402, 403, 404, 405, 240, 241, 242, 501, 790, 791, 792, 793, 794, 795, 796, 797, 798, 831, 832, 833, 834, 835, 836, 837, 838] (by decide +kernel) (by decide +kernel)
set_option maxRecDepth 20000 in
theorem gL_law_X5_best : GoodIn wsL_law (wsV RL 106 RX5 yX5_best wsX5_best) := goodIn_app (goodIn_of _ (by decide +kernel)) ggL_law_X5_best
set_option maxRecDepth 20000 in
theorem ggL_law_X6_best : GoodIn wsL_law wsX6_best := goodIn_r _ [600, 261, 328, 105, 110, 111, 5, 112, 354, 355, 356, 357, 67, 415, 416, 417, 418, 419, 420, 421, 422, 423, 424, 425, 799, 800, 801, 802, 803, 804, 805, 806, 807, 808, 809, 810, 811, 812, 813, 814, 815, 816, 817, 818, 819, 820] (by decide +kernel) (by decide +kernel)
set_option maxRecDepth 20000 in
theorem gL_law_X6_best : GoodIn wsL_law (wsV RL 109 RX6 yX6_best wsX6_best) := goodIn_app (goodIn_of _ (by decide +kernel)) ggL_law_X6_best
set_option maxRecDepth 20000 in
theorem ggL_law_X5_bring : GoodIn wsL_law wsX5_bring := goodIn_r _ [604, 23, 310, 80, 543, 341, 22, 342, 343, 224, 314, 315, 2, 316, 479, 480, 481, 382, 383, 384, 226, 347, 240, 241, 242, 482, 483, 484, 485, 385, 386, 387, 225, 388, 362, 363, 364, 48, 138, 139, 389, 390, 391, 392, 393, 394, 395, 396, 397, 365, 366, 367, 49, 398, 368, 369, 370, 50, 399, 400, 401, 402, 403, 404, 405, 790, 791, 792, 793, 794, 795, 796, 797, 798, 831, 832, 833, 834, 835, 836, 837, 838] (by decide +kernel) (by decide +kernel)
set_option maxRecDepth 20000 in
theorem gL_law_X5_bring : GoodIn wsL_law (wsV RL 110 RX5 yX5_bring wsX5_bring) := goodIn_app (goodIn_of _ (by decide +kernel)) ggL_law_X5_bring
set_option maxRecDepth 20000 in
theorem ggL_law_X6_bring : GoodIn wsL_law wsX6_bring := goodIn_r _ [608, 261, 328, 105, 552, 67, 110, 111, 5, 112, 490, 491, 492, 411, 412, 413, 414, 354, 355, 356, 357, 493, 494, 495, 496, 415, 416, 417, 418, 419, 420, 421, 422, 423, 424, 425, 799, 800, 801, 802, 803, 804, 805, 806, 807, 808, 809, 810, 811, 812, 813, 814, 815, 816, 817, 818, 819, 820] (by decide +kernel) (by decide +kernel)
set_option maxRecDepth 20000 in
theorem gL_law_X6_bring : GoodIn wsL_law (wsV RL 113 RX6 yX6_bring wsX6_bring) := goodIn_app (goodIn_of _ (by decide +kernel)) ggL_law_X6_bring
