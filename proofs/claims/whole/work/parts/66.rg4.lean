set_option maxRecDepth 20000 in
theorem ggL_law_X5_worth : GoodIn wsL_law wsX5_worth := goodIn_r _ [466, 23, 310, 80, 341, 22, 342, 343, 224, 344, 345, 346, 347, 240, 241, 242, 385, 386, 387, 225, 388, 362, 363, 364, 48, 138, 2, 139, 389, 390, 391, 392, 393, 394, 395, 396, 397, 365, 366, 367, 49, 398, 368, 369, 370, 50, 399, 400, 401, 402, 403, 404, 405, 790, 791, 792, 793, 794, 795, 796, 797, 798, 831, 832, 833, 834, 835, 836, 837, 838] (by decide +kernel) (by decide +kernel)
set_option maxRecDepth 20000 in
theorem gL_law_X5_worth : GoodIn wsL_law (wsV RL 74 RX5 yX5_worth wsX5_worth) := goodIn_app (goodIn_of _ (by decide +kernel)) ggL_law_X5_worth
set_option maxRecDepth 20000 in
theorem ggL_law_X6_worth : GoodIn wsL_law wsX6_worth := goodIn_r _ [470, 261, 328, 105, 471, 472, 473, 5, 474, 354, 355, 356, 357, 67, 110, 111, 112, 415, 416, 417, 418, 419, 420, 421, 422, 423, 424, 425, 799, 800, 801, 802, 803, 804, 805, 806, 807, 808, 809, 810, 811, 812, 813, 814, 815, 816, 817, 818, 819, 820] (by decide +kernel) (by decide +kernel)
set_option maxRecDepth 20000 in
theorem gL_law_X6_worth : GoodIn wsL_law (wsV RL 77 RX6 yX6_worth wsX6_worth) := goodIn_app (goodIn_of _ (by decide +kernel)) ggL_law_X6_worth
set_option maxRecDepth 20000 in
theorem ggL_law_X5_adds : GoodIn wsL_law wsX5_adds := goodIn_r _ [478, 23, 80, 311, 22, 312, 313, 224, 344, 345, 346, 347, 240, 241, 242, 479, 480, 2, 481, 482, 483, 484, 485, 385, 386, 387, 225, 388, 362, 363, 364, 48, 138, 139, 389, 390, 391, 392, 393, 394, 395, 396, 397, 365, 366, 367, 49, 398, 368, 369, 370, 50, 399, 400, 401, 402, 403, 404, 405, 790, 791, 792, 793, 794, 795, 796, 797, 798, 831, 832, 833, 834, 835, 836, 837, 838] (by decide +kernel) (by decide +kernel)
set_option maxRecDepth 20000 in
theorem gL_law_X5_adds : GoodIn wsL_law (wsV RL 78 RX5 yX5_adds wsX5_adds) := goodIn_app (goodIn_of _ (by decide +kernel)) ggL_law_X5_adds
set_option maxRecDepth 20000 in
theorem ggL_law_X6_adds : GoodIn wsL_law wsX6_adds := goodIn_r _ [489, 105, 329, 330, 331, 5, 332, 67, 110, 111, 112, 471, 472, 473, 474, 354, 355, 356, 357, 490, 491, 492, 493, 494, 495, 496, 415, 416, 417, 418, 419, 420, 421, 422, 423, 424, 425, 799, 800, 801, 802, 803, 804, 805, 806, 807, 808, 809, 810, 811, 812, 813, 814, 815, 816, 817, 818, 819, 820] (by decide +kernel) (by decide +kernel)
set_option maxRecDepth 20000 in
theorem gL_law_X6_adds : GoodIn wsL_law (wsV RL 81 RX6 yX6_adds wsX6_adds) := goodIn_app (goodIn_of _ (by decide +kernel)) ggL_law_X6_adds
set_option maxRecDepth 20000 in
theorem ggL_law_X5_due : GoodIn wsL_law wsX5_due := goodIn_r _ [500, 23, 80, 311, 22, 312, 313, 224, 314, 315, 2, 316, 240, 241, 242, 479, 480, 481, 501, 400, 401, 402, 403, 404, 405, 502, 503, 504, 482, 483, 484, 485, 385, 386, 387, 225, 388, 362, 363, 364, 48, 138, 139, 389, 390, 391, 392, 393, 394, 395, 396, 397, 365, 366, 367, 49, 398, 368, 369, 370, 50, 399, 505, 506, 507, 508, 509, 510, 511, 512, 513, 790, 791, 792, 793, 794, 795, 796, 797, 798, 831, 832, 833, 834, 835, 836, 837, 838] (by decide +kernel) (by decide +kernel)
set_option maxRecDepth 20000 in
theorem gL_law_X5_due : GoodIn wsL_law (wsV RL 82 RX5 yX5_due wsX5_due) := goodIn_app (goodIn_of _ (by decide +kernel)) ggL_law_X5_due
set_option maxRecDepth 20000 in
theorem ggL_law_X6_due : GoodIn wsL_law wsX6_due := goodIn_r _ [517, 105, 67, 329, 330, 331, 5, 332, 110, 111, 112, 354, 355, 356, 357, 490, 491, 492, 423, 424, 425, 518, 519, 520, 493, 494, 495, 496, 415, 416, 417, 418, 419, 420, 421, 422, 521, 522, 523, 799, 800, 801, 802, 803, 804, 805, 806, 807, 808, 809, 810, 811, 812, 813, 814, 815, 816, 817, 818, 819, 820] (by decide +kernel) (by decide +kernel)
set_option maxRecDepth 20000 in
theorem gL_law_X6_due : GoodIn wsL_law (wsV RL 85 RX6 yX6_due wsX6_due) := goodIn_app (goodIn_of _ (by decide +kernel)) ggL_law_X6_due
set_option maxRecDepth 20000 in
theorem ggL_law_X5_missed : GoodIn wsL_law wsX5_missed := goodIn_r _ [527, 23, 80, 311, 22, 312, 313, 224, 528, 529, 530, 347, 240, 241, 242, 485, 385, 386, 387, 225, 388, 362, 363, 364, 48, 138, 2, 139, 389, 390, 391, 392, 393, 394, 395, 396, 397, 365, 366, 367, 49, 398, 368, 369, 370, 50, 399, 400, 401, 402, 403, 404, 405, 790, 791, 792, 793, 794, 795, 796, 797, 798, 831, 832, 833, 834, 835, 836, 837, 838] (by decide +kernel) (by decide +kernel)
set_option maxRecDepth 20000 in
theorem gL_law_X5_missed : GoodIn wsL_law (wsV RL 86 RX5 yX5_missed wsX5_missed) := goodIn_app (goodIn_of _ (by decide +kernel)) ggL_law_X5_missed
set_option maxRecDepth 20000 in
theorem ggL_law_X6_missed : GoodIn wsL_law wsX6_missed := goodIn_r _ [534, 105, 329, 330, 331, 5, 332, 67, 110, 111, 112, 535, 536, 537, 538, 354, 355, 356, 357, 415, 416, 417, 418, 419, 420, 421, 422, 423, 424, 425, 799, 800, 801, 802, 803, 804, 805, 806, 807, 808, 809, 810, 811, 812, 813, 814, 815, 816, 817, 818, 819, 820] (by decide +kernel) (by decide +kernel)
set_option maxRecDepth 20000 in
theorem gL_law_X6_missed : GoodIn wsL_law (wsV RL 89 RX6 yX6_missed wsX6_missed) := goodIn_app (goodIn_of _ (by decide +kernel)) ggL_law_X6_missed
set_option maxRecDepth 20000 in
theorem ggL_law_X5_leaves : GoodIn wsL_law wsX5_leaves := goodIn_r _ [542, 23, 310, 80, 543, 341, 22, 342, 343, 224, 81, 82, 83, 2, 84, 13, 85, 86, 87, 88, 35, 89, 127, 15, 128, 129, 95, 240, 241, 242, 385, 386, 387, 225, 388, 362, 363, 364, 48, 138, 139, 389, 390, 391, 392, 393, 394, 395, 396, 397, 365, 366, 367, 49, 398, 368, 369, 370, 50, 399, 400, 401, 402, 403, 404, 405, 544, 545, 546, 480, 481, 547, 135, 136, 137, 40, 96, 97, 98, 99, 790, 791, 792, 793, 794, 795, 796, 797, 798, 821, 822, 823, 824, 831, 832, 833, 834, 835, 836, 837, 838] (by decide +kernel) (by decide +kernel)
set_option maxRecDepth 20000 in
theorem gL_law_X5_leaves : GoodIn wsL_law (wsV RL 90 RX5 yX5_leaves wsX5_leaves) := goodIn_app (goodIn_of _ (by decide +kernel)) ggL_law_X5_leaves
set_option maxRecDepth 20000 in
theorem ggL_law_X6_leaves : GoodIn wsL_law wsX6_leaves := goodIn_r _ [551, 261, 328, 105, 67, 552, 66, 106, 107, 5, 108, 109, 110, 111, 112, 553, 554, 555, 556, 65, 113, 114, 115, 116, 117, 118, 354, 355, 356, 357, 490, 491, 492, 415, 416, 417, 418, 419, 420, 421, 422, 423, 424, 425, 119, 120, 121, 122, 799, 800, 801, 802, 803, 804, 805, 806, 807, 808, 809, 810, 811, 812, 813, 814, 815, 816, 817, 818, 819, 820] (by decide +kernel) (by decide +kernel)
set_option maxRecDepth 20000 in
theorem gL_law_X6_leaves : GoodIn wsL_law (wsV RL 93 RX6 yX6_leaves wsX6_leaves) := goodIn_app (goodIn_of _ (by decide +kernel)) ggL_law_X6_leaves
