set_option maxRecDepth 20000 in
theorem ggL_law_X5_which : GoodIn wsL_law wsX5_which := goodIn_r _ [612, 23, 80, 81, 82, 83, 2, 84, 13, 444, 22, 445, 446, 225, 85, 86, 87, 88, 35, 89, 127, 15, 128, 129, 95, 135, 136, 137, 40, 138, 139, 344, 345, 346, 347, 240, 241, 242, 224, 613, 614, 615, 616, 617, 618, 619, 485, 385, 386, 387, 388, 362, 363, 364, 48, 389, 390, 391, 392, 393, 394, 395, 396, 397, 365, 366, 367, 49, 398, 368, 369, 370, 50, 399, 400, 401, 402, 403, 404, 405, 96, 97, 98, 99, 790, 791, 792, 793, 794, 795, 796, 797, 798, 821, 822, 823, 824, 831, 832, 833, 834, 835, 836, 837, 838] (by decide +kernel) (by decide +kernel)
set_option maxRecDepth 20000 in
theorem gL_law_X5_which : GoodIn wsL_law (wsV RL 114 RX5 yX5_which wsX5_which) := goodIn_app (goodIn_of _ (by decide +kernel)) ggL_law_X5_which
set_option maxRecDepth 20000 in
theorem ggL_law_X6_which : GoodIn wsL_law wsX6_which := goodIn_r _ [623, 624, 105, 66, 67, 451, 452, 453, 5, 454, 110, 111, 112, 106, 107, 108, 109, 553, 554, 555, 556, 65, 113, 114, 115, 116, 117, 118, 471, 472, 473, 474, 354, 355, 356, 357, 415, 416, 417, 418, 419, 420, 421, 422, 423, 424, 425, 119, 120, 121, 122, 799, 800, 801, 802, 803, 804, 805, 806, 807, 808, 809, 810, 811, 812, 813, 814, 815, 816, 817, 818, 819, 820] (by decide +kernel) (by decide +kernel)
set_option maxRecDepth 20000 in
theorem gL_law_X6_which : GoodIn wsL_law (wsV RL 118 RX6 yX6_which wsX6_which) := goodIn_app (goodIn_of _ (by decide +kernel)) ggL_law_X6_which
set_option maxRecDepth 20000 in
theorem ggL_law_X5_colds : GoodIn wsL_law wsX5_colds := goodIn_r _ [628, 23, 310, 80, 341, 22, 342, 343, 224, 573, 574, 2, 575, 314, 315, 316, 382, 383, 384, 226, 347, 240, 241, 242, 501, 400, 401, 402, 403, 404, 405, 385, 386, 387, 225, 388, 362, 363, 364, 48, 138, 139, 389, 390, 391, 392, 393, 394, 395, 396, 397, 365, 366, 367, 49, 398, 368, 369, 370, 50, 399, 629, 630, 631, 505, 506, 507, 508, 509, 510, 511, 512, 513, 790, 791, 792, 793, 794, 795, 796, 797, 798, 831, 832, 833, 834, 835, 836, 837, 838] (by decide +kernel) (by decide +kernel)
set_option maxRecDepth 20000 in
theorem gL_law_X5_colds : GoodIn wsL_law (wsV RL 119 RX5 yX5_colds wsX5_colds) := goodIn_app (goodIn_of _ (by decide +kernel)) ggL_law_X5_colds
set_option maxRecDepth 20000 in
theorem ggL_law_X6_colds : GoodIn wsL_law wsX6_colds := goodIn_r _ [635, 261, 328, 624, 105, 67, 580, 581, 5, 582, 583, 584, 110, 111, 112, 411, 412, 413, 414, 354, 355, 356, 357, 423, 424, 425, 490, 491, 492, 415, 416, 417, 418, 419, 420, 421, 422, 521, 522, 523, 799, 800, 801, 802, 803, 804, 805, 806, 807, 808, 809, 810, 811, 812, 813, 814, 815, 816, 817, 818, 819, 820] (by decide +kernel) (by decide +kernel)
set_option maxRecDepth 20000 in
theorem gL_law_X6_colds : GoodIn wsL_law (wsV RL 122 RX6 yX6_colds wsX6_colds) := goodIn_app (goodIn_of _ (by decide +kernel)) ggL_law_X6_colds
set_option maxRecDepth 20000 in
theorem ggL_law_X5_image : GoodIn wsL_law wsX5_image := goodIn_r _ [639, 80, 23, 310, 640, 641, 642, 2, 643, 25, 341, 22, 342, 343, 224, 246, 247, 248, 48, 49, 50, 225, 226, 227, 228, 138, 139, 133, 134, 790, 791, 792, 793, 794, 795, 796, 797, 798, 831, 832, 833, 834, 835, 836, 837, 838] (by decide +kernel) (by decide +kernel)
set_option maxRecDepth 20000 in
theorem gL_law_X5_image : GoodIn wsL_law (wsV RL 123 RX5 yX5_image wsX5_image) := goodIn_app (goodIn_of _ (by decide +kernel)) ggL_law_X5_image
set_option maxRecDepth 20000 in
theorem ggL_law_X6_image : GoodIn wsL_law wsX6_image := goodIn_r _ [647, 105, 261, 328, 74, 67, 73, 110, 111, 5, 112, 799, 800, 801, 802, 803, 804, 805, 806, 807, 808, 809, 810, 811, 812, 813, 814, 815, 816, 817, 818, 819, 820] (by decide +kernel) (by decide +kernel)
set_option maxRecDepth 20000 in
theorem gL_law_X6_image : GoodIn wsL_law (wsV RL 126 RX6 yX6_image wsX6_image) := goodIn_app (goodIn_of _ (by decide +kernel)) ggL_law_X6_image
set_option maxRecDepth 20000 in
theorem ggL_law_X5_restore : GoodIn wsL_law wsX5_restore := goodIn_r _ [651, 80, 310, 23, 29, 640, 641, 642, 2, 643, 25, 341, 22, 342, 343, 224, 246, 247, 248, 48, 49, 50, 225, 226, 227, 228, 138, 139, 133, 134, 249, 28, 250, 251, 252, 790, 791, 792, 793, 794, 795, 796, 797, 798, 831, 832, 833, 834, 835, 836, 837, 838, 839, 840] (by decide +kernel) (by decide +kernel)
set_option maxRecDepth 20000 in
theorem gL_law_X5_restore : GoodIn wsL_law (wsV RL 127 RX5 yX5_restore wsX5_restore) := goodIn_app (goodIn_of _ (by decide +kernel)) ggL_law_X5_restore
set_option maxRecDepth 20000 in
theorem ggL_law_X6_restore : GoodIn wsL_law wsX6_restore := goodIn_r _ [655, 105, 73, 328, 67, 74, 262, 110, 111, 5, 112, 799, 800, 801, 802, 803, 804, 805, 806, 807, 808, 809, 810, 811, 812, 813, 814, 815, 816, 817, 818, 819, 820] (by decide +kernel) (by decide +kernel)
set_option maxRecDepth 20000 in
theorem gL_law_X6_restore : GoodIn wsL_law (wsV RL 130 RX6 yX6_restore wsX6_restore) := goodIn_app (goodIn_of _ (by decide +kernel)) ggL_law_X6_restore
set_option maxRecDepth 20000 in
theorem ggL_law_X5_kind : GoodIn wsL_law wsX5_kind := goodIn_r _ [659, 23, 80, 444, 22, 445, 446, 225, 362, 363, 364, 48, 138, 2, 139, 790, 791, 792, 793, 794, 795, 796, 797, 798, 831, 832, 833, 834, 835, 836, 837, 838] (by decide +kernel) (by decide +kernel)
set_option maxRecDepth 20000 in
theorem gL_law_X5_kind : GoodIn wsL_law (wsV RL 131 RX5 yX5_kind wsX5_kind) := goodIn_app (goodIn_of _ (by decide +kernel)) ggL_law_X5_kind
set_option maxRecDepth 20000 in
theorem ggL_law_X6_kind : GoodIn wsL_law wsX6_kind := goodIn_r _ [663, 67, 105, 451, 452, 453, 5, 454, 110, 111, 112, 799, 800, 801, 802, 803, 804, 805, 806, 807, 808, 809, 810, 811, 812, 813, 814, 815, 816, 817, 818, 819, 820] (by decide +kernel) (by decide +kernel)
set_option maxRecDepth 20000 in
theorem gL_law_X6_kind : GoodIn wsL_law (wsV RL 134 RX6 yX6_kind wsX6_kind) := goodIn_app (goodIn_of _ (by decide +kernel)) ggL_law_X6_kind
