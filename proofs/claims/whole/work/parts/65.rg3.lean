set_option maxRecDepth 20000 in
theorem ggL_law_X5_untie : GoodIn wsL_law wsX5_untie := goodIn_r _ [361, 23, 310, 29, 362, 22, 363, 364, 48, 138, 2, 139, 365, 366, 367, 49, 368, 369, 370, 50, 317, 28, 318, 319, 252, 54, 320, 321, 322, 323, 133, 134, 371, 372, 373, 225, 790, 791, 792, 793, 794, 795, 796, 797, 798, 831, 832, 833, 834, 835, 836, 837, 838, 839, 840] (by decide +kernel) (by decide +kernel)
set_option maxRecDepth 20000 in
theorem gL_law_X5_untie : GoodIn wsL_law (wsV RL 54 RX5 yX5_untie wsX5_untie) := goodIn_app (goodIn_of _ (by decide +kernel)) ggL_law_X5_untie
set_option maxRecDepth 20000 in
theorem ggL_law_X6_untie : GoodIn wsL_law wsX6_untie := goodIn_r _ [377, 67, 328, 333, 334, 335, 5, 336, 262, 71, 799, 800, 801, 802, 803, 804, 805, 806, 807, 808, 809, 810, 811, 812, 813, 814, 815, 816, 817, 818, 819, 820] (by decide +kernel) (by decide +kernel)
set_option maxRecDepth 20000 in
theorem gL_law_X6_untie : GoodIn wsL_law (wsV RL 57 RX6 yX6_untie wsX6_untie) := goodIn_app (goodIn_of _ (by decide +kernel)) ggL_law_X6_untie
set_option maxRecDepth 20000 in
theorem ggL_law_X5_meals : GoodIn wsL_law wsX5_meals := goodIn_r _ [381, 23, 310, 80, 175, 29, 341, 22, 342, 343, 224, 382, 383, 384, 226, 347, 240, 241, 242, 385, 386, 387, 225, 388, 362, 363, 364, 48, 138, 2, 139, 389, 390, 391, 392, 393, 394, 395, 396, 397, 365, 366, 367, 49, 398, 368, 369, 370, 50, 399, 400, 401, 402, 403, 404, 405, 317, 28, 318, 319, 252, 54, 320, 321, 322, 323, 133, 134, 790, 791, 792, 793, 794, 795, 796, 797, 798, 831, 832, 833, 834, 835, 836, 837, 838, 839, 840] (by decide +kernel) (by decide +kernel)
set_option maxRecDepth 20000 in
theorem gL_law_X5_meals : GoodIn wsL_law (wsV RL 58 RX5 yX5_meals wsX5_meals) := goodIn_app (goodIn_of _ (by decide +kernel)) ggL_law_X5_meals
set_option maxRecDepth 20000 in
theorem ggL_law_X6_meals : GoodIn wsL_law wsX6_meals := goodIn_r _ [409, 261, 328, 410, 105, 67, 186, 110, 111, 5, 112, 333, 334, 335, 336, 262, 71, 411, 412, 413, 414, 354, 355, 356, 357, 415, 416, 417, 418, 419, 420, 421, 422, 423, 424, 425, 799, 800, 801, 802, 803, 804, 805, 806, 807, 808, 809, 810, 811, 812, 813, 814, 815, 816, 817, 818, 819, 820] (by decide +kernel) (by decide +kernel)
set_option maxRecDepth 20000 in
theorem gL_law_X6_meals : GoodIn wsL_law (wsV RL 61 RX6 yX6_meals wsX6_meals) := goodIn_app (goodIn_of _ (by decide +kernel)) ggL_law_X6_meals
set_option maxRecDepth 20000 in
theorem ggL_law_X5_undo : GoodIn wsL_law wsX5_undo := goodIn_r _ [429, 29, 310, 23, 430, 28, 431, 432, 54, 252, 138, 2, 139, 371, 22, 372, 373, 225, 243, 244, 245, 48, 49, 50, 133, 134, 433, 434, 435, 790, 791, 792, 793, 794, 795, 796, 797, 798, 839, 840, 831, 832, 833, 834, 835, 836, 837, 838] (by decide +kernel) (by decide +kernel)
set_option maxRecDepth 20000 in
theorem gL_law_X5_undo : GoodIn wsL_law (wsV RL 62 RX5 yX5_undo wsX5_undo) := goodIn_app (goodIn_of _ (by decide +kernel)) ggL_law_X5_undo
set_option maxRecDepth 20000 in
theorem ggL_law_X6_undo : GoodIn wsL_law wsX6_undo := goodIn_r _ [439, 262, 328, 67, 71, 799, 800, 801, 802, 803, 804, 805, 806, 807, 808, 809, 810, 811, 812, 813, 814, 815, 816, 817, 818, 819, 820] (by decide +kernel) (by decide +kernel)
set_option maxRecDepth 20000 in
theorem gL_law_X6_undo : GoodIn wsL_law (wsV RL 65 RX6 yX6_undo wsX6_undo) := goodIn_app (goodIn_of _ (by decide +kernel)) ggL_law_X6_undo
set_option maxRecDepth 20000 in
theorem ggL_law_X5_tieHas : GoodIn wsL_law wsX5_tieHas := goodIn_r _ [443, 23, 80, 444, 22, 445, 446, 225, 365, 366, 367, 49, 138, 2, 139, 368, 369, 370, 50, 362, 363, 364, 48, 382, 383, 384, 226, 347, 240, 241, 242, 224, 390, 391, 392, 393, 394, 395, 396, 397, 398, 399, 400, 401, 402, 403, 404, 405, 790, 791, 792, 793, 794, 795, 796, 797, 798, 831, 832, 833, 834, 835, 836, 837, 838] (by decide +kernel) (by decide +kernel)
set_option maxRecDepth 20000 in
theorem gL_law_X5_tieHas : GoodIn wsL_law (wsV RL 66 RX5 yX5_tieHas wsX5_tieHas) := goodIn_app (goodIn_of _ (by decide +kernel)) ggL_law_X5_tieHas
set_option maxRecDepth 20000 in
theorem ggL_law_X6_tieHas : GoodIn wsL_law wsX6_tieHas := goodIn_r _ [450, 104, 105, 67, 451, 452, 453, 5, 454, 110, 111, 112, 411, 412, 413, 414, 354, 355, 356, 357, 419, 420, 421, 422, 423, 424, 425, 799, 800, 801, 802, 803, 804, 805, 806, 807, 808, 809, 810, 811, 812, 813, 814, 815, 816, 817, 818, 819, 820] (by decide +kernel) (by decide +kernel)
set_option maxRecDepth 20000 in
theorem gL_law_X6_tieHas : GoodIn wsL_law (wsV RL 69 RX6 yX6_tieHas wsX6_tieHas) := goodIn_app (goodIn_of _ (by decide +kernel)) ggL_law_X6_tieHas
set_option maxRecDepth 20000 in
theorem ggL_law_X5_tableHas : GoodIn wsL_law wsX5_tableHas := goodIn_r _ [458, 23, 310, 80, 341, 22, 342, 343, 224, 382, 383, 384, 226, 347, 240, 241, 242, 385, 386, 387, 225, 388, 362, 363, 364, 48, 138, 2, 139, 389, 390, 391, 392, 393, 394, 395, 396, 397, 365, 366, 367, 49, 398, 368, 369, 370, 50, 399, 400, 401, 402, 403, 404, 405, 790, 791, 792, 793, 794, 795, 796, 797, 798, 831, 832, 833, 834, 835, 836, 837, 838] (by decide +kernel) (by decide +kernel)
set_option maxRecDepth 20000 in
theorem gL_law_X5_tableHas : GoodIn wsL_law (wsV RL 70 RX5 yX5_tableHas wsX5_tableHas) := goodIn_app (goodIn_of _ (by decide +kernel)) ggL_law_X5_tableHas
set_option maxRecDepth 20000 in
theorem ggL_law_X6_tableHas : GoodIn wsL_law wsX6_tableHas := goodIn_r _ [462, 261, 328, 67, 105, 411, 412, 413, 5, 414, 354, 355, 356, 357, 415, 416, 417, 418, 419, 420, 421, 422, 423, 424, 425, 799, 800, 801, 802, 803, 804, 805, 806, 807, 808, 809, 810, 811, 812, 813, 814, 815, 816, 817, 818, 819, 820] (by decide +kernel) (by decide +kernel)
set_option maxRecDepth 20000 in
theorem gL_law_X6_tableHas : GoodIn wsL_law (wsV RL 73 RX6 yX6_tableHas wsX6_tableHas) := goodIn_app (goodIn_of _ (by decide +kernel)) ggL_law_X6_tableHas
