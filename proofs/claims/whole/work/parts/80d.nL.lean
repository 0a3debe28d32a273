set_option maxRecDepth 20000 in
theorem ggL_law_X5_drawn : GoodIn wsL_law wsX5_drawn := goodIn_r _ [729, 730, 22, 15, 119, 731, 732, 733, 734, 735, 670, 120, 121, 2, 122, 397, 398, 399, 123, 124, 125, 126, 31, 513, 514, 515, 516, 32, 400, 401, 402, 21, 403, 67, 68, 69, 70, 404, 71, 405, 72, 73, 406, 407, 408, 409, 74, 75, 410, 411, 81, 77, 79, 80, 78, 412, 413, 414, 14, 415, 37, 416, 259, 260, 46, 261, 63, 417, 418, 419, 420, 48, 421, 422, 60, 423, 424, 425, 426, 427, 428, 429, 430, 431, 432, 433, 434, 160, 161, 162, 435, 436, 437, 438, 439, 59, 61, 440, 441, 442, 443, 444, 445, 446, 447, 448, 449, 450, 451, 736, 737, 738, 739, 29, 30, 740, 741, 742, 823, 824, 825, 826, 827, 828, 829, 830, 831, 832, 833, 834, 835, 858, 859, 860, 861, 862, 863, 864, 865, 866, 867, 868, 869, 870, 871, 872, 873, 874, 875, 876, 877, 878, 879, 880, 881, 882, 883, 884, 885, 891] (by decide +kernel) (by decide +kernel)
set_option maxRecDepth 20000 in
theorem gL_law_X5_drawn : GoodIn wsL_law (wsV RL 112 RX5 yX5_drawn wsX5_drawn) := goodIn_app (goodIn_of _ (by decide +kernel)) ggL_law_X5_drawn
set_option maxRecDepth 20000 in
theorem ggL_law_X6_drawn : GoodIn wsL_law wsX6_drawn := goodIn_r _ [746, 747, 748, 749, 750, 751, 103, 752, 467, 136, 137, 5, 138, 464, 465, 466, 135, 468, 469, 470, 139, 140, 141, 142, 101, 525, 526, 527, 528, 475, 476, 477, 478, 97, 479, 218, 219, 220, 221, 143, 144, 145, 146, 480, 481, 482, 483, 104, 108, 107, 105, 106, 484, 485, 486, 487, 488, 489, 490, 491, 492, 493, 494, 495, 496, 497, 498, 499, 500, 501, 502, 503, 753, 754, 755, 756, 757, 102, 836, 837, 838, 839, 840, 841, 842, 843, 844, 845, 846, 847, 848, 849, 850, 851, 852, 853, 854, 855, 856, 857] (by decide +kernel) (by decide +kernel)
set_option maxRecDepth 20000 in
theorem gL_law_X6_drawn : GoodIn wsL_law (wsV RL 115 RX6 yX6_drawn wsX6_drawn) := goodIn_app (goodIn_of _ (by decide +kernel)) ggL_law_X6_drawn
set_option maxRecDepth 20000 in
theorem ggL_law_X5_part : GoodIn wsL_law wsX5_part := goodIn_r _ [761, 29, 30, 120, 121, 2, 122, 123, 124, 125, 126, 31, 823, 824, 825, 826, 827, 828, 829, 830, 831, 832, 833, 834, 835] (by decide +kernel) (by decide +kernel)
set_option maxRecDepth 20000 in
theorem gL_law_X5_part : GoodIn wsL_law (wsV RL 116 RX5 yX5_part wsX5_part) := goodIn_app (goodIn_of _ (by decide +kernel)) ggL_law_X5_part
set_option maxRecDepth 20000 in
theorem ggL_law_X6_part : GoodIn wsL_law wsX6_part := goodIn_r _ [765, 757, 102, 139, 140, 141, 5, 142, 101, 836, 837, 838, 839, 840, 841, 842, 843, 844, 845, 846, 847, 848, 849, 850, 851, 852, 853, 854, 855, 856, 857] (by decide +kernel) (by decide +kernel)
set_option maxRecDepth 20000 in
theorem gL_law_X6_part : GoodIn wsL_law (wsV RL 120 RX6 yX6_part wsX6_part) := goodIn_app (goodIn_of _ (by decide +kernel)) ggL_law_X6_part
set_option maxRecDepth 20000 in
theorem ggL_law_X5_image : GoodIn wsL_law wsX5_image := goodIn_r _ [769, 16, 15, 27, 17, 28, 120, 121, 2, 122, 123, 124, 125, 126, 31, 338, 339, 340, 14, 341, 37, 38, 39, 40, 41, 42, 43, 47, 48, 49, 50, 51, 52, 53, 342, 343, 344, 46, 345, 63, 346, 259, 260, 261, 823, 824, 825, 826, 827, 828, 829, 830, 831, 832, 833, 834, 835, 858, 859, 860, 861, 862, 863, 864, 865, 866, 867, 868, 869, 870, 871, 891] (by decide +kernel) (by decide +kernel)
set_option maxRecDepth 20000 in
theorem gL_law_X5_image : GoodIn wsL_law (wsV RL 121 RX5 yX5_image wsX5_image) := goodIn_app (goodIn_of _ (by decide +kernel)) ggL_law_X5_image
set_option maxRecDepth 20000 in
theorem ggL_law_X6_image : GoodIn wsL_law wsX6_image := goodIn_r _ [773, 98, 97, 100, 136, 137, 5, 138, 139, 140, 141, 142, 101, 836, 837, 838, 839, 840, 841, 842, 843, 844, 845, 846, 847, 848, 849, 850, 851, 852, 853, 854, 855, 856, 857] (by decide +kernel) (by decide +kernel)
set_option maxRecDepth 20000 in
theorem gL_law_X6_image : GoodIn wsL_law (wsV RL 124 RX6 yX6_image wsX6_image) := goodIn_app (goodIn_of _ (by decide +kernel)) ggL_law_X6_image
set_option maxRecDepth 20000 in
theorem ggL_law_X5_from : GoodIn wsL_law wsX5_from := goodIn_r _ [777, 27, 28, 15, 16, 17, 120, 121, 2, 122, 123, 124, 125, 126, 31, 513, 514, 515, 516, 32, 338, 339, 340, 14, 341, 37, 38, 39, 40, 41, 42, 43, 47, 48, 49, 50, 51, 52, 53, 342, 343, 344, 46, 345, 63, 346, 259, 260, 261, 823, 824, 825, 826, 827, 828, 829, 830, 831, 832, 833, 834, 835, 858, 859, 860, 861, 862, 863, 864, 865, 866, 867, 868, 869, 870, 871, 891] (by decide +kernel) (by decide +kernel)
set_option maxRecDepth 20000 in
theorem gL_law_X5_from : GoodIn wsL_law (wsV RL 125 RX5 yX5_from wsX5_from) := goodIn_app (goodIn_of _ (by decide +kernel)) ggL_law_X5_from
set_option maxRecDepth 20000 in
theorem ggL_law_X6_from : GoodIn wsL_law wsX6_from := goodIn_r _ [781, 100, 97, 98, 136, 137, 5, 138, 139, 140, 141, 142, 101, 525, 526, 527, 528, 836, 837, 838, 839, 840, 841, 842, 843, 844, 845, 846, 847, 848, 849, 850, 851, 852, 853, 854, 855, 856, 857] (by decide +kernel) (by decide +kernel)
set_option maxRecDepth 20000 in
theorem gL_law_X6_from : GoodIn wsL_law (wsV RL 128 RX6 yX6_from wsX6_from) := goodIn_app (goodIn_of _ (by decide +kernel)) ggL_law_X6_from
set_option maxRecDepth 20000 in
theorem ggL_law_X5_status : GoodIn wsL_law wsX5_status := goodIn_r _ [785, 31, 32, 33, 823, 824, 825, 826, 827, 828, 829, 830, 831, 832, 833, 834, 835] (by decide +kernel) (by decide +kernel)
set_option maxRecDepth 20000 in
theorem gL_law_X5_status : GoodIn wsL_law (wsV RL 129 RX5 yX5_status wsX5_status) := goodIn_app (goodIn_of _ (by decide +kernel)) ggL_law_X5_status
set_option maxRecDepth 20000 in
theorem ggL_law_X6_status : GoodIn wsL_law wsX6_status := goodIn_r _ [789, 467, 101, 136, 137, 5, 138, 139, 140, 141, 142, 836, 837, 838, 839, 840, 841, 842, 843, 844, 845, 846, 847, 848, 849, 850, 851, 852, 853, 854, 855, 856, 857] (by decide +kernel) (by decide +kernel)
set_option maxRecDepth 20000 in
theorem gL_law_X6_status : GoodIn wsL_law (wsV RL 132 RX6 yX6_status wsX6_status) := goodIn_app (goodIn_of _ (by decide +kernel)) ggL_law_X6_status
set_option maxRecDepth 20000 in
theorem ggL_law_X5_count : GoodIn wsL_law wsX5_count := goodIn_r _ [793, 120, 121, 2, 122, 123, 124, 125, 126, 31, 794, 795, 796, 797, 15, 119, 180, 393, 395, 691, 512, 26, 226, 823, 824, 825, 826, 827, 828, 829, 830, 831, 832, 833, 834, 835, 858, 859, 860, 861, 862, 863, 864, 865, 866, 867, 868, 869, 870, 871, 886, 887, 888, 889, 890] (by decide +kernel) (by decide +kernel)
set_option maxRecDepth 20000 in
theorem gL_law_X5_count : GoodIn wsL_law (wsV RL 133 RX5 yX5_count wsX5_count) := goodIn_app (goodIn_of _ (by decide +kernel)) ggL_law_X5_count
set_option maxRecDepth 20000 in
theorem ggL_law_X6_count : GoodIn wsL_law wsX6_count := goodIn_r _ [801, 802, 136, 137, 5, 138, 803, 804, 805, 806, 97, 237, 139, 140, 141, 142, 101, 836, 837, 838, 839, 840, 841, 842, 843, 844, 845, 846, 847, 848, 849, 850, 851, 852, 853, 854, 855, 856, 857] (by decide +kernel) (by decide +kernel)
set_option maxRecDepth 20000 in
theorem gL_law_X6_count : GoodIn wsL_law (wsV RL 136 RX6 yX6_count wsX6_count) := goodIn_app (goodIn_of _ (by decide +kernel)) ggL_law_X6_count
set_option maxRecDepth 20000 in
theorem ggL_law_X5_digest : GoodIn wsL_law wsX5_digest := goodIn_r _ [810, 811, 812, 15, 119, 533, 534, 691, 716, 717, 29, 30, 794, 795, 796, 2, 797, 180, 393, 395, 512, 26, 226, 535, 259, 260, 46, 261, 63, 202, 203, 204, 14, 205, 39, 823, 824, 825, 826, 827, 828, 829, 830, 831, 832, 833, 834, 835, 858, 859, 860, 861, 862, 863, 864, 865, 866, 867, 868, 869, 870, 871, 886, 887, 888, 889, 890, 891] (by decide +kernel) (by decide +kernel)
set_option maxRecDepth 20000 in
theorem gL_law_X5_digest : GoodIn wsL_law (wsV RL 137 RX5 yX5_digest wsX5_digest) := goodIn_app (goodIn_of _ (by decide +kernel)) ggL_law_X5_digest
set_option maxRecDepth 20000 in
theorem ggL_law_X6_digest : GoodIn wsL_law wsX6_digest := goodIn_r _ [816, 817, 818, 97, 757, 102, 803, 804, 805, 5, 806, 237, 143, 144, 145, 146, 819, 820, 821, 822, 836, 837, 838, 839, 840, 841, 842, 843, 844, 845, 846, 847, 848, 849, 850, 851, 852, 853, 854, 855, 856, 857] (by decide +kernel) (by decide +kernel)
set_option maxRecDepth 20000 in
theorem gL_law_X6_digest : GoodIn wsL_law (wsV RL 141 RX6 yX6_digest wsX6_digest) := goodIn_app (goodIn_of _ (by decide +kernel)) ggL_law_X6_digest
