set_option maxRecDepth 20000 in
theorem ggL_law_X5_init : GoodIn wsL_law wsX5_init := goodIn_r _ [8, 9, 10, 11, 12, 13, 14, 15, 16, 17, 18, 19, 20, 21, 22, 23, 24, 25, 26, 27, 28, 29, 30, 31, 32, 33, 34, 35, 36, 37, 38, 39, 40, 41, 42, 43, 44, 45, 46, 47, 48, 49, 50, 51, 52, 53, 54, 55, 56, 57, 58, 59, 60, 61, 62, 63, 64, 65, 66, 67, 68, 69, 70, 71, 72, 73, 74, 75, 76, 77, 78, 79, 80, 81, 82, 83, 84, 85, 86, 87, 88, 89, 90, 91, 92, 858, 859, 860, 861, 862, 863, 864, 865, 866, 867, 868, 869, 870, 871, 823, 824, 825, 826, 827, 828, 829, 830, 831, 832, 833, 834, 835, 872, 873, 874, 875, 876, 877, 878, 879, 880, 881, 882, 883, 884, 885, 886, 887, 888, 889, 890, 891] (by decide +kernel) (by decide +kernel)
set_option maxRecDepth 20000 in
theorem gL_law_X5_init : GoodIn wsL_law (wsX5_init) := ggL_law_X5_init
set_option maxRecDepth 20000 in
theorem ggL_law_X6_init : GoodIn wsL_law wsX6_init := goodIn_r _ [95, 96, 10, 11, 62, 97, 98, 99, 100, 101, 102, 103, 104, 105, 106, 107, 108, 109, 110, 111, 112, 113, 5, 114, 836, 837, 838, 839, 840, 841, 842, 843, 844, 845, 846, 847, 848, 849, 850, 851, 852, 853, 854, 855, 856, 857] (by decide +kernel) (by decide +kernel)
set_option maxRecDepth 20000 in
theorem gL_law_X6_init : GoodIn wsL_law (wsX6_init) := ggL_law_X6_init
set_option maxRecDepth 20000 in
theorem ggL_law_X5_flight : GoodIn wsL_law wsX5_flight := goodIn_r _ [118, 15, 119, 120, 121, 2, 122, 123, 124, 125, 126, 31, 127, 128, 129, 14, 130, 37, 38, 39, 40, 41, 42, 43, 823, 824, 825, 826, 827, 828, 829, 830, 831, 832, 833, 834, 835, 858, 859, 860, 861, 862, 863, 864, 865, 866, 867, 868, 869, 870, 871] (by decide +kernel) (by decide +kernel)
set_option maxRecDepth 20000 in
theorem gL_law_X5_flight : GoodIn wsL_law (wsV RL 13 RX5 yX5_flight wsX5_flight) := goodIn_app (goodIn_of _ (by decide +kernel)) ggL_law_X5_flight
set_option maxRecDepth 20000 in
theorem ggL_law_X6_flight : GoodIn wsL_law wsX6_flight := goodIn_r _ [134, 135, 97, 136, 137, 5, 138, 139, 140, 141, 142, 101, 143, 144, 145, 146, 112, 113, 114, 836, 837, 838, 839, 840, 841, 842, 843, 844, 845, 846, 847, 848, 849, 850, 851, 852, 853, 854, 855, 856, 857] (by decide +kernel) (by decide +kernel)
set_option maxRecDepth 20000 in
theorem gL_law_X6_flight : GoodIn wsL_law (wsV RL 17 RX6 yX6_flight wsX6_flight) := goodIn_app (goodIn_of _ (by decide +kernel)) ggL_law_X6_flight
set_option maxRecDepth 20000 in
theorem ggL_law_X5_lock : GoodIn wsL_law wsX5_lock := goodIn_r _ [150, 15, 119, 120, 121, 2, 122, 123, 124, 125, 126, 31, 151, 152, 153, 154, 33, 155, 156, 157, 14, 158, 47, 37, 48, 39, 43, 159, 160, 161, 46, 162, 63, 823, 824, 825, 826, 827, 828, 829, 830, 831, 832, 833, 834, 835, 858, 859, 860, 861, 862, 863, 864, 865, 866, 867, 868, 869, 870, 871, 891] (by decide +kernel) (by decide +kernel)
set_option maxRecDepth 20000 in
theorem gL_law_X5_lock : GoodIn wsL_law (wsV RL 18 RX5 yX5_lock wsX5_lock) := goodIn_app (goodIn_of _ (by decide +kernel)) ggL_law_X5_lock
set_option maxRecDepth 20000 in
theorem ggL_law_X6_lock : GoodIn wsL_law wsX6_lock := goodIn_r _ [166, 167, 168, 97, 136, 137, 5, 138, 139, 140, 141, 142, 101, 143, 144, 145, 146, 169, 170, 171, 172, 173, 174, 175, 836, 837, 838, 839, 840, 841, 842, 843, 844, 845, 846, 847, 848, 849, 850, 851, 852, 853, 854, 855, 856, 857] (by decide +kernel) (by decide +kernel)
set_option maxRecDepth 20000 in
theorem gL_law_X6_lock : GoodIn wsL_law (wsV RL 22 RX6 yX6_lock wsX6_lock) := goodIn_app (goodIn_of _ (by decide +kernel)) ggL_law_X6_lock
set_option maxRecDepth 20000 in
theorem ggL_law_X5_strength : GoodIn wsL_law wsX5_strength := goodIn_r _ [179, 15, 180, 120, 121, 2, 122, 123, 124, 125, 126, 31, 823, 824, 825, 826, 827, 828, 829, 830, 831, 832, 833, 834, 835, 858, 859, 860, 861, 862, 863, 864, 865, 866, 867, 868, 869, 870, 871] (by decide +kernel) (by decide +kernel)
set_option maxRecDepth 20000 in
theorem gL_law_X5_strength : GoodIn wsL_law (wsV RL 23 RX5 yX5_strength wsX5_strength) := goodIn_app (goodIn_of _ (by decide +kernel)) ggL_law_X5_strength
set_option maxRecDepth 20000 in
theorem ggL_law_X6_strength : GoodIn wsL_law wsX6_strength := goodIn_r _ [184, 135, 97, 136, 137, 5, 138, 139, 140, 141, 142, 101, 836, 837, 838, 839, 840, 841, 842, 843, 844, 845, 846, 847, 848, 849, 850, 851, 852, 853, 854, 855, 856, 857] (by decide +kernel) (by decide +kernel)
set_option maxRecDepth 20000 in
theorem gL_law_X6_strength : GoodIn wsL_law (wsV RL 26 RX6 yX6_strength wsX6_strength) := goodIn_app (goodIn_of _ (by decide +kernel)) ggL_law_X6_strength
set_option maxRecDepth 20000 in
theorem ggL_law_X5_turn : GoodIn wsL_law wsX5_turn := goodIn_r _ [188, 15, 189, 190, 191, 192, 14, 193, 37, 121, 2, 122, 123, 124, 125, 126, 31, 194, 195, 196, 197, 43, 51, 52, 53, 39, 40, 41, 198, 199, 200, 46, 201, 63, 159, 160, 161, 162, 202, 203, 204, 205, 823, 824, 825, 826, 827, 828, 829, 830, 831, 832, 833, 834, 835, 858, 859, 860, 861, 862, 863, 864, 865, 866, 867, 868, 869, 870, 871, 891] (by decide +kernel) (by decide +kernel)
set_option maxRecDepth 20000 in
theorem gL_law_X5_turn : GoodIn wsL_law (wsV RL 27 RX5 yX5_turn wsX5_turn) := goodIn_app (goodIn_of _ (by decide +kernel)) ggL_law_X5_turn
set_option maxRecDepth 20000 in
theorem ggL_law_X6_turn : GoodIn wsL_law wsX6_turn := goodIn_r _ [209, 97, 210, 211, 212, 5, 213, 143, 144, 145, 146, 136, 137, 138, 139, 140, 141, 142, 101, 214, 215, 216, 217, 218, 219, 220, 221, 836, 837, 838, 839, 840, 841, 842, 843, 844, 845, 846, 847, 848, 849, 850, 851, 852, 853, 854, 855, 856, 857] (by decide +kernel) (by decide +kernel)
set_option maxRecDepth 20000 in
theorem gL_law_X6_turn : GoodIn wsL_law (wsV RL 30 RX6 yX6_turn wsX6_turn) := goodIn_app (goodIn_of _ (by decide +kernel)) ggL_law_X6_turn
set_option maxRecDepth 20000 in
theorem ggL_law_X5_type : GoodIn wsL_law wsX5_type := goodIn_r _ [225, 26, 226, 120, 121, 2, 122, 123, 124, 125, 126, 31, 151, 152, 153, 154, 33, 227, 228, 229, 25, 230, 88, 86, 231, 160, 161, 46, 162, 63, 823, 824, 825, 826, 827, 828, 829, 830, 831, 832, 833, 834, 835, 886, 887, 888, 889, 890, 891] (by decide +kernel) (by decide +kernel)
set_option maxRecDepth 20000 in
theorem gL_law_X5_type : GoodIn wsL_law (wsV RL 31 RX5 yX5_type wsX5_type) := goodIn_app (goodIn_of _ (by decide +kernel)) ggL_law_X5_type
set_option maxRecDepth 20000 in
theorem ggL_law_X6_type : GoodIn wsL_law wsX6_type := goodIn_r _ [235, 236, 237, 109, 136, 137, 5, 138, 139, 140, 141, 142, 101, 169, 170, 171, 172, 836, 837, 838, 839, 840, 841, 842, 843, 844, 845, 846, 847, 848, 849, 850, 851, 852, 853, 854, 855, 856, 857] (by decide +kernel) (by decide +kernel)
set_option maxRecDepth 20000 in
theorem gL_law_X6_type : GoodIn wsL_law (wsV RL 34 RX6 yX6_type wsX6_type) := goodIn_app (goodIn_of _ (by decide +kernel)) ggL_law_X6_type
set_option maxRecDepth 20000 in
theorem ggL_law_X5_clear : GoodIn wsL_law wsX5_clear := goodIn_r _ [241, 26, 226, 823, 824, 825, 826, 827, 828, 829, 830, 831, 832, 833, 834, 835, 886, 887, 888, 889, 890] (by decide +kernel) (by decide +kernel)
set_option maxRecDepth 20000 in
theorem gL_law_X5_clear : GoodIn wsL_law (wsV RL 35 RX5 yX5_clear wsX5_clear) := goodIn_app (goodIn_of _ (by decide +kernel)) ggL_law_X5_clear
set_option maxRecDepth 20000 in
theorem ggL_law_X6_clear : GoodIn wsL_law wsX6_clear := goodIn_r _ [245, 237, 836, 837, 838, 839, 840, 841, 842, 843, 844, 845, 846, 847, 848, 849, 850, 851, 852, 853, 854, 855, 856, 857] (by decide +kernel) (by decide +kernel)
set_option maxRecDepth 20000 in
theorem gL_law_X6_clear : GoodIn wsL_law (wsV RL 39 RX6 yX6_clear wsX6_clear) := goodIn_app (goodIn_of _ (by decide +kernel)) ggL_law_X6_clear
set_option maxRecDepth 20000 in
theorem ggL_law_X5_read : GoodIn wsL_law wsX5_read := goodIn_r _ [249, 26, 18, 15, 119, 250, 251, 252, 25, 253, 86, 254, 255, 256, 257, 88, 258, 259, 260, 46, 261, 63, 262, 263, 264, 265, 266, 267, 268, 269, 121, 2, 122, 270, 271, 272, 273, 274, 275, 276, 277, 278, 89, 90, 91, 279, 280, 281, 282, 283, 284, 285, 286, 287, 288, 289, 290, 291, 292, 293, 294, 295, 296, 297, 298, 299, 300, 301, 302, 303, 304, 305, 306, 307, 308, 309, 310, 311, 312, 313, 314, 315, 316, 317, 318, 319, 320, 321, 322, 323, 324, 325, 326, 327, 328, 329, 330, 331, 332, 333, 334, 335, 336, 128, 129, 14, 130, 37, 38, 39, 40, 41, 42, 43, 337, 156, 157, 158, 47, 48, 159, 160, 161, 162, 338, 339, 340, 341, 49, 50, 51, 52, 53, 342, 343, 344, 345, 346, 823, 824, 825, 826, 827, 828, 829, 830, 831, 832, 833, 834, 835, 858, 859, 860, 861, 862, 863, 864, 865, 866, 867, 868, 869, 870, 871, 886, 887, 888, 889, 890, 891] (by decide +kernel) (by decide +kernel)
set_option maxRecDepth 20000 in
theorem gL_law_X5_read : GoodIn wsL_law (wsV RL 40 RX5 yX5_read wsX5_read) := goodIn_app (goodIn_of _ (by decide +kernel)) ggL_law_X5_read
set_option maxRecDepth 20000 in
theorem ggL_law_X6_read : GoodIn wsL_law wsX6_read := goodIn_r _ [350, 351, 352, 97, 110, 353, 354, 355, 5, 356, 237, 109, 357, 358, 359, 360, 361, 362, 363, 136, 137, 138, 364, 365, 366, 367, 368, 369, 370, 371, 372, 111, 373, 374, 375, 376, 377, 378, 379, 380, 381, 382, 383, 384, 112, 113, 114, 385, 386, 387, 388, 173, 174, 175, 836, 837, 838, 839, 840, 841, 842, 843, 844, 845, 846, 847, 848, 849, 850, 851, 852, 853, 854, 855, 856, 857] (by decide +kernel) (by decide +kernel)
set_option maxRecDepth 20000 in
theorem gL_law_X6_read : GoodIn wsL_law (wsV RL 43 RX6 yX6_read wsX6_read) := goodIn_app (goodIn_of _ (by decide +kernel)) ggL_law_X6_read
