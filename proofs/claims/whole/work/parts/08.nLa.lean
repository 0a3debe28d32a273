set_option maxRecDepth 20000 in
theorem ggL_law_X5_init : GoodIn wsL_law wsX5_init := goodIn_r _ [8, 9, 10, 11, 12, 13, 14, 15, 16, 17, 18, 19, 20, 21, 22, 23, 24, 25, 26, 27, 28, 29, 30, 31, 32, 33, 34, 35, 36, 37, 38, 39, 40, 41, 42, 43, 44, 45, 46, 47, 48, 49, 50, 51, 52, 53, 54, 55, 56, 57, 58, 59, 60, 61, 62, 63, 64, 65, 66, 67, 68, 69, 70, 71, 72, 73, 74, 75, 76, 77, 78, 79, 80, 81, 82, 83, 84, 85, 86, 87, 88, 89, 90, 91, 92, 858, 859, 860, 861, 862, 863, 864, 865, 866, 867, 868, 869, 870, 871, 823, 824, 825, 826, 827, 828, 829, 830, 831, 832, 833, 834, 835, 872, 873, 874, 875, 876, 877, 878, 879, 880, 881, 882, 883, 884, 885, 886, 887, 888, 889, 890, 891] (by decide +kernel) (by decide +kernel)
set_option maxRecDepth 20000 in
theorem gL_law_X5_init : GoodIn wsL_law (wsX5_init) := ggL_law_X5_init
set_option maxRecDepth 20000 in
theorem ggL_law_X6_init : GoodIn wsL_law wsX6_init := goodIn_r _ [95, 96, 10, 11, 62, 97, 98, 99, 100, 101, 102, 103, 104, 105, 106, 107, 108, 109, 110, 111, 112, 113, 5, 114, 836, 837, 838, 839, 840, 841, 842, 843, 844, 845, 846, 847, 848, 849, 850, 851, 852, 853, 854, 855, 856, 857] (by decide +kernel) (by decide +kernel)
set_option maxRecDepth 20000 in
theorem gL_law_X6_init : GoodIn wsL_law (wsX6_init) := ggL_law_X6_init
set_option maxRecDepth 20000 in
theorem ggL_law_X5_flight : GoodIn wsL_law wsX5_flight := goodIn_r _ [118, 15, 119, 120, 121, 2, 122, 123, 124, 125, 126, 31, 127, 128, 129, 14, 130, 37, 38, 39, 40, 41, 42, 43, 823, 824, 825, 826, 827, 828, 829, 830, 831, 832, 833, 834, 835, 858, 859, 860, 861, 862, 863, 864, 865, 866, 867, 868, 869, 870, 871] (by decide +kernel) (by decide +kernel)
set_option maxRecDepth 20000 in
theorem gL_law_X5_flight : GoodIn wsL_law (wsV RL 13 RX5 yX5_flight wsX5_flight) := goodIn_app (goodIn_of _ (by decide +kernel)) ggL_law_X5_flight
set_option maxRecDepth 20000 in
theorem ggL_law_X6_flight : GoodIn wsL_law wsX6_flight := goodIn_r _ [134, 135, 97, 136, 137, 5, 138, 139, 140, 141, 142, 101, 143, 144, 145, 146, 112, 113, 114, 836, 837, 838, 839, 840, 841, 842, 843, 844, 845, 846, 847, 848, 849, 850, 851, 852, 853, 854, 855, 856, 857] (by decide +kernel) (by decide +kernel)
set_option maxRecDepth 20000 in
theorem gL_law_X6_flight : GoodIn wsL_law (wsV RL 17 RX6 yX6_flight wsX6_flight) := goodIn_app (goodIn_of _ (by decide +kernel)) ggL_law_X6_flight
set_option maxRecDepth 20000 in
theorem ggL_law_X5_lock : GoodIn wsL_law wsX5_lock := goodIn_r _ [150, 15, 119, 120, 121, 2, 122, 123, 124, 125, 126, 31, 151, 152, 153, 154, 33, 155, 156, 157, 14, 158, 47, 37, 48, 39, 43, 159, 160, 161, 46, 162, 63, 823, 824, 825, 826, 827, 828, 829, 830, 831, 832, 833, 834, 835, 858, 859, 860, 861, 862, 863, 864, 865, 866, 867, 868, 869, 870, 871, 891] (by decide +kernel) (by decide +kernel)
set_option maxRecDepth 20000 in
theorem gL_law_X5_lock : GoodIn wsL_law (wsV RL 18 RX5 yX5_lock wsX5_lock) := goodIn_app (goodIn_of _ (by decide +kernel)) ggL_law_X5_lock
set_option maxRecDepth 20000 in
theorem ggL_law_X6_lock : GoodIn wsL_law wsX6_lock := goodIn_r _ [166, 167, 168, 97, 136, 137, 5, 138, 139, 140, 141, 142, 101, 143, 144, 145, 146, 169, 170, 171, 172, 173, 174, 175, 836, 837, 838, 839, 840, 841, 842, 843, 844, 845, 846, 847, 848, 849, 850, 851, 852, 853, 854, 855, 856, 857] (by decide +kernel) (by decide +kernel)
set_option maxRecDepth 20000 in
theorem gL_law_X6_lock : GoodIn wsL_law (wsV RL 22 RX6 yX6_lock wsX6_lock) := goodIn_app (goodIn_of _ (by decide +kernel)) ggL_law_X6_lock
set_option maxRecDepth 20000 in
theorem ggL_law_X5_strength : GoodIn wsL_law wsX5_strength := goodIn_r _ [179, 15, 180, 120, 121, 2, 122, 123, 124, 125, 126, 31, 823, 824, 825, 826, 827, 828, 829, 830, 831, 832, 833, 834, 835, 858, 859, 860, 861, 862, 863, 864, 865, 866, 867, 868, 869, 870, 871] (by decide +kernel) (by decide +kernel)
set_option maxRecDepth 20000 in
theorem gL_law_X5_strength : GoodIn wsL_law (wsV RL 23 RX5 yX5_strength wsX5_strength) := goodIn_app (goodIn_of _ (by decide +kernel)) ggL_law_X5_strength
set_option maxRecDepth 20000 in
theorem ggL_law_X6_strength : GoodIn wsL_law wsX6_strength := goodIn_r _ [184, 135, 97, 136, 137, 5, 138, 139, 140, 141, 142, 101, 836, 837, 838, 839, 840, 841, 842, 843, 844, 845, 846, 847, 848, 849, 850, 851, 852, 853, 854, 855, 856, 857] (by decide +kernel) (by decide +kernel)
set_option maxRecDepth 20000 in
theorem gL_law_X6_strength : GoodIn wsL_law (wsV RL 26 RX6 yX6_strength wsX6_strength) := goodIn_app (goodIn_of _ (by decide +kernel)) ggL_law_X6_strength
set_option maxRecDepth 20000 in
theorem ggL_law_X5_turn : GoodIn wsL_law wsX5_turn := goodIn_r _ [188, 15, 189, 190, 191, 192, 14, 193, 37, 121, 2, 122, 123, 124, 125, 126, 31, 194, 195, 196, 197, 43, 51, 52, 53, 39, 40, 41, 198, 199, 200, 46, 201, 63, 159, 160, 161, 162, 202, 203, 204, 205, 823, 824, 825, 826, 827, 828, 829, 830, 831, 832, 833, 834, 835, 858, 859, 860, 861, 862, 863, 864, 865, 866, 867, 868, 869, 870, 871, 891] (by decide +kernel) (by decide +kernel)
set_option maxRecDepth 20000 in
theorem gL_law_X5_turn : GoodIn wsL_law (wsV RL 27 RX5 yX5_turn wsX5_turn) := goodIn_app (goodIn_of _ (by decide +kernel)) ggL_law_X5_turn
set_option maxRecDepth 20000 in
theorem ggL_law_X6_turn : GoodIn wsL_law wsX6_turn := goodIn_r _ [209, 97, 210, 211, 212, 5, 213, 143, 144, 145, 146, 136, 137, 138, 139, 140, 141, 142, 101, 214, 215, 216, 217, 218, 219, 220, 221, 836, 837, 838, 839, 840, 841, 842, 843, 844, 845, 846, 847, 848, 849, 850, 851, 852, 853, 854, 855, 856, 857] (by decide +kernel) (by decide +kernel)
set_option maxRecDepth 20000 in
theorem gL_law_X6_turn : GoodIn wsL_law (wsV RL 30 RX6 yX6_turn wsX6_turn) := goodIn_app (goodIn_of _ (by decide +kernel)) ggL_law_X6_turn
set_option maxRecDepth 20000 in
theorem ggL_law_X5_type : GoodIn wsL_law wsX5_type := goodIn_r _ [225, 26, 226, 120, 121, 2, 122, 123, 124, 125, 126, 31, 151, 152, 153, 154, 33, 227, 228, 229, 25, 230, 88, 86, 231, 160, 161, 46, 162, 63, 823, 824, 825, 826, 827, 828, 829, 830, 831, 832, 833, 834, 835, 886, 887, 888, 889, 890, 891] (by decide +kernel) (by decide +kernel)
set_option maxRecDepth 20000 in
theorem gL_law_X5_type : GoodIn wsL_law (wsV RL 31 RX5 yX5_type wsX5_type) := goodIn_app (goodIn_of _ (by decide +kernel)) ggL_law_X5_type
set_option maxRecDepth 20000 in
theorem ggL_law_X6_type : GoodIn wsL_law wsX6_type := goodIn_r _ [235, 236, 237, 109, 136, 137, 5, 138, 139, 140, 141, 142, 101, 169, 170, 171, 172, 836, 837, 838, 839, 840, 841, 842, 843, 844, 845, 846, 847, 848, 849, 850, 851, 852, 853, 854, 855, 856, 857] (by decide +kernel) (by decide +kernel)
set_option maxRecDepth 20000 in
theorem gL_law_X6_type : GoodIn wsL_law (wsV RL 34 RX6 yX6_type wsX6_type) := goodIn_app (goodIn_of _ (by decide +kernel)) ggL_law_X6_type
set_option maxRecDepth 20000 in
theorem ggL_law_X5_clear : GoodIn wsL_law wsX5_clear := goodIn_r _ [241, 26, 226, 823, 824, 825, 826, 827, 828, 829, 830, 831, 832, 833, 834, 835, 886, 887, 888, 889, 890] (by decide +kernel) (by decide +kernel)
set_option maxRecDepth 20000 in
theorem gL_law_X5_clear : GoodIn wsL_law (wsV RL 35 RX5 yX5_clear wsX5_clear) := goodIn_app (goodIn_of _ (by decide +kernel)) ggL_law_X5_clear
set_option maxRecDepth 20000 in
theorem ggL_law_X6_clear : GoodIn wsL_law wsX6_clear := goodIn_r _ [245, 237, 836, 837, 838, 839, 840, 841, 842, 843, 844, 845, 846, 847, 848, 849, 850, 851, 852, 853, 854, 855, 856, 857] (by decide +kernel) (by decide +kernel)
set_option maxRecDepth 20000 in
theorem gL_law_X6_clear : GoodIn wsL_law (wsV RL 39 RX6 yX6_clear wsX6_clear) := goodIn_app (goodIn_of _ (by decide +kernel)) ggL_law_X6_clear
set_option maxRecDepth 20000 in
theorem ggL_law_X5_read : GoodIn wsL_law wsX5_read := goodIn_r _ [249, 26, 18, 15, 119, 250, 251, 252, 25, 253, 86, 254, 255, 256, 257, 88, 258, 259, 260, 46, 261, 63, 262, 263, 264, 265, 266, 267, 268, 269, 121, 2, 122, 270, 271, 272, 273, 274, 275, 276, 277, 278, 89, 90, 91, 279, 280, 281, 282, 283, 284, 285, 286, 287, 288, 289, 290, 291, 292, 293, 294, 295, 296, 297, 298, 299, 300, 301, 302, 303, 304, 305, 306, 307, 308, 309, 310, 311, 312, 313, 314, 315, 316, 317, 318, 319, 320, 321, 322, 323, 324, 325, 326, 327, 328, 329, 330, 331, 332, 333, 334, 335, 336, 128, 129, 14, 130, 37, 38, 39, 40, 41, 42, 43, 337, 156, 157, 158, 47, 48, 159, 160, 161, 162, 338, 339, 340, 341, 49, 50, 51, 52, 53, 342, 343, 344, 345, 346, 823, 824, 825, 826, 827, 828, 829, 830, 831, 832, 833, 834, 835, 858, 859, 860, 861, 862, 863, 864, 865, 866, 867, 868, 869, 870, 871, 886, 887, 888, 889, 890, 891] (by decide +kernel) (by decide +kernel)
set_option maxRecDepth 20000 in
theorem gL_law_X5_read : GoodIn wsL_law (wsV RL 40 RX5 yX5_read wsX5_read) := goodIn_app (goodIn_of _ (by decide +kernel)) ggL_law_X5_read
set_option maxRecDepth 20000 in
theorem ggL_law_X6_read : GoodIn wsL_law wsX6_read := goodIn_r _ [350, 351, 352, 97, 110, 353, 354, 355, 5, 356, 237, 109, 357, 358, 359, 360, 361, 362, 363, 136, 137, 138, 364, 365, 366, 367, 368, 369, 370, 371, 372, 111, 373, 374, 375, 376, 377, 378, 379, 380, 381, 382, 383, 384, 112, 113, 114, 385, 386, 387, 388, 173, 174, 175, 836, 837, 838, 839, 840, 841, 842, 843, 844, 845, 846, 847, 848, 849, 850, 851, 852, 853, 854, 855, 856, 857] (by decide +kernel) (by decide +kernel)
set_option maxRecDepth 20000 in
theorem gL_law_X6_read : GoodIn wsL_law (wsV RL 43 RX6 yX6_read wsX6_read) := goodIn_app (goodIn_of _ (by decide +kernel)) ggL_law_X6_read
set_option maxRecDepth 20000 in
theorem ggL_law_X5_run : GoodIn wsL_law wsX5_run := goodIn_r _ [392, 22, 15, 189, 393, 394, 395, 396, 397, 398, 2, 399, 120, 121, 122, 123, 124, 125, 126, 31, 400, 401, 402, 21, 403, 67, 68, 69, 70, 404, 71, 405, 72, 73, 406, 407, 408, 409, 74, 75, 410, 411, 81, 77, 79, 80, 78, 412, 413, 414, 14, 415, 37, 416, 259, 260, 46, 261, 63, 417, 418, 419, 420, 48, 421, 422, 60, 423, 424, 425, 426, 427, 428, 429, 430, 431, 432, 433, 434, 160, 161, 162, 435, 436, 437, 438, 439, 59, 61, 440, 441, 442, 443, 444, 445, 446, 447, 448, 449, 450, 451, 194, 195, 196, 197, 43, 51, 52, 53, 39, 40, 41, 198, 199, 200, 201, 159, 452, 453, 454, 455, 456, 457, 458, 459, 823, 824, 825, 826, 827, 828, 829, 830, 831, 832, 833, 834, 835, 858, 859, 860, 861, 862, 863, 864, 865, 866, 867, 868, 869, 870, 871, 872, 873, 874, 875, 876, 877, 878, 879, 880, 881, 882, 883, 884, 885, 891] (by decide +kernel) (by decide +kernel)
set_option maxRecDepth 20000 in
theorem gL_law_X5_run : GoodIn wsL_law (wsV RL 44 RX5 yX5_run wsX5_run) := goodIn_app (goodIn_of _ (by decide +kernel)) ggL_law_X5_run
set_option maxRecDepth 20000 in
theorem ggL_law_X6_run : GoodIn wsL_law wsX6_run := goodIn_r _ [463, 97, 464, 465, 5, 466, 467, 135, 468, 469, 470, 136, 137, 138, 139, 140, 141, 142, 101, 471, 472, 473, 474, 475, 476, 477, 478, 479, 103, 218, 219, 220, 221, 480, 481, 482, 483, 104, 108, 107, 105, 106, 143, 144, 145, 146, 484, 485, 486, 487, 488, 489, 490, 491, 492, 493, 494, 495, 496, 497, 498, 499, 500, 501, 502, 503, 214, 215, 216, 217, 504, 505, 506, 507, 836, 837, 838, 839, 840, 841, 842, 843, 844, 845, 846, 847, 848, 849, 850, 851, 852, 853, 854, 855, 856, 857] (by decide +kernel) (by decide +kernel)
set_option maxRecDepth 20000 in
theorem gL_law_X6_run : GoodIn wsL_law (wsV RL 48 RX6 yX6_run wsX6_run) := goodIn_app (goodIn_of _ (by decide +kernel)) ggL_law_X6_run
set_option maxRecDepth 20000 in
theorem ggL_law_X5_undo : GoodIn wsL_law wsX5_undo := goodIn_r _ [511, 15, 512, 393, 513, 514, 515, 2, 516, 32, 517, 518, 519, 14, 520, 43, 51, 39, 52, 40, 53, 41, 425, 259, 260, 46, 261, 63, 823, 824, 825, 826, 827, 828, 829, 830, 831, 832, 833, 834, 835, 858, 859, 860, 861, 862, 863, 864, 865, 866, 867, 868, 869, 870, 871, 891] (by decide +kernel) (by decide +kernel)
set_option maxRecDepth 20000 in
theorem gL_law_X5_undo : GoodIn wsL_law (wsV RL 49 RX5 yX5_undo wsX5_undo) := goodIn_app (goodIn_of _ (by decide +kernel)) ggL_law_X5_undo
set_option maxRecDepth 20000 in
theorem ggL_law_X6_undo : GoodIn wsL_law wsX6_undo := goodIn_r _ [524, 97, 525, 526, 527, 5, 528, 101, 836, 837, 838, 839, 840, 841, 842, 843, 844, 845, 846, 847, 848, 849, 850, 851, 852, 853, 854, 855, 856, 857] (by decide +kernel) (by decide +kernel)
set_option maxRecDepth 20000 in
theorem gL_law_X6_undo : GoodIn wsL_law (wsV RL 52 RX6 yX6_undo wsX6_undo) := goodIn_app (goodIn_of _ (by decide +kernel)) ggL_law_X6_undo
set_option maxRecDepth 20000 in
theorem ggL_law_X5_of : GoodIn wsL_law wsX5_of := goodIn_r _ [532, 15, 533, 534, 180, 190, 191, 192, 14, 193, 37, 121, 2, 122, 120, 123, 124, 125, 126, 31, 535, 259, 260, 46, 261, 63, 202, 203, 204, 205, 39, 536, 431, 432, 433, 537, 450, 451, 538, 443, 444, 823, 824, 825, 826, 827, 828, 829, 830, 831, 832, 833, 834, 835, 858, 859, 860, 861, 862, 863, 864, 865, 866, 867, 868, 869, 870, 871, 891] (by decide +kernel) (by decide +kernel)
set_option maxRecDepth 20000 in
theorem gL_law_X5_of : GoodIn wsL_law (wsV RL 53 RX5 yX5_of wsX5_of) := goodIn_app (goodIn_of _ (by decide +kernel)) ggL_law_X5_of
set_option maxRecDepth 20000 in
theorem ggL_law_X6_of : GoodIn wsL_law wsX6_of := goodIn_r _ [542, 167, 97, 210, 211, 212, 5, 213, 143, 144, 145, 146, 136, 137, 138, 139, 140, 141, 142, 101, 218, 219, 220, 221, 495, 496, 497, 501, 502, 503, 498, 499, 500, 836, 837, 838, 839, 840, 841, 842, 843, 844, 845, 846, 847, 848, 849, 850, 851, 852, 853, 854, 855, 856, 857] (by decide +kernel) (by decide +kernel)
set_option maxRecDepth 20000 in
theorem gL_law_X6_of : GoodIn wsL_law (wsV RL 57 RX6 yX6_of wsX6_of) := goodIn_app (goodIn_of _ (by decide +kernel)) ggL_law_X6_of
set_option maxRecDepth 20000 in
theorem ggL_law_X5_takes : GoodIn wsL_law wsX5_takes := goodIn_r _ [546, 22, 15, 394, 396, 397, 398, 2, 399, 120, 121, 122, 123, 124, 125, 126, 31, 400, 401, 402, 21, 403, 67, 68, 69, 70, 404, 71, 405, 72, 73, 406, 407, 408, 409, 74, 75, 410, 411, 81, 77, 79, 80, 78, 412, 413, 414, 14, 415, 37, 416, 259, 260, 46, 261, 63, 417, 418, 419, 420, 48, 421, 422, 60, 423, 424, 425, 426, 427, 428, 429, 430, 431, 432, 433, 434, 160, 161, 162, 435, 436, 437, 438, 439, 59, 61, 440, 441, 442, 443, 444, 445, 446, 447, 448, 449, 450, 451, 823, 824, 825, 826, 827, 828, 829, 830, 831, 832, 833, 834, 835, 872, 873, 874, 875, 876, 877, 878, 879, 880, 881, 882, 883, 884, 885, 858, 859, 860, 861, 862, 863, 864, 865, 866, 867, 868, 869, 870, 871, 891] (by decide +kernel) (by decide +kernel)
set_option maxRecDepth 20000 in
theorem gL_law_X5_takes : GoodIn wsL_law (wsV RL 58 RX5 yX5_takes wsX5_takes) := goodIn_app (goodIn_of _ (by decide +kernel)) ggL_law_X5_takes
set_option maxRecDepth 20000 in
theorem ggL_law_X6_takes : GoodIn wsL_law wsX6_takes := goodIn_r _ [550, 464, 465, 5, 466, 467, 135, 468, 469, 470, 136, 137, 138, 139, 140, 141, 142, 101, 471, 472, 473, 474, 475, 476, 477, 478, 97, 479, 103, 218, 219, 220, 221, 480, 481, 482, 483, 104, 108, 107, 105, 106, 143, 144, 145, 146, 484, 485, 486, 487, 488, 489, 490, 491, 492, 493, 494, 495, 496, 497, 498, 499, 500, 501, 502, 503, 504, 505, 506, 507, 836, 837, 838, 839, 840, 841, 842, 843, 844, 845, 846, 847, 848, 849, 850, 851, 852, 853, 854, 855, 856, 857] (by decide +kernel) (by decide +kernel)
set_option maxRecDepth 20000 in
theorem gL_law_X6_takes : GoodIn wsL_law (wsV RL 62 RX6 yX6_takes wsX6_takes) := goodIn_app (goodIn_of _ (by decide +kernel)) ggL_law_X6_takes
set_option maxRecDepth 20000 in
theorem ggL_law_X5_at : GoodIn wsL_law wsX5_at := goodIn_r _ [554, 15, 22, 555, 556, 557, 558, 559, 397, 398, 2, 399, 120, 121, 122, 190, 191, 192, 14, 193, 37, 123, 124, 125, 126, 31, 400, 401, 402, 21, 403, 67, 68, 69, 70, 404, 71, 405, 72, 73, 406, 407, 408, 409, 74, 75, 410, 411, 81, 77, 79, 80, 78, 412, 413, 414, 415, 416, 259, 260, 46, 261, 63, 417, 418, 419, 420, 48, 421, 422, 60, 423, 424, 425, 426, 427, 428, 429, 430, 431, 432, 433, 434, 160, 161, 162, 435, 436, 437, 438, 439, 59, 61, 440, 441, 442, 443, 444, 445, 446, 447, 448, 449, 450, 451, 535, 823, 824, 825, 826, 827, 828, 829, 830, 831, 832, 833, 834, 835, 872, 873, 874, 875, 876, 877, 878, 879, 880, 881, 882, 883, 884, 885, 858, 859, 860, 861, 862, 863, 864, 865, 866, 867, 868, 869, 870, 871, 891] (by decide +kernel) (by decide +kernel)
set_option maxRecDepth 20000 in
theorem gL_law_X5_at : GoodIn wsL_law (wsV RL 63 RX5 yX5_at wsX5_at) := goodIn_app (goodIn_of _ (by decide +kernel)) ggL_law_X5_at
set_option maxRecDepth 20000 in
theorem ggL_law_X6_at : GoodIn wsL_law wsX6_at := goodIn_r _ [563, 564, 104, 105, 106, 107, 108, 464, 465, 5, 466, 467, 135, 468, 469, 470, 136, 137, 138, 210, 211, 212, 213, 143, 144, 145, 146, 97, 139, 140, 141, 142, 101, 471, 472, 473, 474, 475, 476, 477, 478, 479, 103, 218, 219, 220, 221, 480, 481, 482, 483, 484, 485, 486, 487, 488, 489, 490, 491, 492, 493, 494, 495, 496, 497, 498, 499, 500, 501, 502, 503, 836, 837, 838, 839, 840, 841, 842, 843, 844, 845, 846, 847, 848, 849, 850, 851, 852, 853, 854, 855, 856, 857] (by decide +kernel) (by decide +kernel)
set_option maxRecDepth 20000 in
theorem gL_law_X6_at : GoodIn wsL_law (wsV RL 67 RX6 yX6_at wsX6_at) := goodIn_app (goodIn_of _ (by decide +kernel)) ggL_law_X6_at
set_option maxRecDepth 20000 in
theorem ggL_law_X5_lead : GoodIn wsL_law wsX5_lead := goodIn_r _ [568, 569, 570, 2, 571, 397, 398, 399, 120, 121, 122, 123, 124, 125, 126, 31, 572, 573, 574, 575, 22, 15, 576, 400, 401, 402, 21, 403, 67, 68, 69, 70, 404, 71, 405, 72, 73, 406, 407, 408, 409, 74, 75, 410, 411, 81, 77, 79, 80, 78, 412, 413, 414, 14, 415, 37, 416, 259, 260, 46, 261, 63, 417, 418, 419, 420, 48, 421, 422, 60, 423, 424, 425, 426, 427, 428, 429, 430, 431, 432, 433, 434, 160, 161, 162, 435, 436, 437, 438, 439, 59, 61, 440, 441, 442, 443, 444, 445, 446, 447, 448, 449, 450, 451, 823, 824, 825, 826, 827, 828, 829, 830, 831, 832, 833, 834, 835, 872, 873, 874, 875, 876, 877, 878, 879, 880, 881, 882, 883, 884, 885, 858, 859, 860, 861, 862, 863, 864, 865, 866, 867, 868, 869, 870, 871, 891] (by decide +kernel) (by decide +kernel)
set_option maxRecDepth 20000 in
theorem gL_law_X5_lead : GoodIn wsL_law (wsV RL 68 RX5 yX5_lead wsX5_lead) := goodIn_app (goodIn_of _ (by decide +kernel)) ggL_law_X5_lead
set_option maxRecDepth 20000 in
theorem ggL_law_X6_lead : GoodIn wsL_law wsX6_lead := goodIn_r _ [580, 467, 581, 468, 469, 5, 470, 136, 137, 138, 139, 140, 141, 142, 101, 582, 583, 584, 585, 586, 471, 472, 473, 474, 475, 476, 477, 478, 97, 479, 103, 218, 219, 220, 221, 480, 481, 482, 483, 104, 108, 107, 105, 106, 143, 144, 145, 146, 484, 485, 486, 487, 488, 489, 490, 491, 492, 493, 494, 495, 496, 497, 498, 499, 500, 501, 502, 503, 836, 837, 838, 839, 840, 841, 842, 843, 844, 845, 846, 847, 848, 849, 850, 851, 852, 853, 854, 855, 856, 857] (by decide +kernel) (by decide +kernel)
set_option maxRecDepth 20000 in
theorem gL_law_X6_lead : GoodIn wsL_law (wsV RL 71 RX6 yX6_lead wsX6_lead) := goodIn_app (goodIn_of _ (by decide +kernel)) ggL_law_X6_lead
set_option maxRecDepth 20000 in
theorem ggL_law_X5_worth : GoodIn wsL_law wsX5_worth := goodIn_r _ [590, 120, 121, 2, 122, 591, 592, 593, 594, 31, 595, 596, 597, 598, 22, 15, 572, 573, 574, 575, 576, 400, 401, 402, 21, 403, 67, 68, 69, 70, 404, 71, 405, 72, 73, 406, 407, 408, 409, 74, 75, 410, 411, 81, 77, 79, 80, 78, 412, 413, 414, 14, 415, 37, 416, 259, 260, 46, 261, 63, 417, 418, 419, 420, 48, 421, 422, 60, 423, 424, 425, 426, 427, 428, 429, 430, 431, 432, 433, 434, 160, 161, 162, 435, 436, 437, 438, 439, 59, 61, 440, 441, 442, 443, 444, 445, 446, 447, 448, 449, 450, 451, 823, 824, 825, 826, 827, 828, 829, 830, 831, 832, 833, 834, 835, 872, 873, 874, 875, 876, 877, 878, 879, 880, 881, 882, 883, 884, 885, 858, 859, 860, 861, 862, 863, 864, 865, 866, 867, 868, 869, 870, 871, 891] (by decide +kernel) (by decide +kernel)
set_option maxRecDepth 20000 in
theorem gL_law_X5_worth : GoodIn wsL_law (wsV RL 72 RX5 yX5_worth wsX5_worth) := goodIn_app (goodIn_of _ (by decide +kernel)) ggL_law_X5_worth
set_option maxRecDepth 20000 in
theorem ggL_law_X6_worth : GoodIn wsL_law wsX6_worth := goodIn_r _ [602, 468, 469, 5, 470, 136, 137, 138, 139, 140, 141, 142, 101, 582, 583, 584, 585, 586, 581, 471, 472, 473, 474, 475, 476, 477, 478, 97, 479, 103, 218, 219, 220, 221, 480, 481, 482, 483, 104, 108, 107, 105, 106, 143, 144, 145, 146, 484, 485, 486, 487, 488, 489, 490, 491, 492, 493, 494, 495, 496, 497, 498, 499, 500, 501, 502, 503, 836, 837, 838, 839, 840, 841, 842, 843, 844, 845, 846, 847, 848, 849, 850, 851, 852, 853, 854, 855, 856, 857] (by decide +kernel) (by decide +kernel)
set_option maxRecDepth 20000 in
theorem gL_law_X6_worth : GoodIn wsL_law (wsV RL 75 RX6 yX6_worth wsX6_worth) := goodIn_app (goodIn_of _ (by decide +kernel)) ggL_law_X6_worth
set_option maxRecDepth 20000 in
theorem ggL_law_X5_strong : GoodIn wsL_law wsX5_strong := goodIn_r _ [606, 22, 15, 607, 397, 398, 2, 399, 120, 121, 122, 123, 124, 125, 126, 31, 400, 401, 402, 21, 403, 67, 68, 69, 70, 404, 71, 405, 72, 73, 406, 407, 408, 409, 74, 75, 410, 411, 81, 77, 79, 80, 78, 412, 413, 414, 14, 415, 37, 416, 259, 260, 46, 261, 63, 417, 418, 419, 420, 48, 421, 422, 60, 423, 424, 425, 426, 427, 428, 429, 430, 431, 432, 433, 434, 160, 161, 162, 435, 436, 437, 438, 439, 59, 61, 440, 441, 442, 443, 444, 445, 446, 447, 448, 449, 450, 451, 823, 824, 825, 826, 827, 828, 829, 830, 831, 832, 833, 834, 835, 872, 873, 874, 875, 876, 877, 878, 879, 880, 881, 882, 883, 884, 885, 858, 859, 860, 861, 862, 863, 864, 865, 866, 867, 868, 869, 870, 871, 891] (by decide +kernel) (by decide +kernel)
set_option maxRecDepth 20000 in
theorem gL_law_X5_strong : GoodIn wsL_law (wsV RL 76 RX5 yX5_strong wsX5_strong) := goodIn_app (goodIn_of _ (by decide +kernel)) ggL_law_X5_strong
set_option maxRecDepth 20000 in
theorem ggL_law_X6_strong : GoodIn wsL_law wsX6_strong := goodIn_r _ [611, 586, 479, 464, 465, 5, 466, 467, 135, 468, 469, 470, 136, 137, 138, 139, 140, 141, 142, 101, 475, 476, 477, 478, 97, 103, 218, 219, 220, 221, 480, 481, 482, 483, 104, 108, 107, 105, 106, 143, 144, 145, 146, 484, 485, 486, 487, 488, 489, 490, 491, 492, 493, 494, 495, 496, 497, 498, 499, 500, 501, 502, 503, 836, 837, 838, 839, 840, 841, 842, 843, 844, 845, 846, 847, 848, 849, 850, 851, 852, 853, 854, 855, 856, 857] (by decide +kernel) (by decide +kernel)
set_option maxRecDepth 20000 in
theorem gL_law_X6_strong : GoodIn wsL_law (wsV RL 79 RX6 yX6_strong wsX6_strong) := goodIn_app (goodIn_of _ (by decide +kernel)) ggL_law_X6_strong
set_option maxRecDepth 20000 in
theorem ggL_law_X5_hire : GoodIn wsL_law wsX5_hire := goodIn_r _ [615, 22, 15, 397, 398, 2, 399, 120, 121, 122, 123, 124, 125, 126, 31, 400, 401, 402, 21, 403, 67, 68, 69, 70, 404, 71, 405, 72, 73, 406, 407, 408, 409, 74, 75, 410, 411, 81, 77, 79, 80, 78, 412, 413, 414, 14, 415, 37, 416, 259, 260, 46, 261, 63, 417, 418, 419, 420, 48, 421, 422, 60, 423, 424, 425, 426, 427, 428, 429, 430, 431, 432, 433, 434, 160, 161, 162, 435, 436, 437, 438, 439, 59, 61, 440, 441, 442, 443, 444, 445, 446, 447, 448, 449, 450, 451, 616, 457, 458, 459, 617, 618, 619, 620, 621, 622, 623, 624, 625, 626, 627, 628, 823, 824, 825, 826, 827, 828, 829, 830, 831, 832, 833, 834, 835, 872, 873, 874, 875, 876, 877, 878, 879, 880, 881, 882, 883, 884, 885, 858, 859, 860, 861, 862, 863, 864, 865, 866, 867, 868, 869, 870, 871, 891] (by decide +kernel) (by decide +kernel)
set_option maxRecDepth 20000 in
theorem gL_law_X5_hire : GoodIn wsL_law (wsV RL 80 RX5 yX5_hire wsX5_hire) := goodIn_app (goodIn_of _ (by decide +kernel)) ggL_law_X5_hire
set_option maxRecDepth 20000 in
theorem ggL_law_X6_hire : GoodIn wsL_law wsX6_hire := goodIn_r _ [632, 633, 586, 464, 465, 5, 466, 467, 135, 468, 469, 470, 136, 137, 138, 139, 140, 141, 142, 101, 634, 635, 636, 637, 103, 475, 476, 477, 478, 97, 479, 218, 219, 220, 221, 143, 144, 145, 146, 480, 481, 482, 483, 104, 108, 107, 105, 106, 484, 485, 486, 487, 488, 489, 490, 491, 492, 493, 494, 495, 496, 497, 498, 499, 500, 501, 502, 503, 638, 639, 640, 836, 837, 838, 839, 840, 841, 842, 843, 844, 845, 846, 847, 848, 849, 850, 851, 852, 853, 854, 855, 856, 857] (by decide +kernel) (by decide +kernel)
set_option maxRecDepth 20000 in
theorem gL_law_X6_hire : GoodIn wsL_law (wsV RL 83 RX6 yX6_hire wsX6_hire) := goodIn_app (goodIn_of _ (by decide +kernel)) ggL_law_X6_hire
set_option maxRecDepth 20000 in
theorem ggL_law_X5_dark : GoodIn wsL_law wsX5_dark := goodIn_r _ [644, 22, 15, 119, 557, 397, 398, 2, 399, 120, 121, 122, 123, 124, 125, 126, 31, 400, 401, 402, 21, 403, 67, 68, 69, 70, 404, 71, 405, 72, 73, 406, 407, 408, 409, 74, 75, 410, 411, 81, 77, 79, 80, 78, 412, 413, 414, 14, 415, 37, 416, 259, 260, 46, 261, 63, 417, 418, 419, 420, 48, 421, 422, 60, 423, 424, 425, 426, 427, 428, 429, 430, 431, 432, 433, 434, 160, 161, 162, 435, 436, 437, 438, 439, 59, 61, 440, 441, 442, 443, 444, 445, 446, 447, 448, 449, 450, 451, 535, 823, 824, 825, 826, 827, 828, 829, 830, 831, 832, 833, 834, 835, 858, 859, 860, 861, 862, 863, 864, 865, 866, 867, 868, 869, 870, 871, 872, 873, 874, 875, 876, 877, 878, 879, 880, 881, 882, 883, 884, 885, 891] (by decide +kernel) (by decide +kernel)
set_option maxRecDepth 20000 in
theorem gL_law_X5_dark : GoodIn wsL_law (wsV RL 84 RX5 yX5_dark wsX5_dark) := goodIn_app (goodIn_of _ (by decide +kernel)) ggL_law_X5_dark
set_option maxRecDepth 20000 in
theorem ggL_law_X6_dark : GoodIn wsL_law wsX6_dark := goodIn_r _ [648, 649, 106, 464, 465, 5, 466, 467, 135, 468, 469, 470, 136, 137, 138, 139, 140, 141, 142, 101, 471, 472, 473, 474, 475, 476, 477, 478, 97, 479, 103, 218, 219, 220, 221, 480, 481, 482, 483, 104, 108, 107, 105, 143, 144, 145, 146, 484, 485, 486, 487, 488, 489, 490, 491, 492, 493, 494, 495, 496, 497, 498, 499, 500, 501, 502, 503, 836, 837, 838, 839, 840, 841, 842, 843, 844, 845, 846, 847, 848, 849, 850, 851, 852, 853, 854, 855, 856, 857] (by decide +kernel) (by decide +kernel)
set_option maxRecDepth 20000 in
theorem gL_law_X6_dark : GoodIn wsL_law (wsV RL 87 RX6 yX6_dark wsX6_dark) := goodIn_app (goodIn_of _ (by decide +kernel)) ggL_law_X6_dark
set_option maxRecDepth 20000 in
theorem ggL_law_X5_waits : GoodIn wsL_law wsX5_waits := goodIn_r _ [653, 15, 22, 397, 398, 2, 399, 120, 121, 122, 190, 191, 192, 14, 193, 37, 123, 124, 125, 126, 31, 400, 401, 402, 21, 403, 67, 68, 69, 70, 404, 71, 405, 72, 73, 406, 407, 408, 409, 74, 75, 410, 411, 81, 77, 79, 80, 78, 412, 413, 414, 415, 416, 259, 260, 46, 261, 63, 417, 418, 419, 420, 48, 421, 422, 60, 423, 424, 425, 426, 427, 428, 429, 430, 431, 432, 433, 434, 160, 161, 162, 435, 436, 437, 438, 439, 59, 61, 440, 441, 442, 443, 444, 445, 446, 447, 448, 449, 450, 451, 654, 655, 656, 657, 624, 625, 626, 627, 628, 658, 659, 619, 660, 823, 824, 825, 826, 827, 828, 829, 830, 831, 832, 833, 834, 835, 858, 859, 860, 861, 862, 863, 864, 865, 866, 867, 868, 869, 870, 871, 872, 873, 874, 875, 876, 877, 878, 879, 880, 881, 882, 883, 884, 885, 891] (by decide +kernel) (by decide +kernel)
set_option maxRecDepth 20000 in
theorem gL_law_X5_waits : GoodIn wsL_law (wsV RL 88 RX5 yX5_waits wsX5_waits) := goodIn_app (goodIn_of _ (by decide +kernel)) ggL_law_X5_waits
set_option maxRecDepth 20000 in
theorem ggL_law_X6_waits : GoodIn wsL_law wsX6_waits := goodIn_r _ [664, 665, 464, 465, 5, 466, 467, 135, 468, 469, 470, 136, 137, 138, 210, 211, 212, 213, 143, 144, 145, 146, 97, 139, 140, 141, 142, 101, 484, 485, 486, 487, 634, 635, 636, 637, 103, 475, 476, 477, 478, 479, 218, 219, 220, 221, 480, 481, 482, 483, 104, 108, 107, 105, 106, 488, 489, 490, 491, 492, 493, 494, 495, 496, 497, 498, 499, 500, 501, 502, 503, 471, 472, 473, 474, 836, 837, 838, 839, 840, 841, 842, 843, 844, 845, 846, 847, 848, 849, 850, 851, 852, 853, 854, 855, 856, 857] (by decide +kernel) (by decide +kernel)
set_option maxRecDepth 20000 in
theorem gL_law_X6_waits : GoodIn wsL_law (wsV RL 91 RX6 yX6_waits wsX6_waits) := goodIn_app (goodIn_of _ (by decide +kernel)) ggL_law_X6_waits
set_option maxRecDepth 20000 in
theorem ggL_law_X5_share : GoodIn wsL_law wsX5_share := goodIn_r _ [669, 22, 15, 670, 671, 59, 60, 61, 672, 397, 398, 2, 399, 120, 121, 122, 591, 592, 593, 594, 31, 400, 401, 402, 21, 403, 67, 68, 69, 70, 404, 71, 405, 72, 73, 406, 407, 408, 409, 74, 75, 410, 411, 81, 77, 79, 80, 78, 412, 413, 414, 14, 415, 37, 416, 259, 260, 46, 261, 63, 417, 418, 419, 420, 48, 421, 422, 423, 424, 425, 426, 427, 428, 429, 430, 431, 432, 433, 434, 160, 161, 162, 435, 436, 437, 438, 439, 440, 441, 442, 443, 444, 445, 446, 447, 448, 449, 450, 451, 452, 453, 454, 455, 456, 457, 458, 459, 823, 824, 825, 826, 827, 828, 829, 830, 831, 832, 833, 834, 835, 872, 873, 874, 875, 876, 877, 878, 879, 880, 881, 882, 883, 884, 885, 858, 859, 860, 861, 862, 863, 864, 865, 866, 867, 868, 869, 870, 871, 891] (by decide +kernel) (by decide +kernel)
set_option maxRecDepth 20000 in
theorem gL_law_X5_share : GoodIn wsL_law (wsV RL 92 RX5 yX5_share wsX5_share) := goodIn_app (goodIn_of _ (by decide +kernel)) ggL_law_X5_share
set_option maxRecDepth 20000 in
theorem ggL_law_X6_share : GoodIn wsL_law wsX6_share := goodIn_r _ [676, 665, 103, 464, 465, 5, 466, 467, 135, 468, 469, 470, 136, 137, 138, 139, 140, 141, 142, 101, 475, 476, 477, 478, 97, 479, 218, 219, 220, 221, 480, 481, 482, 483, 104, 108, 107, 105, 106, 143, 144, 145, 146, 484, 485, 486, 487, 488, 489, 490, 491, 492, 493, 494, 495, 496, 497, 498, 499, 500, 501, 502, 503, 471, 472, 473, 474, 836, 837, 838, 839, 840, 841, 842, 843, 844, 845, 846, 847, 848, 849, 850, 851, 852, 853, 854, 855, 856, 857] (by decide +kernel) (by decide +kernel)
set_option maxRecDepth 20000 in
theorem gL_law_X6_share : GoodIn wsL_law (wsV RL 95 RX6 yX6_share wsX6_share) := goodIn_app (goodIn_of _ (by decide +kernel)) ggL_law_X6_share
set_option maxRecDepth 20000 in
theorem ggL_law_X5_key : GoodIn wsL_law wsX5_key := goodIn_r _ [680, 15, 120, 121, 2, 122, 190, 191, 192, 14, 193, 37, 123, 124, 125, 126, 31, 681, 418, 419, 420, 48, 421, 422, 60, 423, 424, 413, 414, 415, 425, 259, 260, 46, 261, 63, 682, 440, 441, 823, 824, 825, 826, 827, 828, 829, 830, 831, 832, 833, 834, 835, 858, 859, 860, 861, 862, 863, 864, 865, 866, 867, 868, 869, 870, 871, 891] (by decide +kernel) (by decide +kernel)
set_option maxRecDepth 20000 in
theorem gL_law_X5_key : GoodIn wsL_law (wsV RL 96 RX5 yX5_key wsX5_key) := goodIn_app (goodIn_of _ (by decide +kernel)) ggL_law_X5_key
set_option maxRecDepth 20000 in
theorem ggL_law_X6_key : GoodIn wsL_law wsX6_key := goodIn_r _ [686, 468, 469, 5, 470, 136, 137, 138, 210, 211, 212, 213, 143, 144, 145, 146, 97, 139, 140, 141, 142, 101, 488, 489, 490, 491, 218, 219, 220, 221, 492, 493, 494, 836, 837, 838, 839, 840, 841, 842, 843, 844, 845, 846, 847, 848, 849, 850, 851, 852, 853, 854, 855, 856, 857] (by decide +kernel) (by decide +kernel)
set_option maxRecDepth 20000 in
theorem gL_law_X6_key : GoodIn wsL_law (wsV RL 99 RX6 yX6_key wsX6_key) := goodIn_app (goodIn_of _ (by decide +kernel)) ggL_law_X6_key
set_option maxRecDepth 20000 in
theorem ggL_law_X5_reading : GoodIn wsL_law wsX5_reading := goodIn_r _ [690, 15, 691, 190, 191, 192, 14, 193, 37, 121, 2, 122, 120, 123, 124, 125, 126, 31, 151, 152, 153, 154, 33, 692, 693, 694, 695, 49, 42, 50, 159, 160, 161, 46, 162, 63, 823, 824, 825, 826, 827, 828, 829, 830, 831, 832, 833, 834, 835, 858, 859, 860, 861, 862, 863, 864, 865, 866, 867, 868, 869, 870, 871, 891] (by decide +kernel) (by decide +kernel)
set_option maxRecDepth 20000 in
theorem gL_law_X5_reading : GoodIn wsL_law (wsV RL 100 RX5 yX5_reading wsX5_reading) := goodIn_app (goodIn_of _ (by decide +kernel)) ggL_law_X5_reading
set_option maxRecDepth 20000 in
theorem ggL_law_X6_reading : GoodIn wsL_law wsX6_reading := goodIn_r _ [699, 649, 97, 210, 211, 212, 5, 213, 143, 144, 145, 146, 136, 137, 138, 139, 140, 141, 142, 101, 169, 170, 171, 172, 836, 837, 838, 839, 840, 841, 842, 843, 844, 845, 846, 847, 848, 849, 850, 851, 852, 853, 854, 855, 856, 857] (by decide +kernel) (by decide +kernel)
set_option maxRecDepth 20000 in
theorem gL_law_X6_reading : GoodIn wsL_law (wsV RL 103 RX6 yX6_reading wsX6_reading) := goodIn_app (goodIn_of _ (by decide +kernel)) ggL_law_X6_reading
set_option maxRecDepth 20000 in
theorem ggL_law_X5_forget : GoodIn wsL_law wsX5_forget := goodIn_r _ [703, 15, 691, 823, 824, 825, 826, 827, 828, 829, 830, 831, 832, 833, 834, 835, 858, 859, 860, 861, 862, 863, 864, 865, 866, 867, 868, 869, 870, 871] (by decide +kernel) (by decide +kernel)
set_option maxRecDepth 20000 in
theorem gL_law_X5_forget : GoodIn wsL_law (wsV RL 104 RX5 yX5_forget wsX5_forget) := goodIn_app (goodIn_of _ (by decide +kernel)) ggL_law_X5_forget
set_option maxRecDepth 20000 in
theorem ggL_law_X6_forget : GoodIn wsL_law wsX6_forget := goodIn_r _ [707, 97, 836, 837, 838, 839, 840, 841, 842, 843, 844, 845, 846, 847, 848, 849, 850, 851, 852, 853, 854, 855, 856, 857] (by decide +kernel) (by decide +kernel)
set_option maxRecDepth 20000 in
theorem gL_law_X6_forget : GoodIn wsL_law (wsV RL 107 RX6 yX6_forget wsX6_forget) := goodIn_app (goodIn_of _ (by decide +kernel)) ggL_law_X6_forget
set_option maxRecDepth 20000 in
theorem ggL_law_X5_leads : GoodIn wsL_law wsX5_leads := goodIn_r _ [711, 22, 15, 569, 570, 2, 571, 397, 398, 399, 120, 121, 122, 123, 124, 125, 126, 31, 400, 401, 402, 21, 403, 67, 68, 69, 70, 404, 71, 405, 72, 73, 406, 407, 408, 409, 74, 75, 410, 411, 81, 77, 79, 80, 78, 412, 413, 414, 14, 415, 37, 416, 259, 260, 46, 261, 63, 417, 418, 419, 420, 48, 421, 422, 60, 423, 424, 425, 426, 427, 428, 429, 430, 431, 432, 433, 434, 160, 161, 162, 435, 436, 437, 438, 439, 59, 61, 440, 441, 442, 443, 444, 445, 446, 447, 448, 449, 450, 451, 712, 713, 714, 715, 691, 556, 716, 717, 535, 823, 824, 825, 826, 827, 828, 829, 830, 831, 832, 833, 834, 835, 872, 873, 874, 875, 876, 877, 878, 879, 880, 881, 882, 883, 884, 885, 858, 859, 860, 861, 862, 863, 864, 865, 866, 867, 868, 869, 870, 871, 891] (by decide +kernel) (by decide +kernel)
set_option maxRecDepth 20000 in
theorem gL_law_X5_leads : GoodIn wsL_law (wsV RL 108 RX5 yX5_leads wsX5_leads) := goodIn_app (goodIn_of _ (by decide +kernel)) ggL_law_X5_leads
set_option maxRecDepth 20000 in
theorem ggL_law_X6_leads : GoodIn wsL_law wsX6_leads := goodIn_r _ [721, 467, 468, 469, 5, 470, 136, 137, 138, 139, 140, 141, 142, 101, 471, 472, 473, 474, 475, 476, 477, 478, 97, 479, 103, 218, 219, 220, 221, 480, 481, 482, 483, 104, 108, 107, 105, 106, 143, 144, 145, 146, 484, 485, 486, 487, 488, 489, 490, 491, 492, 493, 494, 495, 496, 497, 498, 499, 500, 501, 502, 503, 722, 723, 724, 725, 836, 837, 838, 839, 840, 841, 842, 843, 844, 845, 846, 847, 848, 849, 850, 851, 852, 853, 854, 855, 856, 857] (by decide +kernel) (by decide +kernel)
set_option maxRecDepth 20000 in
theorem gL_law_X6_leads : GoodIn wsL_law (wsV RL 111 RX6 yX6_leads wsX6_leads) := goodIn_app (goodIn_of _ (by decide +kernel)) ggL_law_X6_leads
set_option maxRecDepth 20000 in
theorem ggL_law_X5_drawn : GoodIn wsL_law wsX5_drawn := goodIn_r _ [729, 730, 22, 15, 119, 731, 732, 733, 734, 735, 670, 120, 121, 2, 122, 397, 398, 399, 123, 124, 125, 126, 31, 513, 514, 515, 516, 32, 400, 401, 402, 21, 403, 67, 68, 69, 70, 404, 71, 405, 72, 73, 406, 407, 408, 409, 74, 75, 410, 411, 81, 77, 79, 80, 78, 412, 413, 414, 14, 415, 37, 416, 259, 260, 46, 261, 63, 417, 418, 419, 420, 48, 421, 422, 60, 423, 424, 425, 426, 427, 428, 429, 430, 431, 432, 433, 434, 160, 161, 162, 435, 436, 437, 438, 439, 59, 61, 440, 441, 442, 443, 444, 445, 446, 447, 448, 449, 450, 451, 736, 737, 738, 739, 29, 30, 740, 741, 742, 823, 824, 825, 826, 827, 828, 829, 830, 831, 832, 833, 834, 835, 858, 859, 860, 861, 862, 863, 864, 865, 866, 867, 868, 869, 870, 871, 872, 873, 874, 875, 876, 877, 878, 879, 880, 881, 882, 883, 884, 885, 891] (by decide +kernel) (by decide +kernel)
set_option maxRecDepth 20000 in
theorem gL_law_X5_drawn : GoodIn wsL_law (wsV RL 112 RX5 yX5_drawn wsX5_drawn) := goodIn_app (goodIn_of _ (by decide +kernel)) ggL_law_X5_drawn
set_option maxRecDepth 20000 in
theorem ggL_law_X6_drawn : GoodIn wsL_law wsX6_drawn := goodIn_r _ [746, 747, 748, 749, 750, 751, 103, 752, 467, 136, 137, 5, 138, 464, 465, 466, 135, 468, 469, 470, 139, 140, 141, 142, 101, 525, 526, 527, 528, 475, 476, 477, 478, 97, 479, 218, 219, 220, 221, 143, 144, 145, 146, 480, 481, 482, 483, 104, 108, 107, 105, 106, 484, 485, 486, 487, 488, 489, 490, 491, 492, 493, 494, 495, 496, 497, 498, 499, 500, 501, 502, 503, 753, 754, 755, 756, 757, 102, 836, 837, 838, 839, 840, 841, 842, 843, 844, 845, 846, 847, 848, 849, 850, 851, 852, 853, 854, 855, 856, 857] (by decide +kernel) (by decide +kernel)
set_option maxRecDepth 20000 in
theorem gL_law_X6_drawn : GoodIn wsL_law (wsV RL 115 RX6 yX6_drawn wsX6_drawn) := goodIn_app (goodIn_of _ (by decide +kernel)) ggL_law_X6_drawn
set_option maxRecDepth 20000 in
theorem ggL_law_X5_part : GoodIn wsL_law wsX5_part := goodIn_r _ [761, 29, 30, 120, 121, 2, 122, 123, 124, 125, 126, 31, 823, 824, 825, 826, 827, 828, 829, 830, 831, 832, 833, 834, 835] (by decide +kernel) (by decide +kernel)
set_option maxRecDepth 20000 in
theorem gL_law_X5_part : GoodIn wsL_law (wsV RL 116 RX5 yX5_part wsX5_part) := goodIn_app (goodIn_of _ (by decide +kernel)) ggL_law_X5_part
set_option maxRecDepth 20000 in
theorem ggL_law_X6_part : GoodIn wsL_law wsX6_part := goodIn_r _ [765, 757, 102, 139, 140, 141, 5, 142, 101, 836, 837, 838, 839, 840, 841, 842, 843, 844, 845, 846, 847, 848, 849, 850, 851, 852, 853, 854, 855, 856, 857] (by decide +kernel) (by decide +kernel)
set_option maxRecDepth 20000 in
theorem gL_law_X6_part : GoodIn wsL_law (wsV RL 120 RX6 yX6_part wsX6_part) := goodIn_app (goodIn_of _ (by decide +kernel)) ggL_law_X6_part
set_option maxRecDepth 20000 in
theorem ggL_law_X5_image : GoodIn wsL_law wsX5_image := goodIn_r _ [769, 16, 15, 27, 17, 28, 120, 121, 2, 122, 123, 124, 125, 126, 31, 338, 339, 340, 14, 341, 37, 38, 39, 40, 41, 42, 43, 47, 48, 49, 50, 51, 52, 53, 342, 343, 344, 46, 345, 63, 346, 259, 260, 261, 823, 824, 825, 826, 827, 828, 829, 830, 831, 832, 833, 834, 835, 858, 859, 860, 861, 862, 863, 864, 865, 866, 867, 868, 869, 870, 871, 891] (by decide +kernel) (by decide +kernel)
set_option maxRecDepth 20000 in
theorem gL_law_X5_image : GoodIn wsL_law (wsV RL 121 RX5 yX5_image wsX5_image) := goodIn_app (goodIn_of _ (by decide +kernel)) ggL_law_X5_image
set_option maxRecDepth 20000 in
theorem ggL_law_X6_image : GoodIn wsL_law wsX6_image := goodIn_r _ [773, 98, 97, 100, 136, 137, 5, 138, 139, 140, 141, 142, 101, 836, 837, 838, 839, 840, 841, 842, 843, 844, 845, 846, 847, 848, 849, 850, 851, 852, 853, 854, 855, 856, 857] (by decide +kernel) (by decide +kernel)
set_option maxRecDepth 20000 in
theorem gL_law_X6_image : GoodIn wsL_law (wsV RL 124 RX6 yX6_image wsX6_image) := goodIn_app (goodIn_of _ (by decide +kernel)) ggL_law_X6_image
set_option maxRecDepth 20000 in
theorem ggL_law_X5_from : GoodIn wsL_law wsX5_from := goodIn_r _ [777, 27, 28, 15, 16, 17, 120, 121, 2, 122, 123, 124, 125, 126, 31, 513, 514, 515, 516, 32, 338, 339, 340, 14, 341, 37, 38, 39, 40, 41, 42, 43, 47, 48, 49, 50, 51, 52, 53, 342, 343, 344, 46, 345, 63, 346, 259, 260, 261, 823, 824, 825, 826, 827, 828, 829, 830, 831, 832, 833, 834, 835, 858, 859, 860, 861, 862, 863, 864, 865, 866, 867, 868, 869, 870, 871, 891] (by decide +kernel) (by decide +kernel)
set_option maxRecDepth 20000 in
theorem gL_law_X5_from : GoodIn wsL_law (wsV RL 125 RX5 yX5_from wsX5_from) := goodIn_app (goodIn_of _ (by decide +kernel)) ggL_law_X5_from
set_option maxRecDepth 20000 in
theorem ggL_law_X6_from : GoodIn wsL_law wsX6_from := goodIn_r _ [781, 100, 97, 98, 136, 137, 5, 138, 139, 140, 141, 142, 101, 525, 526, 527, 528, 836, 837, 838, 839, 840, 841, 842, 843, 844, 845, 846, 847, 848, 849, 850, 851, 852, 853, 854, 855, 856, 857] (by decide +kernel) (by decide +kernel)
set_option maxRecDepth 20000 in
theorem gL_law_X6_from : GoodIn wsL_law (wsV RL 128 RX6 yX6_from wsX6_from) := goodIn_app (goodIn_of _ (by decide +kernel)) ggL_law_X6_from
set_option maxRecDepth 20000 in
theorem ggL_law_X5_status : GoodIn wsL_law wsX5_status := goodIn_r _ [785, 31, 32, 33, 823, 824, 825, 826, 827, 828, 829, 830, 831, 832, 833, 834, 835] (by decide +kernel) (by decide +kernel)
set_option maxRecDepth 20000 in
theorem gL_law_X5_status : GoodIn wsL_law (wsV RL 129 RX5 yX5_status wsX5_status) := goodIn_app (goodIn_of _ (by decide +kernel)) ggL_law_X5_status
set_option maxRecDepth 20000 in
theorem ggL_law_X6_status : GoodIn wsL_law wsX6_status := goodIn_r _ [789, 467, 101, 136, 137, 5, 138, 139, 140, 141, 142, 836, 837, 838, 839, 840, 841, 842, 843, 844, 845, 846, 847, 848, 849, 850, 851, 852, 853, 854, 855, 856, 857] (by decide +kernel) (by decide +kernel)
set_option maxRecDepth 20000 in
theorem gL_law_X6_status : GoodIn wsL_law (wsV RL 132 RX6 yX6_status wsX6_status) := goodIn_app (goodIn_of _ (by decide +kernel)) ggL_law_X6_status
set_option maxRecDepth 20000 in
theorem ggL_law_X5_count : GoodIn wsL_law wsX5_count := goodIn_r _ [793, 120, 121, 2, 122, 123, 124, 125, 126, 31, 794, 795, 796, 797, 15, 119, 180, 393, 395, 691, 512, 26, 226, 823, 824, 825, 826, 827, 828, 829, 830, 831, 832, 833, 834, 835, 858, 859, 860, 861, 862, 863, 864, 865, 866, 867, 868, 869, 870, 871, 886, 887, 888, 889, 890] (by decide +kernel) (by decide +kernel)
set_option maxRecDepth 20000 in
theorem gL_law_X5_count : GoodIn wsL_law (wsV RL 133 RX5 yX5_count wsX5_count) := goodIn_app (goodIn_of _ (by decide +kernel)) ggL_law_X5_count
set_option maxRecDepth 20000 in
theorem ggL_law_X6_count : GoodIn wsL_law wsX6_count := goodIn_r _ [801, 802, 136, 137, 5, 138, 803, 804, 805, 806, 97, 237, 139, 140, 141, 142, 101, 836, 837, 838, 839, 840, 841, 842, 843, 844, 845, 846, 847, 848, 849, 850, 851, 852, 853, 854, 855, 856, 857] (by decide +kernel) (by decide +kernel)
set_option maxRecDepth 20000 in
theorem gL_law_X6_count : GoodIn wsL_law (wsV RL 136 RX6 yX6_count wsX6_count) := goodIn_app (goodIn_of _ (by decide +kernel)) ggL_law_X6_count
set_option maxRecDepth 20000 in
theorem ggL_law_X5_digest : GoodIn wsL_law wsX5_digest := goodIn_r _ [810, 811, 812, 15, 119, 533, 534, 691, 716, 717, 29, 30, 794, 795, 796, 2, 797, 180, 393, 395, 512, 26, 226, 535, 259, 260, 46, 261, 63, 202, 203, 204, 14, 205, 39, 823, 824, 825, 826, 827, 828, 829, 830, 831, 832, 833, 834, 835, 858, 859, 860, 861, 862, 863, 864, 865, 866, 867, 868, 869, 870, 871, 886, 887, 888, 889, 890, 891] (by decide +kernel) (by decide +kernel)
set_option maxRecDepth 20000 in
theorem gL_law_X5_digest : GoodIn wsL_law (wsV RL 137 RX5 yX5_digest wsX5_digest) := goodIn_app (goodIn_of _ (by decide +kernel)) ggL_law_X5_digest
set_option maxRecDepth 20000 in
theorem ggL_law_X6_digest : GoodIn wsL_law wsX6_digest := goodIn_r _ [816, 817, 818, 97, 757, 102, 803, 804, 805, 5, 806, 237, 143, 144, 145, 146, 819, 820, 821, 822, 836, 837, 838, 839, 840, 841, 842, 843, 844, 845, 846, 847, 848, 849, 850, 851, 852, 853, 854, 855, 856, 857] (by decide +kernel) (by decide +kernel)
set_option maxRecDepth 20000 in
theorem gL_law_X6_digest : GoodIn wsL_law (wsV RL 141 RX6 yX6_digest wsX6_digest) := goodIn_app (goodIn_of _ (by decide +kernel)) ggL_law_X6_digest
