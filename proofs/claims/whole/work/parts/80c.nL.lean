set_option maxRecDepth 20000 in
theorem ggL_law_X5_hire : GoodIn wsL_law wsX5_hire := goodIn_r _ [615, 22, 15, 397, 398, 2, 399, 120, 121, 122, 123, 124, 125, 126, 31, 400, 401, 402, 21, 403, 67, 68, 69, 70, 404, 71, 405, 72, 73, 406, 407, 408, 409, 74, 75, 410, 411, 81, 77, 79, 80, 78, 412, 413, 414, 14, 415, 37, 416, 259, 260, 46, 261, 63, 417, 418, 419, 420, 48, 421, 422, 60, 423, 424, 425, 426, 427, 428, 429, 430, 431, 432, 433, 434, 160, 161, 162, 435, 436, 437, 438, 439, 59, 61, 440, 441, 442, 443, 444, 445, 446, 447, 448, 449, 450, 451, 616, 457, 458, 459, 617, 618, 619, 620, 621, 622, 623, 624, 625, 626, 627, 628, 823, 824, 825, 826, 827, 828, 829, 830, 831, 832, 833, 834, 835, 872, 873, 874, 875, 876, 877, 878, 879, 880, 881, 882, 883, 884, 885, 858, 859, 860, 861, 862, 863, 864, 865, 866, 867, 868, 869, 870, 871, 891] (by decide +kernel) (by decide +kernel)
set_option maxRecDepth 20000 in
theorem gL_law_X5_hire : GoodIn wsL_law (wsV RL 80 RX5 yX5_hire wsX5_hire) := goodIn_app (goodIn_of _ (by decide +kernel)) ggL_law_X5_hire
set_option maxRecDepth 20000 in
theorem ggL_law_X6_hire : GoodIn wsL_law wsX6_hire := goodIn_r _ [632, 633, 586, 464, 465, 5, 466, 467, 135, 468, 469, 470, 136, 137, 138, 139, 140, 141, 142, 101, 634, 635, 636, 637, 103, 475, 476, 477, 478, 97, 479, 218, 219, 220, 221, 143, 144, 145, 146, 480, 481, 482, 483, 104, 108, 107, 105, 106, 484, 485, 486, 487, 488, 489, 490, 491, 492, 493, 494, 495, 496, 497, 498, 499, 500, 501, 502, 503, 638, 639, 640, 836, 837, 838, 839, 840, 841, 842, 843, 844, 845, 846, 847, 848, 849, 850, 851, 852, 853, 854, 855, 856, 857] (by decide +kernel) (by decide +kernel)
set_option maxRecDepth 20000 in
theorem gL_law_X6_hire : GoodIn wsL_law (wsV RL 83 RX6 yX6_hire wsX6_hire) := goodIn_app (goodIn_of _ (by decide +kernel)) ggL_law_X6_hire
set_option maxRecDepth 20000 in
theorem ggL_law_X5_dark : GoodIn wsL_law wsX5_dark := goodIn_r _ [644, 22, 15, 119, 557, 397, 398, 2, 399, 120, 121, 122, 123, 124, 125, 126, 31, 400, 401, 402, 21, 403, 67, 68, 69, 70, 404, 71, 405, 72, 73, 406, 407, 408, 409, 74, 75, 410, 411, 81, 77, 79, 80, 78, 412, 413, 414, 14, 415, 37, 416, 259, 260, 46, 261, 63, 417, 418, 419, 420, 48, 421, 422, 60, 423, 424, 425, 426, 427, 428, 429, 430, 431, 432, 433, 434, 160, 161, 162, 435, 436, 437, 438, 439, 59, 61, 440, 441, 442, 443, 444, 445, 446, 447, 448, 449, 450, 451, 535, 823, 824, 825, 826, 827, 828, 829, 830, 831, 832, 833, 834, 835, 858, 859, 860, 861, 862, 863, 864, 865, 866, 867, 868, 869, 870, 871, 872, 873, 874, 875, 876, 877, 878, 879, 880, 881, 882, 883, 884, 885, 891] (by decide +kernel) (by decide +kernel)
set_option maxRecDepth 20000 in
theorem gL_law_X5_dark : GoodIn wsL_law (wsV RL 84 RX5 yX5_dark wsX5_dark) := goodIn_app (goodIn_of _ (by decide +kernel)) ggL_law_X5_dark
set_option maxRecDepth 20000 in
theorem ggL_law_X6_dark : GoodIn wsL_law wsX6_dark := goodIn_r _ [648, 649, 106, 464, 465, 5, 466, 467, 135, 468, 469, 470, 136, 137, 138, 139, 140, 141, 142, 101, 471, 472, 473, 474, 475, 476, 477, 478, 97, 479, 103, 218, 219, 220, 221, 480, 481, 482, 483, 104, 108, 107, 105, 143, 144, 145, 146, 484, 485, 486, 487, 488, 489, 490, 491, 492, 493, 494, 495, 496, 497, 498, 499, 500, 501, 502, 503, 836, 837, 838, 839, 840, 841, 842, 843, 844, 845, 846, 847, 848, 849, 850, 851, 852, 853, 854, 855, 856, 857] (by decide +kernel) (by decide +kernel)
set_option maxRecDepth 20000 in
theorem gL_law_X6_dark : GoodIn wsL_law (wsV RL 87 RX6 yX6_dark wsX6_dark) := goodIn_app (goodIn_of _ (by decide +kernel)) ggL_law_X6_dark
set_option maxRecDepth 20000 in
theorem ggL_law_X5_waits : GoodIn wsL_law wsX5_waits := goodIn_r _ [653, 15, 22, 397, 398, 2, 399, 120, 121, 122, 190, 191, 192, 14, 193, 37, 123, 124, 125, 126, 31, 400, 401, 402, 21, 403, 67, 68, 69, 70, 404, 71, 405, 72, 73, 406, 407, 408, 409, 74, 75, 410, 411, 81, 77, 79, 80, 78, 412, 413, 414, 415, 416, 259, 260, 46, 261, 63, 417, 418, 419, 420, 48, 421, 422, 60, 423, 424, 425, 426, 427, 428, 429, 430, 431, 432, 433, 434, 160, 161, 162, 435, 436, 437, 438, 439, 59, 61, 440, 441, 442, 443, 444, 445, 446, 447, 448, 449, 450, 451, 654, 655, 656, 657, 624, 625, 626, 627, 628, 658, 659, 619, 660, 823, 824, 825, 826, 827, 828, 829, 830, 831, 832, 833, 834, 835, 858, 859, 860, 861, 862, 863, 864, 865, 866, 867, 868, 869, 870, 871, 872, 873, 874, 875, 876, 877, 878, 879, 880, 881, 882, 883, 884, 885, 891] (by decide +kernel) (by decide +kernel)
set_option maxRecDepth 20000 in
theorem gL_law_X5_waits : GoodIn wsL_law (wsV RL 88 RX5 yX5_waits wsX5_waits) := goodIn_app (goodIn_of _ (by decide +kernel)) ggL_law_X5_waits
set_option maxRecDepth 20000 in
theorem ggL_law_X6_waits : GoodIn wsL_law wsX6_waits := goodIn_r _ [664, 665, 464, 465, 5, 466, 467, 135, 468, 469, 470, 136, 137, 138, 210, 211, 212, 213, 143, 144, 145, 146, 97, 139, 140, 141, 142, 101, 484, 485, 486, 487, 634, 635, 636, 637, 103, 475, 476, 477, 478, 479, 218, 219, 220, 221, 480, 481, 482, 483, 104, 108, 107, 105, 106, 488, 489, 490, 491, 492, 493, 494, 495, 496, 497, 498, 499, 500, 501, 502, 503, 471, 472, 473, 474, 836, 837, 838, 839, 840, 841, 842, 843, 844, 845, 846, 847, 848, 849, 850, 851, 852, 853, 854, 855, 856, 857] (by decide +kernel) (by decide +kernel)
set_option maxRecDepth 20000 in
theorem gL_law_X6_waits : GoodIn wsL_law (wsV RL 91 RX6 yX6_waits wsX6_waits) := goodIn_app (goodIn_of _ (by decide +kernel)) ggL_law_X6_waits
set_option maxRecDepth 20000 in
theorem ggL_law_X5_share : GoodIn wsL_law wsX5_share := goodIn_r _ [669, 22, 15, 670, 671, 59, 60, 61, 672, 397, 398, 2, 399, 120, 121, 122, 591, 592, 593, 594, 31, 400, 401, 402, 21, 403, 67, 68, 69, 70, 404, 71, 405, 72, 73, 406, 407, 408, 409, 74, 75, 410, 411, 81, 77, 79, 80, 78, 412, 413, 414, 14, 415, 37, 416, 259, 260, 46, 261, 63, 417, 418, 419, 420, 48, 421, 422, 423, 424, 425, 426, 427, 428, 429, 430, 431, 432, 433, 434, 160, 161, 162, 435, 436, 437, 438, 439, 440, 441, 442, 443, 444, 445, 446, 447, 448, 449, 450, 451, 452, 453, 454, 455, 456, 457, 458, 459, 823, 824, 825, 826, 827, 828, 829, 830, 831, 832, 833, 834, 835, 872, 873, 874, 875, 876, 877, 878, 879, 880, 881, 882, 883, 884, 885, 858, 859, 860, 861, 862, 863, 864, 865, 866, 867, 868, 869, 870, 871, 891] (by decide +kernel) (by decide +kernel)
set_option maxRecDepth 20000 in
theorem gL_law_X5_share : GoodIn wsL_law (wsV RL 92 RX5 yX5_share wsX5_share) := goodIn_app (goodIn_of _ (by decide +kernel)) ggL_law_X5_share
set_option maxRecDepth 20000 in
theorem ggL_law_X6_share : GoodIn wsL_law wsX6_share := goodIn_r _ [676, 665, 103, 464, 465, 5, 466, 467, 135, 468, 469, 470, 136, 137, 138, 139, 140, 141, 142, 101, 475, 476, 477, 478, 97, 479, 218, 219, 220, 221, 480, 481, 482, 483, 104, 108, 107, 105, 106, 143, 144, 145, 146, 484, 485, 486, 487, 488, 489, 490, 491, 492, 493, 494, 495, 496, 497, 498, 499, 500, 501, 502, 503, 471, 472, 473, 474, 836, 837, 838, 839, 840, 841, 842, 843, 844, 845, 846, 847, 848, 849, 850, 851, 852, 853, 854, 855, 856, 857] (by decide +kernel) (by decide +kernel)
set_option maxRecDepth 20000 in
theorem gL_law_X6_share : GoodIn wsL_law (wsV RL 95 RX6 yX6_share wsX6_share) := goodIn_app (goodIn_of _ (by decide +kernel)) ggL_law_X6_share
set_option maxRecDepth 20000 in
theorem ggL_law_X5_key : GoodIn wsL_law wsX5_key := goodIn_r _ [680, 15, 120, 121, 2, 122, 190, 191, 192, 14, 193, 37, 123, 124, 125, 126, 31, 681, 418, 419, 420, 48, 421, 422, 60, 423, 424, 413, 414, 415, 425, 259, 260, 46, 261, 63, 682, 440, 441, 823, 824, 825, 826, 827, 828, 829, 830, 831, 832, 833, 834, 835, 858, 859, 860, 861, 862, 863, 864, 865, 866, 867, 868, 869, 870, 871, 891] (by decide +kernel) (by decide +kernel)
set_option maxRecDepth 20000 in
theorem gL_law_X5_key : GoodIn wsL_law (wsV RL 96 RX5 yX5_key wsX5_key) := goodIn_app (goodIn_of _ (by decide +kernel)) ggL_law_X5_key
set_option maxRecDepth 20000 in
theorem ggL_law_X6_key : GoodIn wsL_law wsX6_key := goodIn_r _ [686, 468, 469, 5, 470, 136, 137, 138, 210, 211, 212, 213, 143, 144, 145, 146, 97, 139, 140, 141, 142, 101, 488, 489, 490, 491, 218, 219, 220, 221, 492, 493, 494, 836, 837, 838, 839, 840, 841, 842, 843, 844, 845, 846, 847, 848, 849, 850, 851, 852, 853, 854, 855, 856, 857] (by decide +kernel) (by decide +kernel)
set_option maxRecDepth 20000 in
theorem gL_law_X6_key : GoodIn wsL_law (wsV RL 99 RX6 yX6_key wsX6_key) := goodIn_app (goodIn_of _ (by decide +kernel)) ggL_law_X6_key
set_option maxRecDepth 20000 in
theorem ggL_law_X5_reading : GoodIn wsL_law wsX5_reading := goodIn_r _ [690, 15, 691, 190, 191, 192, 14, 193, 37, 121, 2, 122, 120, 123, 124, 125, 126, 31, 151, 152, 153, 154, 33, 692, 693, 694, 695, 49, 42, 50, 159, 160, 161, 46, 162, 63, 823, 824, 825, 826, 827, 828, 829, 830, 831, 832, 833, 834, 835, 858, 859, 860, 861, 862, 863, 864, 865, 866, 867, 868, 869, 870, 871, 891] (by decide +kernel) (by decide +kernel)
set_option maxRecDepth 20000 in
theorem gL_law_X5_reading : GoodIn wsL_law (wsV RL 100 RX5 yX5_reading wsX5_reading) := goodIn_app (goodIn_of _ (by decide +kernel)) ggL_law_X5_reading
set_option maxRecDepth 20000 in
theorem ggL_law_X6_reading : GoodIn wsL_law wsX6_reading := goodIn_r _ [699, 649, 97, 210, 211, 212, 5, 213, 143, 144, 145, 146, 136, 137, 138, 139, 140, 141, 142, 101, 169, 170, 171, 172, 836, 837, 838, 839, 840, 841, 842, 843, 844, 845, 846, 847, 848, 849, 850, 851, 852, 853, 854, 855, 856, 857] (by decide +kernel) (by decide +kernel)
set_option maxRecDepth 20000 in
theorem gL_law_X6_reading : GoodIn wsL_law (wsV RL 103 RX6 yX6_reading wsX6_reading) := goodIn_app (goodIn_of _ (by decide +kernel)) ggL_law_X6_reading
set_option maxRecDepth 20000 in
theorem ggL_law_X5_forget : GoodIn wsL_law wsX5_forget := goodIn_r _ [703, 15, 691, 823, 824, 825, 826, 827, 828, 829, 830, 831, 832, 833, 834, 835, 858, 859, 860, 861, 862, 863, 864, 865, 866, 867, 868, 869, 870, 871] (by decide +kernel) (by decide +kernel)
set_option maxRecDepth 20000 in
theorem gL_law_X5_forget : GoodIn wsL_law (wsV RL 104 RX5 yX5_forget wsX5_forget) := goodIn_app (goodIn_of _ (by decide +kernel)) ggL_law_X5_forget
set_option maxRecDepth 20000 in
theorem ggL_law_X6_forget : GoodIn wsL_law wsX6_forget := goodIn_r _ [707, 97, 836, 837, 838, 839, 840, 841, 842, 843, 844, 845, 846, 847, 848, 849, 850, 851, 852, 853, 854, 855, 856, 857] (by decide +kernel) (by decide +kernel)
set_option maxRecDepth 20000 in
theorem gL_law_X6_forget : GoodIn wsL_law (wsV RL 107 RX6 yX6_forget wsX6_forget) := goodIn_app (goodIn_of _ (by decide +kernel)) ggL_law_X6_forget
set_option maxRecDepth 20000 in
theorem ggL_law_X5_leads : GoodIn wsL_law wsX5_leads := goodIn_r _ [711, 22, 15, 569, 570, 2, 571, 397, 398, 399, 120, 121, 122, 123, 124, 125, 126, 31, 400, 401, 402, 21, 403, 67, 68, 69, 70, 404, 71, 405, 72, 73, 406, 407, 408, 409, 74, 75, 410, 411, 81, 77, 79, 80, 78, 412, 413, 414, 14, 415, 37, 416, 259, 260, 46, 261, 63, 417, 418, 419, 420, 48, 421, 422, 60, 423, 424, 425, 426, 427, 428, 429, 430, 431, 432, 433, 434, 160, 161, 162, 435, 436, 437, 438, 439, 59, 61, 440, 441, 442, 443, 444, 445, 446, 447, 448, 449, 450, 451, 712, 713, 714, 715, 691, 556, 716, 717, 535, 823, 824, 825, 826, 827, 828, 829, 830, 831, 832, 833, 834, 835, 872, 873, 874, 875, 876, 877, 878, 879, 880, 881, 882, 883, 884, 885, 858, 859, 860, 861, 862, 863, 864, 865, 866, 867, 868, 869, 870, 871, 891] (by decide +kernel) (by decide +kernel)
set_option maxRecDepth 20000 in
theorem gL_law_X5_leads : GoodIn wsL_law (wsV RL 108 RX5 yX5_leads wsX5_leads) := goodIn_app (goodIn_of _ (by decide +kernel)) ggL_law_X5_leads
set_option maxRecDepth 20000 in
theorem ggL_law_X6_leads : GoodIn wsL_law wsX6_leads := goodIn_r _ [721, 467, 468, 469, 5, 470, 136, 137, 138, 139, 140, 141, 142, 101, 471, 472, 473, 474, 475, 476, 477, 478, 97, 479, 103, 218, 219, 220, 221, 480, 481, 482, 483, 104, 108, 107, 105, 106, 143, 144, 145, 146, 484, 485, 486, 487, 488, 489, 490, 491, 492, 493, 494, 495, 496, 497, 498, 499, 500, 501, 502, 503, 722, 723, 724, 725, 836, 837, 838, 839, 840, 841, 842, 843, 844, 845, 846, 847, 848, 849, 850, 851, 852, 853, 854, 855, 856, 857] (by decide +kernel) (by decide +kernel)
set_option maxRecDepth 20000 in
theorem gL_law_X6_leads : GoodIn wsL_law (wsV RL 111 RX6 yX6_leads wsX6_leads) := goodIn_app (goodIn_of _ (by decide +kernel)) ggL_law_X6_leads
