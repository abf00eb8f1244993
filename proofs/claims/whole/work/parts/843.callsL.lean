set_option maxRecDepth 20000 in
theorem ggL_law_X7_batch : GoodIn wsL_law wsX7_batch := goodIn_r _ [726, 103, 167, 168, 5, 169, 170, 171, 172, 727, 728, 729, 730, 431, 432, 433, 434, 240, 241, 242, 243, 651, 652, 653, 654, 731, 732, 733, 734, 735, 736, 737, 738, 874, 875, 876, 877, 878, 879, 880, 881, 882, 883, 884, 885, 886] (by decide +kernel) (by decide +kernel)
set_option maxRecDepth 20000 in
theorem gL_law_X7_batch : GoodIn wsL_law (wsV RL 94 RX7 yX7_batch wsX7_batch) := goodIn_app (goodIn_of _ (by decide +kernel)) ggL_law_X7_batch
set_option maxRecDepth 20000 in
theorem ggL_law_X6_lasted : GoodIn wsL_law wsX6_lasted := goodIn_r _ [742, 743, 15, 606, 744, 145, 2, 146, 147, 148, 149, 745, 746, 747, 42, 748, 58, 59, 709, 638, 639, 640, 62, 641, 642, 865, 866, 867, 868, 869, 870, 871, 872, 873, 887, 888, 889, 890, 891, 892, 907, 908, 909, 910, 911, 912, 913] (by decide +kernel) (by decide +kernel)
set_option maxRecDepth 20000 in
theorem gL_law_X6_lasted : GoodIn wsL_law (wsV RL 95 RX6 yX6_lasted wsX6_lasted) := goodIn_app (goodIn_of _ (by decide +kernel)) ggL_law_X6_lasted
set_option maxRecDepth 20000 in
theorem ggL_law_X7_lasted : GoodIn wsL_law wsX7_lasted := goodIn_r _ [752, 418, 167, 168, 5, 169, 170, 171, 172, 727, 728, 729, 730, 103, 431, 432, 433, 434, 240, 241, 242, 243, 651, 652, 653, 654, 874, 875, 876, 877, 878, 879, 880, 881, 882, 883, 884, 885, 886] (by decide +kernel) (by decide +kernel)
set_option maxRecDepth 20000 in
theorem gL_law_X7_lasted : GoodIn wsL_law (wsV RL 98 RX7 yX7_lasted wsX7_lasted) := goodIn_app (goodIn_of _ (by decide +kernel)) ggL_law_X7_lasted
set_option maxRecDepth 20000 in
theorem ggL_law_X6_ended : GoodIn wsL_law wsX6_ended := goodIn_r _ [756, 15, 606, 757, 758, 759, 42, 760, 58, 704, 388, 389, 390, 64, 761, 762, 763, 764, 641, 2, 642, 865, 866, 867, 868, 869, 870, 871, 872, 873, 887, 888, 889, 890, 891, 892, 907, 908, 909, 910, 911, 912, 913] (by decide +kernel) (by decide +kernel)
set_option maxRecDepth 20000 in
theorem gL_law_X6_ended : GoodIn wsL_law (wsV RL 99 RX6 yX6_ended wsX6_ended) := goodIn_app (goodIn_of _ (by decide +kernel)) ggL_law_X6_ended
set_option maxRecDepth 20000 in
theorem ggL_law_X7_ended : GoodIn wsL_law wsX7_ended := goodIn_r _ [768, 103, 431, 432, 433, 5, 434, 240, 241, 242, 243, 769, 770, 771, 772, 874, 875, 876, 877, 878, 879, 880, 881, 882, 883, 884, 885, 886] (by decide +kernel) (by decide +kernel)
set_option maxRecDepth 20000 in
theorem gL_law_X7_ended : GoodIn wsL_law (wsV RL 102 RX7 yX7_ended wsX7_ended) := goodIn_app (goodIn_of _ (by decide +kernel)) ggL_law_X7_ended
set_option maxRecDepth 20000 in
theorem ggL_law_X6_lasts : GoodIn wsL_law wsX6_lasts := goodIn_r _ [776, 15, 606, 777, 778, 634, 635, 42, 636, 58, 148, 2, 149, 147, 779, 388, 389, 390, 64, 780, 391, 392, 781, 394, 395, 14, 396, 34, 35, 362, 211, 125, 212, 782, 398, 399, 400, 401, 61, 62, 865, 866, 867, 868, 869, 870, 871, 872, 873, 887, 888, 889, 890, 891, 892, 907, 908, 909, 910, 911, 912, 913] (by decide +kernel) (by decide +kernel)
set_option maxRecDepth 20000 in
theorem gL_law_X6_lasts : GoodIn wsL_law (wsV RL 103 RX6 yX6_lasts wsX6_lasts) := goodIn_app (goodIn_of _ (by decide +kernel)) ggL_law_X6_lasts
set_option maxRecDepth 20000 in
theorem ggL_law_X7_lasts : GoodIn wsL_law wsX7_lasts := goodIn_r _ [786, 647, 648, 649, 5, 650, 103, 170, 171, 172, 431, 432, 433, 434, 240, 241, 242, 243, 435, 436, 437, 438, 439, 440, 441, 442, 874, 875, 876, 877, 878, 879, 880, 881, 882, 883, 884, 885, 886] (by decide +kernel) (by decide +kernel)
set_option maxRecDepth 20000 in
theorem gL_law_X7_lasts : GoodIn wsL_law (wsV RL 106 RX7 yX7_lasts wsX7_lasts) := goodIn_app (goodIn_of _ (by decide +kernel)) ggL_law_X7_lasts
set_option maxRecDepth 20000 in
theorem ggL_law_X6_reason : GoodIn wsL_law wsX6_reason := goodIn_r _ [790, 15, 606, 778, 634, 635, 42, 636, 58, 148, 2, 149, 791, 792, 793, 14, 794, 43, 260, 47, 387, 388, 389, 390, 64, 383, 384, 385, 46, 386, 70, 865, 866, 867, 868, 869, 870, 871, 872, 873, 887, 888, 889, 890, 891, 892, 907, 908, 909, 910, 911, 912, 913, 914, 915, 916, 917, 918] (by decide +kernel) (by decide +kernel)
set_option maxRecDepth 20000 in
theorem gL_law_X6_reason : GoodIn wsL_law (wsV RL 107 RX6 yX6_reason wsX6_reason) := goodIn_app (goodIn_of _ (by decide +kernel)) ggL_law_X6_reason
set_option maxRecDepth 20000 in
theorem ggL_law_X7_reason : GoodIn wsL_law wsX7_reason := goodIn_r _ [798, 647, 648, 649, 5, 650, 103, 170, 171, 172, 431, 432, 433, 434, 240, 241, 242, 243, 427, 428, 429, 430, 302, 303, 304, 305, 874, 875, 876, 877, 878, 879, 880, 881, 882, 883, 884, 885, 886] (by decide +kernel) (by decide +kernel)
set_option maxRecDepth 20000 in
theorem gL_law_X7_reason : GoodIn wsL_law (wsV RL 110 RX7 yX7_reason wsX7_reason) := goodIn_app (goodIn_of _ (by decide +kernel)) ggL_law_X7_reason
set_option maxRecDepth 20000 in
theorem ggL_law_X6_next : GoodIn wsL_law wsX6_next := goodIn_r _ [802, 17, 15, 606, 803, 804, 147, 148, 2, 149, 113, 114, 115, 14, 116, 33, 34, 35, 39, 43, 47, 117, 118, 119, 38, 120, 53, 54, 121, 122, 123, 124, 125, 126, 127, 128, 129, 130, 131, 132, 133, 42, 134, 58, 59, 60, 61, 62, 63, 64, 135, 136, 137, 46, 138, 69, 70, 71, 72, 73, 805, 355, 356, 357, 358, 359, 360, 361, 362, 211, 212, 363, 364, 365, 366, 367, 368, 369, 370, 371, 372, 373, 374, 375, 376, 377, 378, 379, 380, 193, 293, 381, 382, 383, 384, 385, 386, 200, 201, 387, 388, 389, 390, 391, 392, 393, 394, 395, 396, 397, 398, 399, 400, 401, 402, 403, 404, 405, 406, 407, 408, 409, 806, 807, 808, 809, 865, 866, 867, 868, 869, 870, 871, 872, 873, 887, 888, 889, 890, 891, 892, 907, 908, 909, 910, 911, 912, 913, 905, 906, 914, 915, 916, 917, 918] (by decide +kernel) (by decide +kernel)
set_option maxRecDepth 20000 in
theorem gL_law_X6_next : GoodIn wsL_law (wsV RL 111 RX6 yX6_next wsX6_next) := goodIn_app (goodIn_of _ (by decide +kernel)) ggL_law_X6_next
set_option maxRecDepth 20000 in
theorem ggL_law_X7_next : GoodIn wsL_law wsX7_next := goodIn_r _ [813, 103, 104, 170, 171, 5, 172, 182, 183, 184, 423, 424, 425, 426, 427, 428, 429, 430, 431, 432, 433, 434, 240, 241, 242, 243, 302, 303, 304, 305, 248, 249, 250, 251, 435, 436, 437, 438, 439, 440, 441, 442, 814, 815, 816, 817, 874, 875, 876, 877, 878, 879, 880, 881, 882, 883, 884, 885, 886] (by decide +kernel) (by decide +kernel)
set_option maxRecDepth 20000 in
theorem gL_law_X7_next : GoodIn wsL_law (wsV RL 114 RX7 yX7_next wsX7_next) := goodIn_app (goodIn_of _ (by decide +kernel)) ggL_law_X7_next
set_option maxRecDepth 20000 in
theorem ggL_law_X6_count : GoodIn wsL_law wsX6_count := goodIn_r _ [821, 23, 593, 27, 822, 15, 823, 824, 825, 14, 826, 33, 43, 194, 632, 631, 34, 35, 827, 828, 829, 42, 830, 58, 60, 641, 2, 642, 831, 832, 833, 834, 835, 792, 793, 794, 260, 47, 387, 388, 389, 390, 64, 383, 384, 385, 46, 386, 70, 836, 837, 838, 839, 704, 840, 841, 842, 843, 215, 216, 217, 213, 214, 844, 845, 846, 847, 848, 124, 125, 126, 865, 866, 867, 868, 869, 870, 871, 872, 873, 893, 894, 895, 896, 897, 898, 899, 900, 901, 902, 903, 904, 887, 888, 889, 890, 891, 892, 907, 908, 909, 910, 911, 912, 913, 914, 915, 916, 917, 918] (by decide +kernel) (by decide +kernel)
set_option maxRecDepth 20000 in
theorem gL_law_X6_count : GoodIn wsL_law (wsV RL 115 RX6 yX6_count wsX6_count) := goodIn_app (goodIn_of _ (by decide +kernel)) ggL_law_X6_count
set_option maxRecDepth 20000 in
theorem ggL_law_X7_count : GoodIn wsL_law wsX7_count := goodIn_r _ [852, 103, 181, 455, 672, 673, 674, 5, 675, 240, 241, 242, 243, 431, 432, 433, 434, 853, 854, 855, 856, 427, 428, 429, 430, 302, 303, 304, 305, 857, 858, 859, 860, 861, 862, 863, 864, 874, 875, 876, 877, 878, 879, 880, 881, 882, 883, 884, 885, 886] (by decide +kernel) (by decide +kernel)
set_option maxRecDepth 20000 in
theorem gL_law_X7_count : GoodIn wsL_law (wsV RL 118 RX7 yX7_count wsX7_count) := goodIn_app (goodIn_of _ (by decide +kernel)) ggL_law_X7_count
