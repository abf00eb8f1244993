set_option maxRecDepth 20000 in
theorem ggL_law_X6_undo : GoodIn wsL_law wsX6_undo := goodIn_r _ [592, 23, 593, 15, 594, 595, 596, 22, 597, 82, 84, 162, 114, 115, 14, 116, 33, 34, 35, 39, 43, 47, 117, 118, 119, 38, 120, 53, 54, 121, 2, 122, 123, 124, 125, 126, 127, 128, 129, 130, 131, 132, 133, 42, 134, 58, 59, 60, 61, 62, 63, 64, 135, 136, 137, 46, 138, 69, 70, 71, 72, 73, 865, 866, 867, 868, 869, 870, 871, 872, 873, 893, 894, 887, 888, 889, 890, 891, 892, 905, 906, 907, 908, 909, 910, 911, 912, 913, 914, 915, 916, 917, 918] (by decide +kernel) (by decide +kernel)
set_option maxRecDepth 20000 in
theorem gL_law_X6_undo : GoodIn wsL_law (wsV RL 67 RX6 yX6_undo wsX6_undo) := goodIn_app (goodIn_of _ (by decide +kernel)) ggL_law_X6_undo
set_option maxRecDepth 20000 in
theorem ggL_law_X7_undo : GoodIn wsL_law wsX7_undo := goodIn_r _ [601, 181, 105, 103, 182, 183, 5, 184, 874, 875, 876, 877, 878, 879, 880, 881, 882, 883, 884, 885, 886] (by decide +kernel) (by decide +kernel)
set_option maxRecDepth 20000 in
theorem gL_law_X7_undo : GoodIn wsL_law (wsV RL 70 RX7 yX7_undo wsX7_undo) := goodIn_app (goodIn_of _ (by decide +kernel)) ggL_law_X7_undo
set_option maxRecDepth 20000 in
theorem ggL_law_X6_keep : GoodIn wsL_law wsX6_keep := goodIn_r _ [605, 18, 15, 19, 606, 607, 113, 114, 115, 14, 116, 33, 34, 35, 39, 43, 47, 117, 118, 119, 38, 120, 53, 54, 121, 2, 122, 123, 124, 125, 126, 127, 128, 129, 130, 131, 132, 133, 42, 134, 58, 59, 60, 61, 62, 63, 64, 135, 136, 137, 46, 138, 69, 70, 71, 72, 73, 865, 866, 867, 868, 869, 870, 871, 872, 873, 887, 888, 889, 890, 891, 892, 907, 908, 909, 910, 911, 912, 913, 905, 906, 914, 915, 916, 917, 918] (by decide +kernel) (by decide +kernel)
set_option maxRecDepth 20000 in
theorem gL_law_X6_keep : GoodIn wsL_law (wsV RL 71 RX6 yX6_keep wsX6_keep) := goodIn_app (goodIn_of _ (by decide +kernel)) ggL_law_X6_keep
set_option maxRecDepth 20000 in
theorem ggL_law_X7_keep : GoodIn wsL_law wsX7_keep := goodIn_r _ [611, 103, 106, 612, 182, 183, 5, 184, 874, 875, 876, 877, 878, 879, 880, 881, 882, 883, 884, 885, 886] (by decide +kernel) (by decide +kernel)
set_option maxRecDepth 20000 in
theorem gL_law_X7_keep : GoodIn wsL_law (wsV RL 74 RX7 yX7_keep wsX7_keep) := goodIn_app (goodIn_of _ (by decide +kernel)) ggL_law_X7_keep
set_option maxRecDepth 20000 in
theorem ggL_law_X6_restore : GoodIn wsL_law wsX6_restore := goodIn_r _ [616, 19, 16, 15, 18, 606, 607, 113, 114, 115, 14, 116, 33, 34, 35, 39, 43, 47, 117, 118, 119, 38, 120, 53, 54, 121, 2, 122, 123, 124, 125, 126, 127, 128, 129, 130, 131, 132, 133, 42, 134, 58, 59, 60, 61, 62, 63, 64, 135, 136, 137, 46, 138, 69, 70, 71, 72, 73, 150, 151, 152, 153, 23, 154, 155, 156, 22, 157, 82, 84, 158, 159, 160, 161, 162, 865, 866, 867, 868, 869, 870, 871, 872, 873, 887, 888, 889, 890, 891, 892, 907, 908, 909, 910, 911, 912, 913, 905, 906, 914, 915, 916, 917, 918, 893, 894] (by decide +kernel) (by decide +kernel)
set_option maxRecDepth 20000 in
theorem gL_law_X6_restore : GoodIn wsL_law (wsV RL 75 RX6 yX6_restore wsX6_restore) := goodIn_app (goodIn_of _ (by decide +kernel)) ggL_law_X6_restore
set_option maxRecDepth 20000 in
theorem ggL_law_X7_restore : GoodIn wsL_law wsX7_restore := goodIn_r _ [620, 612, 106, 103, 173, 174, 175, 5, 176, 177, 178, 179, 180, 181, 105, 182, 183, 184, 874, 875, 876, 877, 878, 879, 880, 881, 882, 883, 884, 885, 886] (by decide +kernel) (by decide +kernel)
set_option maxRecDepth 20000 in
theorem gL_law_X7_restore : GoodIn wsL_law (wsV RL 78 RX7 yX7_restore wsX7_restore) := goodIn_app (goodIn_of _ (by decide +kernel)) ggL_law_X7_restore
set_option maxRecDepth 20000 in
theorem ggL_law_X6_lamp : GoodIn wsL_law wsX6_lamp := goodIn_r _ [624, 15, 625, 626, 627, 14, 628, 43, 260, 629, 630, 631, 632, 382, 633, 634, 635, 42, 636, 58, 148, 2, 149, 637, 638, 639, 640, 62, 387, 388, 389, 390, 64, 641, 642, 215, 216, 217, 213, 214, 865, 866, 867, 868, 869, 870, 871, 872, 873, 887, 888, 889, 890, 891, 892, 907, 908, 909, 910, 911, 912, 913] (by decide +kernel) (by decide +kernel)
set_option maxRecDepth 20000 in
theorem gL_law_X6_lamp : GoodIn wsL_law (wsV RL 79 RX6 yX6_lamp wsX6_lamp) := goodIn_app (goodIn_of _ (by decide +kernel)) ggL_law_X6_lamp
set_option maxRecDepth 20000 in
theorem ggL_law_X7_lamp : GoodIn wsL_law wsX7_lamp := goodIn_r _ [646, 647, 648, 649, 5, 650, 103, 170, 171, 172, 240, 241, 242, 243, 651, 652, 653, 654, 431, 432, 433, 434, 874, 875, 876, 877, 878, 879, 880, 881, 882, 883, 884, 885, 886] (by decide +kernel) (by decide +kernel)
set_option maxRecDepth 20000 in
theorem gL_law_X7_lamp : GoodIn wsL_law (wsV RL 82 RX7 yX7_lamp wsX7_lamp) := goodIn_app (goodIn_of _ (by decide +kernel)) ggL_law_X7_lamp
set_option maxRecDepth 20000 in
theorem ggL_law_X6_rack : GoodIn wsL_law wsX6_rack := goodIn_r _ [658, 15, 659, 660, 661, 14, 662, 47, 293, 314, 315, 198, 2, 199, 147, 148, 149, 663, 664, 665, 666, 193, 43, 200, 201, 387, 388, 389, 42, 390, 64, 641, 642, 383, 384, 385, 46, 386, 70, 393, 394, 395, 396, 34, 35, 362, 211, 125, 212, 667, 374, 375, 376, 71, 73, 865, 866, 867, 868, 869, 870, 871, 872, 873, 887, 888, 889, 890, 891, 892, 914, 915, 916, 917, 918, 907, 908, 909, 910, 911, 912, 913] (by decide +kernel) (by decide +kernel)
set_option maxRecDepth 20000 in
theorem gL_law_X6_rack : GoodIn wsL_law (wsV RL 83 RX6 yX6_rack wsX6_rack) := goodIn_app (goodIn_of _ (by decide +kernel)) ggL_law_X6_rack
set_option maxRecDepth 20000 in
theorem ggL_law_X7_rack : GoodIn wsL_law wsX7_rack := goodIn_r _ [671, 230, 231, 5, 232, 170, 171, 172, 302, 303, 304, 305, 103, 672, 673, 674, 675, 240, 241, 242, 243, 431, 432, 433, 434, 439, 440, 441, 442, 874, 875, 876, 877, 878, 879, 880, 881, 882, 883, 884, 885, 886] (by decide +kernel) (by decide +kernel)
set_option maxRecDepth 20000 in
theorem gL_law_X7_rack : GoodIn wsL_law (wsV RL 86 RX7 yX7_rack wsX7_rack) := goodIn_app (goodIn_of _ (by decide +kernel)) ggL_law_X7_rack
set_option maxRecDepth 20000 in
theorem ggL_law_X6_at : GoodIn wsL_law wsX6_at := goodIn_r _ [679, 15, 680, 681, 682, 195, 2, 196, 197, 198, 199, 147, 148, 149, 683, 200, 201, 865, 866, 867, 868, 869, 870, 871, 872, 873, 887, 888, 889, 890, 891, 892, 914, 915, 916, 917, 918] (by decide +kernel) (by decide +kernel)
set_option maxRecDepth 20000 in
theorem gL_law_X6_at : GoodIn wsL_law (wsV RL 87 RX6 yX6_at wsX6_at) := goodIn_app (goodIn_of _ (by decide +kernel)) ggL_law_X6_at
set_option maxRecDepth 20000 in
theorem ggL_law_X7_at : GoodIn wsL_law wsX7_at := goodIn_r _ [687, 230, 231, 5, 232, 170, 171, 172, 233, 234, 235, 236, 237, 238, 239, 103, 240, 241, 242, 243, 874, 875, 876, 877, 878, 879, 880, 881, 882, 883, 884, 885, 886] (by decide +kernel) (by decide +kernel)
set_option maxRecDepth 20000 in
theorem gL_law_X7_at : GoodIn wsL_law (wsV RL 90 RX7 yX7_at wsX7_at) := goodIn_app (goodIn_of _ (by decide +kernel)) ggL_law_X7_at
set_option maxRecDepth 20000 in
theorem ggL_law_X6_batch : GoodIn wsL_law wsX6_batch := goodIn_r _ [691, 15, 692, 693, 694, 14, 695, 43, 39, 143, 144, 145, 2, 146, 147, 148, 149, 696, 697, 698, 42, 699, 58, 700, 701, 702, 703, 59, 704, 388, 389, 390, 64, 641, 642, 705, 706, 707, 708, 709, 638, 639, 640, 62, 710, 711, 712, 713, 714, 715, 716, 717, 718, 719, 720, 721, 722, 865, 866, 867, 868, 869, 870, 871, 872, 873, 887, 888, 889, 890, 891, 892, 905, 906, 907, 908, 909, 910, 911, 912, 913] (by decide +kernel) (by decide +kernel)
set_option maxRecDepth 20000 in
theorem gL_law_X6_batch : GoodIn wsL_law (wsV RL 91 RX6 yX6_batch wsX6_batch) := goodIn_app (goodIn_of _ (by decide +kernel)) ggL_law_X6_batch
