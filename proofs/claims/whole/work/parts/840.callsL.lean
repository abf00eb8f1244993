set_option maxRecDepth 20000 in
theorem ggL_law_X6_init : GoodIn wsL_law wsX6_init := goodIn_r _ [8, 9, 10, 11, 12, 13, 14, 15, 16, 17, 18, 19, 20, 21, 22, 23, 24, 25, 26, 27, 28, 29, 30, 31, 32, 33, 34, 35, 36, 37, 38, 39, 40, 41, 42, 43, 44, 45, 46, 47, 48, 49, 50, 51, 52, 53, 54, 55, 56, 57, 58, 59, 60, 61, 62, 63, 64, 65, 66, 67, 68, 69, 70, 71, 72, 73, 74, 75, 76, 77, 78, 79, 80, 81, 82, 83, 84, 85, 86, 87, 88, 89, 90, 91, 92, 93, 94, 95, 96, 97, 98, 887, 888, 889, 890, 891, 892, 865, 866, 867, 868, 869, 870, 871, 872, 873, 893, 894, 895, 896, 897, 898, 899, 900, 901, 902, 903, 904, 905, 906, 907, 908, 909, 910, 911, 912, 913, 914, 915, 916, 917, 918] (by decide +kernel) (by decide +kernel)
set_option maxRecDepth 20000 in
theorem gL_law_X6_init : GoodIn wsL_law (wsX6_init) := ggL_law_X6_init
set_option maxRecDepth 20000 in
theorem ggL_law_X7_init : GoodIn wsL_law wsX7_init := goodIn_r _ [101, 102, 10, 11, 52, 103, 104, 105, 106, 107, 108, 874, 875, 876, 877, 878, 879, 880, 881, 882, 883, 884, 885, 886] (by decide +kernel) (by decide +kernel)
set_option maxRecDepth 20000 in
theorem gL_law_X7_init : GoodIn wsL_law (wsX7_init) := ggL_law_X7_init
set_option maxRecDepth 20000 in
theorem ggL_law_X6_setBatch : GoodIn wsL_law wsX6_setBatch := goodIn_r _ [112, 16, 15, 113, 114, 115, 14, 116, 33, 34, 35, 39, 43, 47, 117, 118, 119, 38, 120, 53, 54, 121, 2, 122, 123, 124, 125, 126, 127, 128, 129, 130, 131, 132, 133, 42, 134, 58, 59, 60, 61, 62, 63, 64, 135, 136, 137, 46, 138, 69, 70, 71, 72, 73, 139, 140, 141, 142, 143, 144, 145, 146, 147, 148, 149, 150, 151, 152, 153, 23, 154, 155, 156, 22, 157, 82, 84, 158, 159, 160, 161, 162, 865, 866, 867, 868, 869, 870, 871, 872, 873, 887, 888, 889, 890, 891, 892, 905, 906, 907, 908, 909, 910, 911, 912, 913, 914, 915, 916, 917, 918, 893, 894] (by decide +kernel) (by decide +kernel)
set_option maxRecDepth 20000 in
theorem gL_law_X6_setBatch : GoodIn wsL_law (wsV RL 13 RX6 yX6_setBatch wsX6_setBatch) := goodIn_app (goodIn_of _ (by decide +kernel)) ggL_law_X6_setBatch
set_option maxRecDepth 20000 in
theorem ggL_law_X7_setBatch : GoodIn wsL_law wsX7_setBatch := goodIn_r _ [166, 103, 167, 168, 5, 169, 170, 171, 172, 173, 174, 175, 176, 177, 178, 179, 180, 181, 105, 182, 183, 184, 874, 875, 876, 877, 878, 879, 880, 881, 882, 883, 884, 885, 886] (by decide +kernel) (by decide +kernel)
set_option maxRecDepth 20000 in
theorem gL_law_X7_setBatch : GoodIn wsL_law (wsV RL 17 RX7 yX7_setBatch wsX7_setBatch) := goodIn_app (goodIn_of _ (by decide +kernel)) ggL_law_X7_setBatch
set_option maxRecDepth 20000 in
theorem ggL_law_X6_put : GoodIn wsL_law wsX6_put := goodIn_r _ [188, 16, 15, 113, 114, 115, 14, 116, 33, 34, 35, 39, 43, 47, 117, 118, 119, 38, 120, 53, 54, 121, 2, 122, 123, 124, 125, 126, 127, 128, 129, 130, 131, 132, 133, 42, 134, 58, 59, 60, 61, 62, 63, 64, 135, 136, 137, 46, 138, 69, 70, 71, 72, 73, 189, 190, 191, 192, 193, 194, 195, 196, 197, 198, 199, 147, 148, 149, 145, 146, 200, 201, 202, 203, 204, 205, 206, 207, 208, 209, 210, 211, 212, 213, 214, 215, 216, 217, 218, 219, 220, 221, 150, 151, 152, 153, 23, 154, 155, 156, 22, 157, 82, 84, 158, 159, 160, 161, 162, 865, 866, 867, 868, 869, 870, 871, 872, 873, 887, 888, 889, 890, 891, 892, 905, 906, 907, 908, 909, 910, 911, 912, 913, 914, 915, 916, 917, 918, 893, 894] (by decide +kernel) (by decide +kernel)
set_option maxRecDepth 20000 in
theorem gL_law_X6_put : GoodIn wsL_law (wsV RL 18 RX6 yX6_put wsX6_put) := goodIn_app (goodIn_of _ (by decide +kernel)) ggL_law_X6_put
set_option maxRecDepth 20000 in
theorem ggL_law_X7_put : GoodIn wsL_law wsX7_put := goodIn_r _ [225, 226, 227, 228, 5, 229, 103, 230, 231, 232, 170, 171, 172, 233, 234, 235, 167, 168, 169, 236, 237, 238, 239, 240, 241, 242, 243, 173, 174, 175, 176, 177, 178, 179, 180, 181, 105, 182, 183, 184, 244, 245, 246, 247, 248, 249, 250, 251, 874, 875, 876, 877, 878, 879, 880, 881, 882, 883, 884, 885, 886] (by decide +kernel) (by decide +kernel)
set_option maxRecDepth 20000 in
theorem gL_law_X7_put : GoodIn wsL_law (wsV RL 21 RX7 yX7_put wsX7_put) := goodIn_app (goodIn_of _ (by decide +kernel)) ggL_law_X7_put
set_option maxRecDepth 20000 in
theorem ggL_law_X6_takeOut : GoodIn wsL_law wsX6_takeOut := goodIn_r _ [255, 16, 15, 113, 114, 115, 14, 116, 33, 34, 35, 39, 43, 47, 117, 118, 119, 38, 120, 53, 54, 121, 2, 122, 123, 124, 125, 126, 127, 128, 129, 130, 131, 132, 133, 42, 134, 58, 59, 60, 61, 62, 63, 64, 135, 136, 137, 46, 138, 69, 70, 71, 72, 73, 256, 257, 258, 259, 193, 260, 195, 196, 197, 198, 199, 147, 148, 149, 200, 201, 150, 151, 152, 153, 23, 154, 155, 156, 22, 157, 82, 84, 158, 159, 160, 161, 162, 865, 866, 867, 868, 869, 870, 871, 872, 873, 887, 888, 889, 890, 891, 892, 905, 906, 907, 908, 909, 910, 911, 912, 913, 914, 915, 916, 917, 918, 893, 894] (by decide +kernel) (by decide +kernel)
set_option maxRecDepth 20000 in
theorem gL_law_X6_takeOut : GoodIn wsL_law (wsV RL 22 RX6 yX6_takeOut wsX6_takeOut) := goodIn_app (goodIn_of _ (by decide +kernel)) ggL_law_X6_takeOut
set_option maxRecDepth 20000 in
theorem ggL_law_X7_takeOut : GoodIn wsL_law wsX7_takeOut := goodIn_r _ [264, 230, 231, 5, 232, 170, 171, 172, 233, 234, 235, 236, 237, 238, 239, 103, 240, 241, 242, 243, 173, 174, 175, 176, 177, 178, 179, 180, 181, 105, 182, 183, 184, 265, 266, 267, 268, 248, 249, 250, 251, 874, 875, 876, 877, 878, 879, 880, 881, 882, 883, 884, 885, 886] (by decide +kernel) (by decide +kernel)
set_option maxRecDepth 20000 in
theorem gL_law_X7_takeOut : GoodIn wsL_law (wsV RL 26 RX7 yX7_takeOut wsX7_takeOut) := goodIn_app (goodIn_of _ (by decide +kernel)) ggL_law_X7_takeOut
set_option maxRecDepth 20000 in
theorem ggL_law_X6_swap : GoodIn wsL_law wsX6_swap := goodIn_r _ [272, 16, 15, 113, 114, 115, 14, 116, 33, 34, 35, 39, 43, 47, 117, 118, 119, 38, 120, 53, 54, 121, 2, 122, 123, 124, 125, 126, 127, 128, 129, 130, 131, 132, 133, 42, 134, 58, 59, 60, 61, 62, 63, 64, 135, 136, 137, 46, 138, 69, 70, 71, 72, 73, 273, 274, 275, 276, 193, 195, 196, 197, 198, 199, 147, 148, 149, 200, 201, 277, 278, 279, 280, 260, 150, 151, 152, 153, 23, 154, 155, 156, 22, 157, 82, 84, 158, 159, 160, 161, 162, 865, 866, 867, 868, 869, 870, 871, 872, 873, 887, 888, 889, 890, 891, 892, 905, 906, 907, 908, 909, 910, 911, 912, 913, 914, 915, 916, 917, 918, 893, 894] (by decide +kernel) (by decide +kernel)
set_option maxRecDepth 20000 in
theorem gL_law_X6_swap : GoodIn wsL_law (wsV RL 27 RX6 yX6_swap wsX6_swap) := goodIn_app (goodIn_of _ (by decide +kernel)) ggL_law_X6_swap
set_option maxRecDepth 20000 in
theorem ggL_law_X7_swap : GoodIn wsL_law wsX7_swap := goodIn_r _ [284, 230, 231, 5, 232, 170, 171, 172, 233, 234, 235, 236, 237, 238, 239, 103, 240, 241, 242, 243, 173, 174, 175, 176, 177, 178, 179, 180, 181, 105, 182, 183, 184, 265, 266, 267, 268, 248, 249, 250, 251, 874, 875, 876, 877, 878, 879, 880, 881, 882, 883, 884, 885, 886] (by decide +kernel) (by decide +kernel)
set_option maxRecDepth 20000 in
theorem gL_law_X7_swap : GoodIn wsL_law (wsV RL 31 RX7 yX7_swap wsX7_swap) := goodIn_app (goodIn_of _ (by decide +kernel)) ggL_law_X7_swap
set_option maxRecDepth 20000 in
theorem ggL_law_X6_setVolts : GoodIn wsL_law wsX6_setVolts := goodIn_r _ [288, 16, 15, 113, 114, 115, 14, 116, 33, 34, 35, 39, 43, 47, 117, 118, 119, 38, 120, 53, 54, 121, 2, 122, 123, 124, 125, 126, 127, 128, 129, 130, 131, 132, 133, 42, 134, 58, 59, 60, 61, 62, 63, 64, 135, 136, 137, 46, 138, 69, 70, 71, 72, 73, 289, 290, 291, 292, 293, 198, 199, 147, 148, 149, 150, 151, 152, 153, 23, 154, 155, 156, 22, 157, 82, 84, 158, 159, 160, 161, 162, 865, 866, 867, 868, 869, 870, 871, 872, 873, 887, 888, 889, 890, 891, 892, 905, 906, 907, 908, 909, 910, 911, 912, 913, 914, 915, 916, 917, 918, 893, 894] (by decide +kernel) (by decide +kernel)
set_option maxRecDepth 20000 in
theorem gL_law_X6_setVolts : GoodIn wsL_law (wsV RL 32 RX6 yX6_setVolts wsX6_setVolts) := goodIn_app (goodIn_of _ (by decide +kernel)) ggL_law_X6_setVolts
set_option maxRecDepth 20000 in
theorem ggL_law_X7_setVolts : GoodIn wsL_law wsX7_setVolts := goodIn_r _ [297, 103, 298, 299, 300, 5, 301, 230, 231, 232, 170, 171, 172, 302, 303, 304, 305, 173, 174, 175, 176, 177, 178, 179, 180, 181, 105, 182, 183, 184, 874, 875, 876, 877, 878, 879, 880, 881, 882, 883, 884, 885, 886] (by decide +kernel) (by decide +kernel)
set_option maxRecDepth 20000 in
theorem gL_law_X7_setVolts : GoodIn wsL_law (wsV RL 35 RX7 yX7_setVolts wsX7_setVolts) := goodIn_app (goodIn_of _ (by decide +kernel)) ggL_law_X7_setVolts
set_option maxRecDepth 20000 in
theorem ggL_law_X6_setSteps : GoodIn wsL_law wsX6_setSteps := goodIn_r _ [309, 16, 15, 113, 114, 115, 14, 116, 33, 34, 35, 39, 43, 47, 117, 118, 119, 38, 120, 53, 54, 121, 2, 122, 123, 124, 125, 126, 127, 128, 129, 130, 131, 132, 133, 42, 134, 58, 59, 60, 61, 62, 63, 64, 135, 136, 137, 46, 138, 69, 70, 71, 72, 73, 310, 311, 312, 313, 314, 315, 316, 198, 199, 147, 148, 149, 150, 151, 152, 153, 23, 154, 155, 156, 22, 157, 82, 84, 158, 159, 160, 161, 162, 865, 866, 867, 868, 869, 870, 871, 872, 873, 887, 888, 889, 890, 891, 892, 905, 906, 907, 908, 909, 910, 911, 912, 913, 914, 915, 916, 917, 918, 893, 894] (by decide +kernel) (by decide +kernel)
set_option maxRecDepth 20000 in
theorem gL_law_X6_setSteps : GoodIn wsL_law (wsV RL 36 RX6 yX6_setSteps wsX6_setSteps) := goodIn_app (goodIn_of _ (by decide +kernel)) ggL_law_X6_setSteps
