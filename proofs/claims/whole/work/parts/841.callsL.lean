set_option maxRecDepth 20000 in
theorem ggL_law_X7_setSteps : GoodIn wsL_law wsX7_setSteps := goodIn_r _ [320, 230, 231, 5, 232, 170, 171, 172, 173, 174, 175, 176, 103, 177, 178, 179, 180, 181, 105, 182, 183, 184, 302, 303, 304, 305, 321, 322, 323, 324, 874, 875, 876, 877, 878, 879, 880, 881, 882, 883, 884, 885, 886] (by decide +kernel) (by decide +kernel)
set_option maxRecDepth 20000 in
theorem gL_law_X7_setSteps : GoodIn wsL_law (wsV RL 39 RX7 yX7_setSteps wsX7_setSteps) := goodIn_app (goodIn_of _ (by decide +kernel)) ggL_law_X7_setSteps
set_option maxRecDepth 20000 in
theorem ggL_law_X6_set : GoodIn wsL_law wsX6_set := goodIn_r _ [328, 16, 15, 113, 114, 115, 14, 116, 33, 34, 35, 39, 43, 47, 117, 118, 119, 38, 120, 53, 54, 121, 2, 122, 123, 124, 125, 126, 127, 128, 129, 130, 131, 132, 133, 42, 134, 58, 59, 60, 61, 62, 63, 64, 135, 136, 137, 46, 138, 69, 70, 71, 72, 73, 329, 330, 331, 332, 333, 334, 335, 336, 148, 149, 337, 338, 339, 340, 150, 151, 152, 153, 23, 154, 155, 156, 22, 157, 82, 84, 158, 159, 160, 161, 162, 865, 866, 867, 868, 869, 870, 871, 872, 873, 887, 888, 889, 890, 891, 892, 905, 906, 907, 908, 909, 910, 911, 912, 913, 914, 915, 916, 917, 918, 893, 894] (by decide +kernel) (by decide +kernel)
set_option maxRecDepth 20000 in
theorem gL_law_X6_set : GoodIn wsL_law (wsV RL 40 RX6 yX6_set wsX6_set) := goodIn_app (goodIn_of _ (by decide +kernel)) ggL_law_X6_set
set_option maxRecDepth 20000 in
theorem ggL_law_X7_set : GoodIn wsL_law wsX7_set := goodIn_r _ [344, 103, 170, 171, 5, 172, 173, 174, 175, 176, 177, 178, 179, 180, 181, 105, 182, 183, 184, 874, 875, 876, 877, 878, 879, 880, 881, 882, 883, 884, 885, 886] (by decide +kernel) (by decide +kernel)
set_option maxRecDepth 20000 in
theorem gL_law_X7_set : GoodIn wsL_law (wsV RL 43 RX7 yX7_set wsX7_set) := goodIn_app (goodIn_of _ (by decide +kernel)) ggL_law_X7_set
set_option maxRecDepth 20000 in
theorem ggL_law_X6_pass : GoodIn wsL_law wsX6_pass := goodIn_r _ [348, 16, 15, 113, 114, 115, 14, 116, 33, 34, 35, 39, 43, 47, 117, 118, 119, 38, 120, 53, 54, 121, 2, 122, 123, 124, 125, 126, 127, 128, 129, 130, 131, 132, 133, 42, 134, 58, 59, 60, 61, 62, 63, 64, 135, 136, 137, 46, 138, 69, 70, 71, 72, 73, 349, 350, 351, 352, 353, 148, 149, 354, 355, 356, 357, 358, 359, 360, 361, 362, 211, 212, 363, 364, 365, 366, 367, 368, 369, 370, 371, 372, 373, 374, 375, 376, 377, 378, 379, 380, 193, 293, 381, 382, 383, 384, 385, 386, 200, 201, 387, 388, 389, 390, 391, 392, 147, 393, 394, 395, 396, 397, 398, 399, 400, 401, 402, 403, 404, 405, 406, 407, 408, 409, 150, 151, 152, 153, 23, 154, 155, 156, 22, 157, 82, 84, 158, 159, 160, 161, 162, 865, 866, 867, 868, 869, 870, 871, 872, 873, 887, 888, 889, 890, 891, 892, 905, 906, 907, 908, 909, 910, 911, 912, 913, 914, 915, 916, 917, 918, 893, 894] (by decide +kernel) (by decide +kernel)
set_option maxRecDepth 20000 in
theorem gL_law_X6_pass : GoodIn wsL_law (wsV RL 44 RX6 yX6_pass wsX6_pass) := goodIn_app (goodIn_of _ (by decide +kernel)) ggL_law_X6_pass
set_option maxRecDepth 20000 in
theorem ggL_law_X7_pass : GoodIn wsL_law wsX7_pass := goodIn_r _ [413, 414, 415, 416, 5, 417, 103, 418, 170, 171, 172, 173, 174, 175, 176, 177, 178, 179, 180, 181, 105, 182, 183, 184, 419, 420, 421, 422, 423, 424, 425, 426, 427, 428, 429, 430, 431, 432, 433, 434, 240, 241, 242, 243, 302, 303, 304, 305, 248, 249, 250, 251, 435, 436, 437, 438, 439, 440, 441, 442, 874, 875, 876, 877, 878, 879, 880, 881, 882, 883, 884, 885, 886] (by decide +kernel) (by decide +kernel)
set_option maxRecDepth 20000 in
theorem gL_law_X7_pass : GoodIn wsL_law (wsV RL 48 RX7 yX7_pass wsX7_pass) := goodIn_app (goodIn_of _ (by decide +kernel)) ggL_law_X7_pass
set_option maxRecDepth 20000 in
theorem ggL_law_X6_type : GoodIn wsL_law wsX6_type := goodIn_r _ [446, 27, 447, 448, 449, 26, 450, 88, 90, 865, 866, 867, 868, 869, 870, 871, 872, 873, 895, 896, 897, 898, 899, 900, 901, 902, 903, 904] (by decide +kernel) (by decide +kernel)
set_option maxRecDepth 20000 in
theorem gL_law_X6_type : GoodIn wsL_law (wsV RL 49 RX6 yX6_type wsX6_type) := goodIn_app (goodIn_of _ (by decide +kernel)) ggL_law_X6_type
set_option maxRecDepth 20000 in
theorem ggL_law_X7_type : GoodIn wsL_law wsX7_type := goodIn_r _ [454, 455, 107, 874, 875, 876, 877, 878, 879, 880, 881, 882, 883, 884, 885, 886] (by decide +kernel) (by decide +kernel)
set_option maxRecDepth 20000 in
theorem gL_law_X7_type : GoodIn wsL_law (wsV RL 53 RX7 yX7_type wsX7_type) := goodIn_app (goodIn_of _ (by decide +kernel)) ggL_law_X7_type
set_option maxRecDepth 20000 in
theorem ggL_law_X6_clearText : GoodIn wsL_law wsX6_clearText := goodIn_r _ [459, 27, 460, 461, 462, 26, 463, 88, 865, 866, 867, 868, 869, 870, 871, 872, 873, 895, 896, 897, 898, 899, 900, 901, 902, 903, 904] (by decide +kernel) (by decide +kernel)
set_option maxRecDepth 20000 in
theorem gL_law_X6_clearText : GoodIn wsL_law (wsV RL 54 RX6 yX6_clearText wsX6_clearText) := goodIn_app (goodIn_of _ (by decide +kernel)) ggL_law_X6_clearText
set_option maxRecDepth 20000 in
theorem ggL_law_X7_clearText : GoodIn wsL_law wsX7_clearText := goodIn_r _ [467, 455, 874, 875, 876, 877, 878, 879, 880, 881, 882, 883, 884, 885, 886] (by decide +kernel) (by decide +kernel)
set_option maxRecDepth 20000 in
theorem gL_law_X7_clearText : GoodIn wsL_law (wsV RL 58 RX7 yX7_clearText wsX7_clearText) := goodIn_app (goodIn_of _ (by decide +kernel)) ggL_law_X7_clearText
set_option maxRecDepth 20000 in
theorem ggL_law_X6_perform : GoodIn wsL_law wsX6_perform := goodIn_r _ [471, 27, 16, 15, 472, 28, 29, 473, 474, 475, 26, 476, 92, 91, 88, 477, 478, 479, 480, 481, 482, 483, 484, 93, 485, 486, 487, 488, 90, 489, 490, 491, 492, 493, 494, 495, 496, 98, 95, 497, 498, 499, 500, 94, 501, 502, 503, 504, 148, 2, 149, 505, 506, 507, 508, 509, 510, 511, 512, 513, 514, 515, 516, 517, 518, 519, 520, 96, 521, 522, 523, 524, 97, 113, 114, 115, 14, 116, 33, 34, 35, 39, 43, 47, 117, 118, 119, 38, 120, 53, 54, 121, 122, 123, 124, 125, 126, 127, 128, 129, 130, 131, 132, 133, 42, 134, 58, 59, 60, 61, 62, 63, 64, 135, 136, 137, 46, 138, 69, 70, 71, 72, 73, 525, 526, 527, 528, 529, 530, 531, 532, 533, 534, 535, 536, 189, 190, 191, 192, 193, 194, 195, 196, 197, 198, 199, 147, 145, 146, 200, 201, 202, 203, 204, 205, 206, 207, 208, 209, 210, 211, 212, 213, 214, 215, 216, 217, 218, 219, 220, 221, 256, 257, 258, 259, 260, 289, 290, 291, 292, 293, 310, 311, 312, 313, 314, 315, 316, 349, 350, 351, 352, 353, 354, 355, 356, 357, 358, 359, 360, 361, 362, 363, 364, 365, 366, 367, 368, 369, 370, 371, 372, 373, 374, 375, 376, 377, 378, 379, 380, 381, 382, 383, 384, 385, 386, 387, 388, 389, 390, 391, 392, 393, 394, 395, 396, 397, 398, 399, 400, 401, 402, 403, 404, 405, 406, 407, 408, 409, 537, 538, 539, 540, 150, 151, 152, 153, 23, 154, 155, 156, 22, 157, 82, 84, 158, 159, 160, 161, 162, 865, 866, 867, 868, 869, 870, 871, 872, 873, 895, 896, 897, 898, 899, 900, 901, 902, 903, 904, 887, 888, 889, 890, 891, 892, 905, 906, 907, 908, 909, 910, 911, 912, 913, 914, 915, 916, 917, 918, 893, 894] (by decide +kernel) (by decide +kernel)
set_option maxRecDepth 20000 in
theorem gL_law_X6_perform : GoodIn wsL_law (wsV RL 59 RX6 yX6_perform wsX6_perform) := goodIn_app (goodIn_of _ (by decide +kernel)) ggL_law_X6_perform
set_option maxRecDepth 20000 in
theorem ggL_law_X7_perform : GoodIn wsL_law wsX7_perform := goodIn_r _ [544, 545, 103, 104, 546, 547, 548, 549, 550, 551, 5, 552, 455, 553, 554, 555, 556, 107, 108, 557, 558, 559, 560, 561, 562, 563, 564, 170, 171, 172, 565, 566, 567, 568, 569, 570, 571, 572, 182, 183, 184, 573, 574, 575, 576, 226, 227, 228, 229, 230, 231, 232, 233, 234, 235, 167, 168, 169, 236, 237, 238, 239, 240, 241, 242, 243, 414, 415, 416, 417, 418, 577, 578, 579, 580, 244, 245, 246, 247, 248, 249, 250, 251, 265, 266, 267, 268, 321, 322, 323, 324, 419, 420, 421, 422, 423, 424, 425, 426, 427, 428, 429, 430, 431, 432, 433, 434, 302, 303, 304, 305, 435, 436, 437, 438, 439, 440, 441, 442, 177, 178, 179, 180, 181, 105, 874, 875, 876, 877, 878, 879, 880, 881, 882, 883, 884, 885, 886] (by decide +kernel) (by decide +kernel)
set_option maxRecDepth 20000 in
theorem gL_law_X7_perform : GoodIn wsL_law (wsV RL 62 RX7 yX7_perform wsX7_perform) := goodIn_app (goodIn_of _ (by decide +kernel)) ggL_law_X7_perform
set_option maxRecDepth 20000 in
theorem ggL_law_X6_stopped : GoodIn wsL_law wsX6_stopped := goodIn_r _ [584, 29, 28, 147, 148, 2, 149, 865, 866, 867, 868, 869, 870, 871, 872, 873] (by decide +kernel) (by decide +kernel)
set_option maxRecDepth 20000 in
theorem gL_law_X6_stopped : GoodIn wsL_law (wsV RL 63 RX6 yX6_stopped wsX6_stopped) := goodIn_app (goodIn_of _ (by decide +kernel)) ggL_law_X6_stopped
set_option maxRecDepth 20000 in
theorem ggL_law_X7_stopped : GoodIn wsL_law wsX7_stopped := goodIn_r _ [588, 548, 547, 170, 171, 5, 172, 874, 875, 876, 877, 878, 879, 880, 881, 882, 883, 884, 885, 886] (by decide +kernel) (by decide +kernel)
set_option maxRecDepth 20000 in
theorem gL_law_X7_stopped : GoodIn wsL_law (wsV RL 66 RX7 yX7_stopped wsX7_stopped) := goodIn_app (goodIn_of _ (by decide +kernel)) ggL_law_X7_stopped
