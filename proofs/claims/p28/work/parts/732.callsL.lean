set_option maxRecDepth 20000 in
theorem ggL_refusesAny_X6_rack : GoodIn wsL_refusesAny wsX6_rack := goodIn_r _ [208, 8, 209, 210, 211, 12, 212, 19, 204, 213, 214, 143, 5, 144, 67, 68, 69, 215, 216, 217, 218, 138, 18, 145, 146, 219, 104, 105, 40, 106, 48, 107, 108, 220, 221, 222, 52, 223, 55, 224, 225, 226, 227, 15, 16, 228, 156, 31, 157, 229, 230, 231, 232, 56, 58, 508, 509, 510, 511, 512, 513, 514, 515, 516, 517, 518, 519, 520, 521, 522, 532, 533, 534, 535, 536, 525, 526, 527, 528, 529, 530, 531] (by decide +kernel) (by decide +kernel)
set_option maxRecDepth 20000 in
theorem gL_refusesAny_X6_rack : GoodIn wsL_refusesAny (wsV RL 19 RX6 yX6_rack wsX6_rack) := goodIn_app (goodIn_of _ (by decide +kernel)) ggL_refusesAny_X6_rack
set_option maxRecDepth 20000 in
theorem ggL_refusesAny_X6_setSteps : GoodIn wsL_refusesAny wsX6_setSteps := goodIn_r _ [236, 7, 8, 9, 10, 11, 12, 13, 14, 15, 16, 17, 18, 19, 20, 21, 22, 23, 24, 25, 26, 27, 5, 28, 29, 30, 31, 32, 33, 34, 35, 36, 37, 38, 39, 40, 41, 42, 43, 44, 45, 46, 47, 48, 49, 50, 51, 52, 53, 54, 55, 56, 57, 58, 237, 238, 239, 240, 213, 214, 241, 143, 144, 67, 68, 69, 70, 71, 72, 73, 74, 75, 76, 77, 78, 79, 80, 81, 82, 83, 84, 85, 86, 508, 509, 510, 511, 512, 513, 514, 515, 516, 517, 518, 519, 520, 521, 522, 523, 524, 525, 526, 527, 528, 529, 530, 531, 532, 533, 534, 535, 536, 537, 538] (by decide +kernel) (by decide +kernel)
set_option maxRecDepth 20000 in
theorem gL_refusesAny_X6_setSteps : GoodIn wsL_refusesAny (wsV RL 60 RX6 yX6_setSteps wsX6_setSteps) := goodIn_app (goodIn_of _ (by decide +kernel)) ggL_refusesAny_X6_setSteps
set_option maxRecDepth 20000 in
theorem ggL_refusesAny_X6_set : GoodIn wsL_refusesAny wsX6_set := goodIn_r _ [245, 7, 8, 9, 10, 11, 12, 13, 14, 15, 16, 17, 18, 19, 20, 21, 22, 23, 24, 25, 26, 27, 5, 28, 29, 30, 31, 32, 33, 34, 35, 36, 37, 38, 39, 40, 41, 42, 43, 44, 45, 46, 47, 48, 49, 50, 51, 52, 53, 54, 55, 56, 57, 58, 246, 247, 248, 249, 250, 251, 252, 253, 68, 69, 254, 255, 256, 257, 70, 71, 72, 73, 74, 75, 76, 77, 78, 79, 80, 81, 82, 83, 84, 85, 86, 508, 509, 510, 511, 512, 513, 514, 515, 516, 517, 518, 519, 520, 521, 522, 523, 524, 525, 526, 527, 528, 529, 530, 531, 532, 533, 534, 535, 536, 537, 538] (by decide +kernel) (by decide +kernel)
set_option maxRecDepth 20000 in
theorem gL_refusesAny_X6_set : GoodIn wsL_refusesAny (wsV RL 63 RX6 yX6_set wsX6_set) := goodIn_app (goodIn_of _ (by decide +kernel)) ggL_refusesAny_X6_set
set_option maxRecDepth 20000 in
theorem ggL_refusesAny_X6_count : GoodIn wsL_refusesAny wsX6_count := goodIn_r _ [261, 74, 262, 263, 264, 8, 265, 266, 267, 12, 268, 14, 18, 139, 269, 270, 15, 16, 271, 272, 273, 40, 274, 42, 44, 107, 5, 108, 275, 276, 277, 278, 279, 280, 281, 282, 183, 19, 219, 104, 105, 106, 48, 220, 221, 222, 52, 223, 55, 283, 284, 285, 286, 103, 287, 288, 289, 290, 160, 161, 162, 158, 159, 291, 292, 293, 294, 295, 30, 31, 32, 508, 509, 510, 511, 512, 513, 514, 515, 516, 537, 538, 539, 540, 541, 542, 543, 544, 545, 546, 547, 548, 517, 518, 519, 520, 521, 522, 525, 526, 527, 528, 529, 530, 531, 532, 533, 534, 535, 536] (by decide +kernel) (by decide +kernel)
set_option maxRecDepth 20000 in
theorem gL_refusesAny_X6_count : GoodIn wsL_refusesAny (wsV RL 13 RX6 yX6_count wsX6_count) := goodIn_app (goodIn_of _ (by decide +kernel)) ggL_refusesAny_X6_count
set_option maxRecDepth 20000 in
theorem ggL_refusesAny_X6_pass : GoodIn wsL_refusesAny wsX6_pass := goodIn_r _ [299, 7, 8, 9, 10, 11, 12, 13, 14, 15, 16, 17, 18, 19, 20, 21, 22, 23, 24, 25, 26, 27, 5, 28, 29, 30, 31, 32, 33, 34, 35, 36, 37, 38, 39, 40, 41, 42, 43, 44, 45, 46, 47, 48, 49, 50, 51, 52, 53, 54, 55, 56, 57, 58, 300, 301, 302, 303, 304, 68, 69, 305, 306, 307, 308, 309, 310, 311, 312, 228, 156, 157, 313, 314, 315, 316, 317, 318, 319, 320, 321, 322, 323, 230, 231, 232, 324, 325, 326, 327, 138, 204, 328, 329, 220, 221, 222, 223, 145, 146, 219, 104, 105, 106, 330, 331, 67, 224, 225, 226, 227, 332, 333, 334, 335, 336, 337, 338, 339, 340, 341, 342, 343, 344, 70, 71, 72, 73, 74, 75, 76, 77, 78, 79, 80, 81, 82, 83, 84, 85, 86, 508, 509, 510, 511, 512, 513, 514, 515, 516, 517, 518, 519, 520, 521, 522, 523, 524, 525, 526, 527, 528, 529, 530, 531, 532, 533, 534, 535, 536, 537, 538] (by decide +kernel) (by decide +kernel)
set_option maxRecDepth 20000 in
theorem gL_refusesAny_X6_pass : GoodIn wsL_refusesAny (wsV RL 66 RX6 yX6_pass wsX6_pass) := goodIn_app (goodIn_of _ (by decide +kernel)) ggL_refusesAny_X6_pass
set_option maxRecDepth 20000 in
theorem ggL_refusesAny_X6_lamp : GoodIn wsL_refusesAny wsX6_lamp := goodIn_r _ [348, 8, 349, 350, 351, 12, 352, 18, 183, 353, 354, 270, 269, 329, 355, 356, 357, 40, 358, 42, 68, 5, 69, 359, 114, 115, 116, 46, 219, 104, 105, 106, 48, 107, 108, 160, 161, 162, 158, 159, 508, 509, 510, 511, 512, 513, 514, 515, 516, 517, 518, 519, 520, 521, 522, 525, 526, 527, 528, 529, 530, 531] (by decide +kernel) (by decide +kernel)
set_option maxRecDepth 20000 in
theorem gL_refusesAny_X6_lamp : GoodIn wsL_refusesAny (wsV RL 29 RX6 yX6_lamp wsX6_lamp) := goodIn_app (goodIn_of _ (by decide +kernel)) ggL_refusesAny_X6_lamp
set_option maxRecDepth 20000 in
theorem ggL_refusesAny_X6_lasted : GoodIn wsL_refusesAny wsX6_lasted := goodIn_r _ [363, 364, 8, 365, 366, 65, 5, 66, 67, 68, 69, 367, 368, 369, 40, 370, 42, 43, 113, 114, 115, 116, 46, 107, 108, 508, 509, 510, 511, 512, 513, 514, 515, 516, 517, 518, 519, 520, 521, 522, 525, 526, 527, 528, 529, 530, 531] (by decide +kernel) (by decide +kernel)
set_option maxRecDepth 20000 in
theorem gL_refusesAny_X6_lasted : GoodIn wsL_refusesAny (wsV RL 37 RX6 yX6_lasted wsX6_lasted) := goodIn_app (goodIn_of _ (by decide +kernel)) ggL_refusesAny_X6_lasted
set_option maxRecDepth 20000 in
theorem ggL_refusesAny_X6_ended : GoodIn wsL_refusesAny wsX6_ended := goodIn_r _ [374, 8, 365, 375, 376, 377, 40, 378, 42, 103, 104, 105, 106, 48, 379, 380, 381, 382, 107, 5, 108, 508, 509, 510, 511, 512, 513, 514, 515, 516, 517, 518, 519, 520, 521, 522, 525, 526, 527, 528, 529, 530, 531] (by decide +kernel) (by decide +kernel)
set_option maxRecDepth 20000 in
theorem gL_refusesAny_X6_ended : GoodIn wsL_refusesAny (wsV RL 40 RX6 yX6_ended wsX6_ended) := goodIn_app (goodIn_of _ (by decide +kernel)) ggL_refusesAny_X6_ended
set_option maxRecDepth 20000 in
theorem ggL_refusesAny_X6_lasts : GoodIn wsL_refusesAny wsX6_lasts := goodIn_r _ [386, 8, 365, 387, 388, 356, 357, 40, 358, 42, 68, 5, 69, 67, 389, 104, 105, 106, 48, 390, 330, 331, 391, 225, 226, 12, 227, 15, 16, 228, 156, 31, 157, 392, 333, 334, 335, 336, 45, 46, 508, 509, 510, 511, 512, 513, 514, 515, 516, 517, 518, 519, 520, 521, 522, 525, 526, 527, 528, 529, 530, 531] (by decide +kernel) (by decide +kernel)
set_option maxRecDepth 20000 in
theorem gL_refusesAny_X6_lasts : GoodIn wsL_refusesAny (wsV RL 70 RX6 yX6_lasts wsX6_lasts) := goodIn_app (goodIn_of _ (by decide +kernel)) ggL_refusesAny_X6_lasts
set_option maxRecDepth 20000 in
theorem ggL_refusesAny_X6_reason : GoodIn wsL_refusesAny wsX6_reason := goodIn_r _ [396, 8, 365, 388, 356, 357, 40, 358, 42, 68, 5, 69, 397, 280, 281, 12, 282, 18, 183, 19, 219, 104, 105, 106, 48, 220, 221, 222, 52, 223, 55, 508, 509, 510, 511, 512, 513, 514, 515, 516, 517, 518, 519, 520, 521, 522, 525, 526, 527, 528, 529, 530, 531, 532, 533, 534, 535, 536] (by decide +kernel) (by decide +kernel)
set_option maxRecDepth 20000 in
theorem gL_refusesAny_X6_reason : GoodIn wsL_refusesAny (wsV RL 32 RX6 yX6_reason wsX6_reason) := goodIn_app (goodIn_of _ (by decide +kernel)) ggL_refusesAny_X6_reason
