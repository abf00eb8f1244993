set_option maxRecDepth 20000 in
theorem ggL_isWhole_X6_batch : GoodIn wsL_isWhole wsX6_batch := goodIn_r _ [152, 10, 153, 154, 155, 14, 156, 17, 157, 158, 159, 160, 4, 161, 116, 90, 91, 162, 163, 164, 26, 165, 28, 166, 167, 168, 169, 170, 57, 43, 44, 45, 46, 30, 31, 171, 172, 173, 174, 175, 93, 94, 95, 96, 176, 177, 178, 179, 180, 181, 182, 183, 184, 185, 186, 187, 188, 211, 212, 213, 214, 215, 216, 217, 218, 219, 232, 233, 234, 235, 236, 237, 250, 251, 238, 239, 240, 241, 242, 243, 244] (by decide +kernel) (by decide +kernel)
set_option maxRecDepth 20000 in
theorem gL_isWhole_X6_batch : GoodIn wsL_isWhole (wsV RL 26 RX6 yX6_batch wsX6_batch) := goodIn_app (goodIn_of _ (by decide +kernel)) ggL_isWhole_X6_batch
set_option maxRecDepth 20000 in
theorem ggL_isWhole_X6_lasted : GoodIn wsL_isWhole wsX6_lasted := goodIn_r _ [192, 193, 10, 101, 194, 160, 4, 161, 116, 90, 91, 195, 196, 197, 26, 198, 28, 170, 175, 93, 94, 95, 96, 30, 31, 211, 212, 213, 214, 215, 216, 217, 218, 219, 232, 233, 234, 235, 236, 237, 238, 239, 240, 241, 242, 243, 244] (by decide +kernel) (by decide +kernel)
set_option maxRecDepth 20000 in
theorem gL_isWhole_X6_lasted : GoodIn wsL_isWhole (wsV RL 37 RX6 yX6_lasted wsX6_lasted) := goodIn_app (goodIn_of _ (by decide +kernel)) ggL_isWhole_X6_lasted
set_option maxRecDepth 20000 in
theorem ggL_isWhole_X6_ended : GoodIn wsL_isWhole wsX6_ended := goodIn_r _ [202, 10, 101, 203, 204, 205, 26, 206, 28, 57, 43, 44, 45, 46, 207, 208, 209, 210, 30, 4, 31, 211, 212, 213, 214, 215, 216, 217, 218, 219, 232, 233, 234, 235, 236, 237, 238, 239, 240, 241, 242, 243, 244] (by decide +kernel) (by decide +kernel)
set_option maxRecDepth 20000 in
theorem gL_isWhole_X6_ended : GoodIn wsL_isWhole (wsV RL 40 RX6 yX6_ended wsX6_ended) := goodIn_app (goodIn_of _ (by decide +kernel)) ggL_isWhole_X6_ended
set_option maxRecDepth 20000 in
theorem ggL_refusesAny_X6_setBatch : GoodIn wsL_refusesAny wsX6_setBatch := goodIn_r _ [6, 7, 8, 9, 10, 11, 12, 13, 14, 15, 16, 17, 18, 19, 20, 21, 22, 23, 24, 25, 26, 27, 5, 28, 29, 30, 31, 32, 33, 34, 35, 36, 37, 38, 39, 40, 41, 42, 43, 44, 45, 46, 47, 48, 49, 50, 51, 52, 53, 54, 55, 56, 57, 58, 59, 60, 61, 62, 63, 64, 65, 66, 67, 68, 69, 70, 71, 72, 73, 74, 75, 76, 77, 78, 79, 80, 81, 82, 83, 84, 85, 86, 508, 509, 510, 511, 512, 513, 514, 515, 516, 517, 518, 519, 520, 521, 522, 523, 524, 525, 526, 527, 528, 529, 530, 531, 532, 533, 534, 535, 536, 537, 538] (by decide +kernel) (by decide +kernel)
set_option maxRecDepth 20000 in
theorem gL_refusesAny_X6_setBatch : GoodIn wsL_refusesAny (wsV RL 43 RX6 yX6_setBatch wsX6_setBatch) := goodIn_app (goodIn_of _ (by decide +kernel)) ggL_refusesAny_X6_setBatch
set_option maxRecDepth 20000 in
theorem ggL_refusesAny_X6_batch : GoodIn wsL_refusesAny wsX6_batch := goodIn_r _ [90, 8, 91, 92, 93, 12, 94, 18, 17, 63, 64, 65, 5, 66, 67, 68, 69, 95, 96, 97, 40, 98, 42, 99, 100, 101, 102, 43, 103, 104, 105, 106, 48, 107, 108, 109, 110, 111, 112, 113, 114, 115, 116, 46, 117, 118, 119, 120, 121, 122, 123, 124, 125, 126, 127, 128, 129, 508, 509, 510, 511, 512, 513, 514, 515, 516, 517, 518, 519, 520, 521, 522, 523, 524, 525, 526, 527, 528, 529, 530, 531] (by decide +kernel) (by decide +kernel)
set_option maxRecDepth 20000 in
theorem gL_refusesAny_X6_batch : GoodIn wsL_refusesAny (wsV RL 26 RX6 yX6_batch wsX6_batch) := goodIn_app (goodIn_of _ (by decide +kernel)) ggL_refusesAny_X6_batch
set_option maxRecDepth 20000 in
theorem ggL_refusesAny_X6_put : GoodIn wsL_refusesAny wsX6_put := goodIn_r _ [133, 7, 8, 9, 10, 11, 12, 13, 14, 15, 16, 17, 18, 19, 20, 21, 22, 23, 24, 25, 26, 27, 5, 28, 29, 30, 31, 32, 33, 34, 35, 36, 37, 38, 39, 40, 41, 42, 43, 44, 45, 46, 47, 48, 49, 50, 51, 52, 53, 54, 55, 56, 57, 58, 134, 135, 136, 137, 138, 139, 140, 141, 142, 143, 144, 67, 68, 69, 65, 66, 145, 146, 147, 148, 149, 150, 151, 152, 153, 154, 155, 156, 157, 158, 159, 160, 161, 162, 163, 164, 165, 166, 70, 71, 72, 73, 74, 75, 76, 77, 78, 79, 80, 81, 82, 83, 84, 85, 86, 508, 509, 510, 511, 512, 513, 514, 515, 516, 517, 518, 519, 520, 521, 522, 523, 524, 525, 526, 527, 528, 529, 530, 531, 532, 533, 534, 535, 536, 537, 538] (by decide +kernel) (by decide +kernel)
set_option maxRecDepth 20000 in
theorem gL_refusesAny_X6_put : GoodIn wsL_refusesAny (wsV RL 47 RX6 yX6_put wsX6_put) := goodIn_app (goodIn_of _ (by decide +kernel)) ggL_refusesAny_X6_put
set_option maxRecDepth 20000 in
theorem ggL_refusesAny_X6_at : GoodIn wsL_refusesAny wsX6_at := goodIn_r _ [170, 8, 171, 172, 173, 140, 5, 141, 142, 143, 144, 67, 68, 69, 174, 145, 146, 508, 509, 510, 511, 512, 513, 514, 515, 516, 517, 518, 519, 520, 521, 522, 532, 533, 534, 535, 536] (by decide +kernel) (by decide +kernel)
set_option maxRecDepth 20000 in
theorem gL_refusesAny_X6_at : GoodIn wsL_refusesAny (wsV RL 23 RX6 yX6_at wsX6_at) := goodIn_app (goodIn_of _ (by decide +kernel)) ggL_refusesAny_X6_at
set_option maxRecDepth 20000 in
theorem ggL_refusesAny_X6_takeOut : GoodIn wsL_refusesAny wsX6_takeOut := goodIn_r _ [178, 7, 8, 9, 10, 11, 12, 13, 14, 15, 16, 17, 18, 19, 20, 21, 22, 23, 24, 25, 26, 27, 5, 28, 29, 30, 31, 32, 33, 34, 35, 36, 37, 38, 39, 40, 41, 42, 43, 44, 45, 46, 47, 48, 49, 50, 51, 52, 53, 54, 55, 56, 57, 58, 179, 180, 181, 182, 138, 183, 140, 141, 142, 143, 144, 67, 68, 69, 145, 146, 70, 71, 72, 73, 74, 75, 76, 77, 78, 79, 80, 81, 82, 83, 84, 85, 86, 508, 509, 510, 511, 512, 513, 514, 515, 516, 517, 518, 519, 520, 521, 522, 523, 524, 525, 526, 527, 528, 529, 530, 531, 532, 533, 534, 535, 536, 537, 538] (by decide +kernel) (by decide +kernel)
set_option maxRecDepth 20000 in
theorem gL_refusesAny_X6_takeOut : GoodIn wsL_refusesAny (wsV RL 50 RX6 yX6_takeOut wsX6_takeOut) := goodIn_app (goodIn_of _ (by decide +kernel)) ggL_refusesAny_X6_takeOut
set_option maxRecDepth 20000 in
theorem ggL_refusesAny_X6_swap : GoodIn wsL_refusesAny wsX6_swap := goodIn_r _ [187, 7, 8, 9, 10, 11, 12, 13, 14, 15, 16, 17, 18, 19, 20, 21, 22, 23, 24, 25, 26, 27, 5, 28, 29, 30, 31, 32, 33, 34, 35, 36, 37, 38, 39, 40, 41, 42, 43, 44, 45, 46, 47, 48, 49, 50, 51, 52, 53, 54, 55, 56, 57, 58, 188, 189, 190, 191, 138, 140, 141, 142, 143, 144, 67, 68, 69, 145, 146, 192, 193, 194, 195, 183, 70, 71, 72, 73, 74, 75, 76, 77, 78, 79, 80, 81, 82, 83, 84, 85, 86, 508, 509, 510, 511, 512, 513, 514, 515, 516, 517, 518, 519, 520, 521, 522, 523, 524, 525, 526, 527, 528, 529, 530, 531, 532, 533, 534, 535, 536, 537, 538] (by decide +kernel) (by decide +kernel)
set_option maxRecDepth 20000 in
theorem gL_refusesAny_X6_swap : GoodIn wsL_refusesAny (wsV RL 53 RX6 yX6_swap wsX6_swap) := goodIn_app (goodIn_of _ (by decide +kernel)) ggL_refusesAny_X6_swap
set_option maxRecDepth 20000 in
theorem ggL_refusesAny_X6_setVolts : GoodIn wsL_refusesAny wsX6_setVolts := goodIn_r _ [199, 7, 8, 9, 10, 11, 12, 13, 14, 15, 16, 17, 18, 19, 20, 21, 22, 23, 24, 25, 26, 27, 5, 28, 29, 30, 31, 32, 33, 34, 35, 36, 37, 38, 39, 40, 41, 42, 43, 44, 45, 46, 47, 48, 49, 50, 51, 52, 53, 54, 55, 56, 57, 58, 200, 201, 202, 203, 204, 143, 144, 67, 68, 69, 70, 71, 72, 73, 74, 75, 76, 77, 78, 79, 80, 81, 82, 83, 84, 85, 86, 508, 509, 510, 511, 512, 513, 514, 515, 516, 517, 518, 519, 520, 521, 522, 523, 524, 525, 526, 527, 528, 529, 530, 531, 532, 533, 534, 535, 536, 537, 538] (by decide +kernel) (by decide +kernel)
set_option maxRecDepth 20000 in
theorem gL_refusesAny_X6_setVolts : GoodIn wsL_refusesAny (wsV RL 57 RX6 yX6_setVolts wsX6_setVolts) := goodIn_app (goodIn_of _ (by decide +kernel)) ggL_refusesAny_X6_setVolts
