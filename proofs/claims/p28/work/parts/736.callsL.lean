set_option maxRecDepth 20000 in
theorem ggL_act_X6_rack : GoodIn wsL_act wsX6_rack := goodIn_r _ [269, 14, 270, 271, 272, 18, 273, 45, 274, 275, 276, 89, 8, 90, 91, 92, 93, 277, 278, 279, 280, 141, 21, 95, 96, 46, 47, 48, 30, 49, 50, 34, 35, 51, 52, 53, 54, 55, 56, 281, 282, 283, 284, 25, 26, 285, 153, 77, 154, 286, 287, 288, 289, 134, 136, 379, 380, 381, 382, 383, 384, 385, 386, 387, 400, 401, 402, 403, 404, 405, 413, 414, 415, 416, 417, 406, 407, 408, 409, 410, 411, 412] (by decide +kernel) (by decide +kernel)
set_option maxRecDepth 20000 in
theorem gL_act_X6_rack : GoodIn wsL_act (wsV RL 19 RX6 yX6_rack wsX6_rack) := goodIn_app (goodIn_of _ (by decide +kernel)) ggL_act_X6_rack
set_option maxRecDepth 20000 in
theorem ggL_act_X6_setVolts : GoodIn wsL_act wsX6_setVolts := goodIn_r _ [349, 101, 14, 102, 103, 104, 18, 105, 20, 25, 26, 106, 21, 45, 107, 108, 109, 110, 111, 112, 113, 114, 8, 115, 116, 76, 77, 78, 117, 118, 119, 120, 121, 122, 123, 30, 124, 32, 125, 33, 126, 127, 128, 50, 129, 130, 131, 54, 132, 133, 56, 134, 135, 136, 350, 351, 352, 353, 274, 89, 90, 91, 92, 93, 159, 160, 161, 162, 10, 163, 164, 165, 166, 167, 168, 169, 170, 171, 172, 173, 174, 379, 380, 381, 382, 383, 384, 385, 386, 387, 400, 401, 402, 403, 404, 405, 418, 419, 406, 407, 408, 409, 410, 411, 412, 413, 414, 415, 416, 417, 388, 389] (by decide +kernel) (by decide +kernel)
set_option maxRecDepth 20000 in
theorem gL_act_X6_setVolts : GoodIn wsL_act (wsV RL 57 RX6 yX6_setVolts wsX6_setVolts) := goodIn_app (goodIn_of _ (by decide +kernel)) ggL_act_X6_setVolts
set_option maxRecDepth 20000 in
theorem ggL_act_X6_setSteps : GoodIn wsL_act wsX6_setSteps := goodIn_r _ [357, 101, 14, 102, 103, 104, 18, 105, 20, 25, 26, 106, 21, 45, 107, 108, 109, 110, 111, 112, 113, 114, 8, 115, 116, 76, 77, 78, 117, 118, 119, 120, 121, 122, 123, 30, 124, 32, 125, 33, 126, 127, 128, 50, 129, 130, 131, 54, 132, 133, 56, 134, 135, 136, 358, 359, 360, 361, 275, 276, 362, 89, 90, 91, 92, 93, 159, 160, 161, 162, 10, 163, 164, 165, 166, 167, 168, 169, 170, 171, 172, 173, 174, 379, 380, 381, 382, 383, 384, 385, 386, 387, 400, 401, 402, 403, 404, 405, 418, 419, 406, 407, 408, 409, 410, 411, 412, 413, 414, 415, 416, 417, 388, 389] (by decide +kernel) (by decide +kernel)
set_option maxRecDepth 20000 in
theorem gL_act_X6_setSteps : GoodIn wsL_act (wsV RL 60 RX6 yX6_setSteps wsX6_setSteps) := goodIn_app (goodIn_of _ (by decide +kernel)) ggL_act_X6_setSteps
set_option maxRecDepth 20000 in
theorem ggL_act_X6_set : GoodIn wsL_act wsX6_set := goodIn_r _ [366, 101, 14, 102, 103, 104, 18, 105, 20, 25, 26, 106, 21, 45, 107, 108, 109, 110, 111, 112, 113, 114, 8, 115, 116, 76, 77, 78, 117, 118, 119, 120, 121, 122, 123, 30, 124, 32, 125, 33, 126, 127, 128, 50, 129, 130, 131, 54, 132, 133, 56, 134, 135, 136, 367, 368, 369, 370, 371, 372, 373, 374, 92, 93, 375, 376, 377, 378, 159, 160, 161, 162, 10, 163, 164, 165, 166, 167, 168, 169, 170, 171, 172, 173, 174, 379, 380, 381, 382, 383, 384, 385, 386, 387, 400, 401, 402, 403, 404, 405, 418, 419, 406, 407, 408, 409, 410, 411, 412, 413, 414, 415, 416, 417, 388, 389] (by decide +kernel) (by decide +kernel)
set_option maxRecDepth 20000 in
theorem gL_act_X6_set : GoodIn wsL_act (wsV RL 63 RX6 yX6_set wsX6_set) := goodIn_app (goodIn_of _ (by decide +kernel)) ggL_act_X6_set
set_option maxRecDepth 20000 in
theorem ggL_law_X6_init : GoodIn wsL_law wsX6_init := goodIn_r _ [5, 6, 7, 8, 9, 10, 11, 12, 13, 14, 15, 16, 17, 18, 19, 20, 21, 22, 23, 24, 25, 26, 27, 28, 29, 30, 31, 32, 33, 34, 35, 36, 37, 38, 39, 40, 41, 42, 43, 44, 45, 46, 47, 48, 49, 50, 51, 52, 53, 54, 55, 56, 57, 58, 59, 60, 61, 62, 63, 64, 65, 66, 67, 68, 69, 70, 71, 72, 73, 74, 75, 76, 77, 78, 79, 80, 81, 82, 83, 84, 85, 86, 87, 88, 89, 90, 91, 92, 93, 94, 95, 618, 619, 620, 621, 622, 623, 609, 610, 611, 612, 613, 614, 615, 616, 617, 624, 625, 626, 627, 628, 629, 630, 631, 632, 633, 634, 635, 636, 637, 638, 639, 640, 641, 642, 643, 644, 645, 646, 647, 648, 649] (by decide +kernel) (by decide +kernel)
set_option maxRecDepth 20000 in
theorem gL_law_X6_init : GoodIn wsL_law (wsX6_init) := ggL_law_X6_init
set_option maxRecDepth 20000 in
theorem ggL_law_X6_undo : GoodIn wsL_law wsX6_undo := goodIn_r _ [99, 20, 100, 12, 101, 102, 103, 19, 104, 79, 81, 105, 106, 107, 11, 108, 30, 31, 32, 36, 40, 44, 109, 110, 111, 35, 112, 50, 51, 113, 2, 114, 115, 116, 117, 118, 119, 120, 121, 122, 123, 124, 125, 39, 126, 55, 56, 57, 58, 59, 60, 61, 127, 128, 129, 43, 130, 66, 67, 68, 69, 70, 609, 610, 611, 612, 613, 614, 615, 616, 617, 624, 625, 618, 619, 620, 621, 622, 623, 636, 637, 638, 639, 640, 641, 642, 643, 644, 645, 646, 647, 648, 649] (by decide +kernel) (by decide +kernel)
set_option maxRecDepth 20000 in
theorem gL_law_X6_undo : GoodIn wsL_law (wsV RL 109 RX6 yX6_undo wsX6_undo) := goodIn_app (goodIn_of _ (by decide +kernel)) ggL_law_X6_undo
set_option maxRecDepth 20000 in
theorem ggL_law_X6_restore : GoodIn wsL_law wsX6_restore := goodIn_r _ [134, 16, 13, 12, 15, 135, 136, 137, 106, 107, 11, 108, 30, 31, 32, 36, 40, 44, 109, 110, 111, 35, 112, 50, 51, 113, 2, 114, 115, 116, 117, 118, 119, 120, 121, 122, 123, 124, 125, 39, 126, 55, 56, 57, 58, 59, 60, 61, 127, 128, 129, 43, 130, 66, 67, 68, 69, 70, 138, 139, 140, 141, 20, 142, 143, 144, 19, 145, 79, 81, 146, 147, 148, 149, 105, 609, 610, 611, 612, 613, 614, 615, 616, 617, 618, 619, 620, 621, 622, 623, 638, 639, 640, 641, 642, 643, 644, 636, 637, 645, 646, 647, 648, 649, 624, 625] (by decide +kernel) (by decide +kernel)
set_option maxRecDepth 20000 in
theorem gL_law_X6_restore : GoodIn wsL_law (wsV RL 112 RX6 yX6_restore wsX6_restore) := goodIn_app (goodIn_of _ (by decide +kernel)) ggL_law_X6_restore
set_option maxRecDepth 20000 in
theorem ggL_law_X6_count : GoodIn wsL_law wsX6_count := goodIn_r _ [153, 20, 100, 24, 154, 12, 155, 156, 157, 11, 158, 30, 40, 159, 160, 161, 31, 32, 162, 163, 164, 39, 165, 55, 57, 166, 2, 167, 168, 169, 170, 171, 172, 173, 174, 175, 176, 44, 177, 178, 179, 180, 61, 181, 182, 183, 43, 184, 67, 185, 186, 187, 188, 189, 190, 191, 192, 193, 194, 195, 196, 197, 198, 199, 200, 201, 202, 203, 116, 117, 118, 609, 610, 611, 612, 613, 614, 615, 616, 617, 624, 625, 626, 627, 628, 629, 630, 631, 632, 633, 634, 635, 618, 619, 620, 621, 622, 623, 638, 639, 640, 641, 642, 643, 644, 645, 646, 647, 648, 649] (by decide +kernel) (by decide +kernel)
set_option maxRecDepth 20000 in
theorem gL_law_X6_count : GoodIn wsL_law (wsV RL 13 RX6 yX6_count wsX6_count) := goodIn_app (goodIn_of _ (by decide +kernel)) ggL_law_X6_count
set_option maxRecDepth 20000 in
theorem ggL_law_X6_rack : GoodIn wsL_law wsX6_rack := goodIn_r _ [207, 12, 208, 209, 210, 11, 211, 44, 212, 213, 214, 215, 2, 216, 217, 218, 219, 220, 221, 222, 223, 224, 40, 225, 226, 177, 178, 179, 39, 180, 61, 166, 167, 181, 182, 183, 43, 184, 67, 227, 228, 229, 230, 31, 32, 231, 232, 117, 233, 234, 235, 236, 237, 68, 70, 609, 610, 611, 612, 613, 614, 615, 616, 617, 618, 619, 620, 621, 622, 623, 645, 646, 647, 648, 649, 638, 639, 640, 641, 642, 643, 644] (by decide +kernel) (by decide +kernel)
set_option maxRecDepth 20000 in
theorem gL_law_X6_rack : GoodIn wsL_law (wsV RL 19 RX6 yX6_rack wsX6_rack) := goodIn_app (goodIn_of _ (by decide +kernel)) ggL_law_X6_rack
set_option maxRecDepth 20000 in
theorem ggL_law_X6_batch : GoodIn wsL_law wsX6_batch := goodIn_r _ [241, 12, 242, 243, 244, 11, 245, 40, 36, 246, 247, 248, 2, 249, 217, 218, 219, 250, 251, 252, 39, 253, 55, 254, 255, 256, 257, 56, 189, 178, 179, 180, 61, 166, 167, 258, 259, 260, 261, 262, 263, 264, 265, 59, 266, 267, 268, 269, 270, 271, 272, 273, 274, 275, 276, 277, 278, 609, 610, 611, 612, 613, 614, 615, 616, 617, 618, 619, 620, 621, 622, 623, 636, 637, 638, 639, 640, 641, 642, 643, 644] (by decide +kernel) (by decide +kernel)
set_option maxRecDepth 20000 in
theorem gL_law_X6_batch : GoodIn wsL_law (wsV RL 26 RX6 yX6_batch wsX6_batch) := goodIn_app (goodIn_of _ (by decide +kernel)) ggL_law_X6_batch
