set_option maxRecDepth 20000 in
theorem ggL_put_X6_at : GoodIn wsL_put wsX6_at := goodIn_r _ [78, 10, 79, 80, 81, 82, 4, 83, 84, 85, 86, 87, 88, 89, 90, 91, 92, 230, 231, 232, 233, 234, 235, 236, 237, 238, 251, 252, 253, 254, 255, 256, 264, 265, 266, 267, 268] (by decide +kernel) (by decide +kernel)
set_option maxRecDepth 20000 in
theorem gL_put_X6_at : GoodIn wsL_put (wsV RL 23 RX6 yX6_at wsX6_at) := goodIn_app (goodIn_of _ (by decide +kernel)) ggL_put_X6_at
set_option maxRecDepth 20000 in
theorem ggL_put_X6_put : GoodIn wsL_put wsX6_put := goodIn_r _ [96, 97, 10, 98, 99, 100, 14, 101, 16, 21, 22, 102, 17, 41, 103, 104, 105, 106, 107, 108, 109, 110, 4, 111, 112, 72, 73, 74, 113, 114, 115, 116, 117, 118, 119, 26, 120, 28, 121, 29, 122, 123, 124, 46, 125, 126, 127, 50, 128, 129, 52, 130, 131, 132, 133, 134, 135, 136, 137, 18, 82, 83, 84, 85, 86, 87, 88, 89, 138, 139, 91, 92, 140, 141, 142, 143, 144, 145, 146, 147, 148, 149, 150, 65, 66, 62, 63, 64, 151, 152, 153, 154, 155, 156, 157, 158, 6, 159, 160, 161, 162, 163, 164, 165, 166, 167, 168, 169, 170, 230, 231, 232, 233, 234, 235, 236, 237, 238, 251, 252, 253, 254, 255, 256, 269, 270, 257, 258, 259, 260, 261, 262, 263, 264, 265, 266, 267, 268, 239, 240] (by decide +kernel) (by decide +kernel)
set_option maxRecDepth 20000 in
theorem gL_put_X6_put : GoodIn wsL_put (wsV RL 47 RX6 yX6_put wsX6_put) := goodIn_app (goodIn_of _ (by decide +kernel)) ggL_put_X6_put
set_option maxRecDepth 20000 in
theorem ggL_put_L_isNew : GoodIn wsL_put wsL_isNew := goodIn_r _ [174, 175, 176, 177, 4, 178, 10, 179, 180, 181, 14, 182, 17, 102, 183, 184, 138, 139, 87, 88, 89, 185, 186, 187, 26, 188, 28, 189, 190, 191, 192, 121, 57, 43, 44, 45, 46, 30, 31, 193, 194, 195, 196, 197, 198, 199, 200, 123, 201, 202, 203, 204, 205, 206, 207, 208, 209, 210, 211, 212, 213, 214, 215, 216, 217, 218, 219, 220, 221, 40, 222, 223, 20, 19, 224, 225, 226, 227, 228, 229, 42, 62, 63, 64, 65, 66, 230, 231, 232, 233, 234, 235, 236, 237, 238, 251, 252, 253, 254, 255, 256, 269, 270, 257, 258, 259, 260, 261, 262, 263] (by rfl) (by decide +kernel)
set_option maxRecDepth 20000 in
theorem gL_put_L_isNew : GoodIn wsL_put (va_wsS RL 94 yL_isNew wsL_isNew) := goodIn_app (goodIn_of _ (by decide +kernel)) ggL_put_L_isNew
set_option maxRecDepth 20000 in
theorem ggL_move_X6_at : GoodIn wsL_move wsX6_at := goodIn_r _ [5, 6, 7, 8, 9, 10, 4, 11, 12, 13, 14, 15, 16, 17, 18, 19, 20, 185, 186, 187, 188, 189, 190, 191, 192, 193, 194, 195, 196, 197, 198, 199, 200, 201, 202, 203, 204] (by decide +kernel) (by decide +kernel)
set_option maxRecDepth 20000 in
theorem gL_move_X6_at : GoodIn wsL_move (wsV RL 23 RX6 yX6_at wsX6_at) := goodIn_app (goodIn_of _ (by decide +kernel)) ggL_move_X6_at
set_option maxRecDepth 20000 in
theorem ggL_move_X6_count : GoodIn wsL_move wsX6_count := goodIn_r _ [24, 25, 26, 27, 28, 6, 29, 30, 31, 32, 33, 34, 35, 36, 37, 38, 39, 40, 41, 42, 43, 44, 45, 46, 47, 48, 4, 49, 50, 51, 52, 53, 54, 55, 56, 57, 58, 59, 60, 61, 62, 63, 64, 65, 66, 67, 68, 69, 70, 71, 72, 73, 74, 75, 76, 77, 78, 79, 80, 81, 82, 83, 84, 85, 86, 87, 88, 89, 90, 91, 92, 185, 186, 187, 188, 189, 190, 191, 192, 193, 205, 206, 207, 208, 209, 210, 211, 212, 213, 214, 215, 216, 194, 195, 196, 197, 198, 199, 217, 218, 219, 220, 221, 222, 223, 200, 201, 202, 203, 204] (by decide +kernel) (by decide +kernel)
set_option maxRecDepth 20000 in
theorem gL_move_X6_count : GoodIn wsL_move (wsV RL 13 RX6 yX6_count wsX6_count) := goodIn_app (goodIn_of _ (by decide +kernel)) ggL_move_X6_count
set_option maxRecDepth 20000 in
theorem ggL_move_X6_takeOut : GoodIn wsL_move wsX6_takeOut := goodIn_r _ [96, 97, 6, 98, 99, 100, 32, 101, 34, 39, 40, 102, 35, 59, 103, 104, 105, 106, 107, 108, 109, 110, 4, 111, 112, 90, 91, 92, 113, 114, 115, 116, 117, 118, 119, 44, 120, 46, 121, 47, 122, 123, 124, 64, 125, 126, 127, 68, 128, 129, 70, 130, 131, 132, 133, 134, 135, 136, 137, 58, 10, 11, 12, 13, 14, 15, 16, 17, 19, 20, 138, 139, 140, 141, 25, 142, 143, 144, 145, 146, 147, 148, 149, 150, 151, 152, 153, 185, 186, 187, 188, 189, 190, 191, 192, 193, 194, 195, 196, 197, 198, 199, 224, 225, 217, 218, 219, 220, 221, 222, 223, 200, 201, 202, 203, 204, 205, 206] (by decide +kernel) (by decide +kernel)
set_option maxRecDepth 20000 in
theorem gL_move_X6_takeOut : GoodIn wsL_move (wsV RL 50 RX6 yX6_takeOut wsX6_takeOut) := goodIn_app (goodIn_of _ (by decide +kernel)) ggL_move_X6_takeOut
set_option maxRecDepth 20000 in
theorem ggL_move_X6_lamp : GoodIn wsL_move wsX6_lamp := goodIn_r _ [157, 6, 158, 159, 160, 32, 161, 35, 58, 162, 163, 38, 37, 164, 165, 166, 167, 44, 168, 46, 16, 4, 17, 169, 170, 171, 172, 123, 60, 61, 62, 63, 64, 48, 49, 80, 81, 82, 83, 84, 185, 186, 187, 188, 189, 190, 191, 192, 193, 194, 195, 196, 197, 198, 199, 217, 218, 219, 220, 221, 222, 223] (by decide +kernel) (by decide +kernel)
set_option maxRecDepth 20000 in
theorem gL_move_X6_lamp : GoodIn wsL_move (wsV RL 29 RX6 yX6_lamp wsX6_lamp) := goodIn_app (goodIn_of _ (by decide +kernel)) ggL_move_X6_lamp
set_option maxRecDepth 20000 in
theorem ggL_move_X6_swap : GoodIn wsL_move wsX6_swap := goodIn_r _ [176, 97, 6, 98, 99, 100, 32, 101, 34, 39, 40, 102, 35, 59, 103, 104, 105, 106, 107, 108, 109, 110, 4, 111, 112, 90, 91, 92, 113, 114, 115, 116, 117, 118, 119, 44, 120, 46, 121, 47, 122, 123, 124, 64, 125, 126, 127, 68, 128, 129, 70, 130, 131, 132, 177, 178, 179, 180, 137, 10, 11, 12, 13, 14, 15, 16, 17, 19, 20, 181, 182, 183, 184, 58, 138, 139, 140, 141, 25, 142, 143, 144, 145, 146, 147, 148, 149, 150, 151, 152, 153, 185, 186, 187, 188, 189, 190, 191, 192, 193, 194, 195, 196, 197, 198, 199, 224, 225, 217, 218, 219, 220, 221, 222, 223, 200, 201, 202, 203, 204, 205, 206] (by decide +kernel) (by decide +kernel)
set_option maxRecDepth 20000 in
theorem gL_move_X6_swap : GoodIn wsL_move (wsV RL 53 RX6 yX6_swap wsX6_swap) := goodIn_app (goodIn_of _ (by decide +kernel)) ggL_move_X6_swap
set_option maxRecDepth 20000 in
theorem ggL_hour_X6_count : GoodIn wsL_hour wsX6_count := goodIn_r _ [5, 6, 7, 8, 9, 10, 11, 12, 13, 14, 15, 16, 17, 18, 19, 20, 21, 22, 23, 24, 25, 26, 27, 28, 29, 30, 4, 31, 32, 33, 34, 35, 36, 37, 38, 39, 40, 41, 42, 43, 44, 45, 46, 47, 48, 49, 50, 51, 52, 53, 54, 55, 56, 57, 58, 59, 60, 61, 62, 63, 64, 65, 66, 67, 68, 69, 70, 71, 72, 73, 74, 235, 236, 237, 238, 239, 240, 241, 242, 243, 244, 245, 246, 247, 248, 249, 250, 251, 252, 253, 254, 255, 256, 257, 258, 259, 260, 261, 262, 263, 264, 265, 266, 267, 268, 269, 270, 271, 272, 273] (by decide +kernel) (by decide +kernel)
set_option maxRecDepth 20000 in
theorem gL_hour_X6_count : GoodIn wsL_hour (wsV RL 13 RX6 yX6_count wsX6_count) := goodIn_app (goodIn_of _ (by decide +kernel)) ggL_hour_X6_count
set_option maxRecDepth 20000 in
theorem ggL_hour_X6_reason : GoodIn wsL_hour wsX6_reason := goodIn_r _ [78, 10, 79, 80, 81, 82, 26, 83, 28, 84, 4, 85, 86, 37, 38, 14, 39, 17, 40, 41, 42, 43, 44, 45, 46, 47, 48, 49, 50, 51, 52, 235, 236, 237, 238, 239, 240, 241, 242, 243, 256, 257, 258, 259, 260, 261, 262, 263, 264, 265, 266, 267, 268, 269, 270, 271, 272, 273] (by decide +kernel) (by decide +kernel)
set_option maxRecDepth 20000 in
theorem gL_hour_X6_reason : GoodIn wsL_hour (wsV RL 32 RX6 yX6_reason wsX6_reason) := goodIn_app (goodIn_of _ (by decide +kernel)) ggL_hour_X6_reason
