set_option maxRecDepth 20000 in
theorem ggL_seen_X6_count : GoodIn wsL_seen wsX6_count := goodIn_r _ [7, 8, 9, 10, 11, 12, 13, 14, 15, 16, 17, 18, 19, 20, 21, 22, 23, 24, 25, 26, 27, 28, 29, 30, 31, 32, 6, 33, 34, 35, 36, 37, 38, 39, 40, 41, 42, 43, 44, 45, 46, 47, 48, 49, 50, 51, 52, 53, 54, 55, 56, 57, 58, 59, 60, 61, 62, 63, 64, 65, 66, 67, 68, 69, 70, 71, 72, 73, 74, 75, 76, 184, 185, 186, 187, 188, 189, 190, 191, 192, 193, 194, 195, 196, 197, 198, 199, 200, 201, 202, 203, 204, 205, 206, 207, 208, 209, 210, 211, 212, 213, 214, 215, 216, 217, 218, 219, 220, 221, 222] (by decide +kernel) (by decide +kernel)
set_option maxRecDepth 20000 in
theorem gL_seen_X6_count : GoodIn wsL_seen (wsV RL 13 RX6 yX6_count wsX6_count) := goodIn_app (goodIn_of _ (by decide +kernel)) ggL_seen_X6_count
set_option maxRecDepth 20000 in
theorem ggL_seen_X6_rack : GoodIn wsL_seen wsX6_rack := goodIn_r _ [80, 12, 81, 82, 83, 16, 84, 43, 85, 86, 87, 88, 6, 89, 90, 91, 92, 93, 94, 95, 96, 97, 19, 98, 99, 44, 45, 46, 28, 47, 48, 32, 33, 49, 50, 51, 52, 53, 54, 100, 101, 102, 103, 23, 24, 104, 105, 75, 106, 107, 108, 109, 110, 111, 112, 184, 185, 186, 187, 188, 189, 190, 191, 192, 205, 206, 207, 208, 209, 210, 218, 219, 220, 221, 222, 211, 212, 213, 214, 215, 216, 217] (by decide +kernel) (by decide +kernel)
set_option maxRecDepth 20000 in
theorem gL_seen_X6_rack : GoodIn wsL_seen (wsV RL 19 RX6 yX6_rack wsX6_rack) := goodIn_app (goodIn_of _ (by decide +kernel)) ggL_seen_X6_rack
set_option maxRecDepth 20000 in
theorem ggL_seen_X6_at : GoodIn wsL_seen wsX6_at := goodIn_r _ [116, 12, 117, 118, 119, 120, 6, 121, 122, 88, 89, 90, 91, 92, 123, 98, 99, 184, 185, 186, 187, 188, 189, 190, 191, 192, 205, 206, 207, 208, 209, 210, 218, 219, 220, 221, 222] (by decide +kernel) (by decide +kernel)
set_option maxRecDepth 20000 in
theorem gL_seen_X6_at : GoodIn wsL_seen (wsV RL 23 RX6 yX6_at wsX6_at) := goodIn_app (goodIn_of _ (by decide +kernel)) ggL_seen_X6_at
set_option maxRecDepth 20000 in
theorem ggL_seen_X6_batch : GoodIn wsL_seen wsX6_batch := goodIn_r _ [127, 12, 128, 129, 130, 16, 131, 19, 132, 133, 134, 135, 6, 136, 90, 91, 92, 137, 138, 139, 28, 140, 30, 141, 142, 143, 144, 145, 59, 45, 46, 47, 48, 32, 33, 146, 147, 148, 149, 150, 151, 152, 153, 154, 155, 156, 157, 158, 159, 160, 161, 162, 163, 164, 165, 166, 167, 184, 185, 186, 187, 188, 189, 190, 191, 192, 205, 206, 207, 208, 209, 210, 223, 224, 211, 212, 213, 214, 215, 216, 217] (by decide +kernel) (by decide +kernel)
set_option maxRecDepth 20000 in
theorem gL_seen_X6_batch : GoodIn wsL_seen (wsV RL 26 RX6 yX6_batch wsX6_batch) := goodIn_app (goodIn_of _ (by decide +kernel)) ggL_seen_X6_batch
set_option maxRecDepth 20000 in
theorem ggL_seen_X6_lamp : GoodIn wsL_seen wsX6_lamp := goodIn_r _ [171, 12, 172, 173, 174, 16, 175, 19, 42, 176, 177, 22, 21, 178, 179, 180, 181, 28, 182, 30, 91, 6, 92, 183, 151, 152, 153, 154, 44, 45, 46, 47, 48, 32, 33, 64, 65, 66, 67, 68, 184, 185, 186, 187, 188, 189, 190, 191, 192, 205, 206, 207, 208, 209, 210, 211, 212, 213, 214, 215, 216, 217] (by decide +kernel) (by decide +kernel)
set_option maxRecDepth 20000 in
theorem gL_seen_X6_lamp : GoodIn wsL_seen (wsV RL 29 RX6 yX6_lamp wsX6_lamp) := goodIn_app (goodIn_of _ (by decide +kernel)) ggL_seen_X6_lamp
set_option maxRecDepth 20000 in
theorem ggL_isWhole_X6_count : GoodIn wsL_isWhole wsX6_count := goodIn_r _ [5, 6, 7, 8, 9, 10, 11, 12, 13, 14, 15, 16, 17, 18, 19, 20, 21, 22, 23, 24, 25, 26, 27, 28, 29, 30, 4, 31, 32, 33, 34, 35, 36, 37, 38, 39, 40, 41, 42, 43, 44, 45, 46, 47, 48, 49, 50, 51, 52, 53, 54, 55, 56, 57, 58, 59, 60, 61, 62, 63, 64, 65, 66, 67, 68, 69, 70, 71, 72, 73, 74, 211, 212, 213, 214, 215, 216, 217, 218, 219, 220, 221, 222, 223, 224, 225, 226, 227, 228, 229, 230, 231, 232, 233, 234, 235, 236, 237, 238, 239, 240, 241, 242, 243, 244, 245, 246, 247, 248, 249] (by decide +kernel) (by decide +kernel)
set_option maxRecDepth 20000 in
theorem gL_isWhole_X6_count : GoodIn wsL_isWhole (wsV RL 13 RX6 yX6_count wsX6_count) := goodIn_app (goodIn_of _ (by decide +kernel)) ggL_isWhole_X6_count
set_option maxRecDepth 20000 in
theorem ggL_isWhole_X6_lamp : GoodIn wsL_isWhole wsX6_lamp := goodIn_r _ [78, 10, 79, 80, 81, 14, 82, 17, 40, 83, 84, 20, 19, 85, 86, 87, 88, 26, 89, 28, 90, 4, 91, 92, 93, 94, 95, 96, 42, 43, 44, 45, 46, 30, 31, 62, 63, 64, 65, 66, 211, 212, 213, 214, 215, 216, 217, 218, 219, 232, 233, 234, 235, 236, 237, 238, 239, 240, 241, 242, 243, 244] (by decide +kernel) (by decide +kernel)
set_option maxRecDepth 20000 in
theorem gL_isWhole_X6_lamp : GoodIn wsL_isWhole (wsV RL 29 RX6 yX6_lamp wsX6_lamp) := goodIn_app (goodIn_of _ (by decide +kernel)) ggL_isWhole_X6_lamp
set_option maxRecDepth 20000 in
theorem ggL_isWhole_X6_reason : GoodIn wsL_isWhole wsX6_reason := goodIn_r _ [100, 10, 101, 102, 87, 88, 26, 89, 28, 90, 4, 91, 103, 37, 38, 14, 39, 17, 40, 41, 42, 43, 44, 45, 46, 47, 48, 49, 50, 51, 52, 211, 212, 213, 214, 215, 216, 217, 218, 219, 232, 233, 234, 235, 236, 237, 238, 239, 240, 241, 242, 243, 244, 245, 246, 247, 248, 249] (by decide +kernel) (by decide +kernel)
set_option maxRecDepth 20000 in
theorem gL_isWhole_X6_reason : GoodIn wsL_isWhole (wsV RL 32 RX6 yX6_reason wsX6_reason) := goodIn_app (goodIn_of _ (by decide +kernel)) ggL_isWhole_X6_reason
set_option maxRecDepth 20000 in
theorem ggL_isWhole_X6_at : GoodIn wsL_isWhole wsX6_at := goodIn_r _ [107, 10, 108, 109, 110, 111, 4, 112, 113, 114, 115, 116, 90, 91, 117, 118, 119, 211, 212, 213, 214, 215, 216, 217, 218, 219, 232, 233, 234, 235, 236, 237, 245, 246, 247, 248, 249] (by decide +kernel) (by decide +kernel)
set_option maxRecDepth 20000 in
theorem gL_isWhole_X6_at : GoodIn wsL_isWhole (wsV RL 23 RX6 yX6_at wsX6_at) := goodIn_app (goodIn_of _ (by decide +kernel)) ggL_isWhole_X6_at
set_option maxRecDepth 20000 in
theorem ggL_isWhole_X6_rack : GoodIn wsL_isWhole wsX6_rack := goodIn_r _ [123, 10, 124, 125, 126, 14, 127, 41, 128, 129, 130, 114, 4, 115, 116, 90, 91, 131, 132, 133, 134, 135, 17, 118, 119, 42, 43, 44, 26, 45, 46, 30, 31, 47, 48, 49, 50, 51, 52, 136, 137, 138, 139, 21, 22, 140, 141, 73, 142, 143, 144, 145, 146, 147, 148, 211, 212, 213, 214, 215, 216, 217, 218, 219, 232, 233, 234, 235, 236, 237, 245, 246, 247, 248, 249, 238, 239, 240, 241, 242, 243, 244] (by decide +kernel) (by decide +kernel)
set_option maxRecDepth 20000 in
theorem gL_isWhole_X6_rack : GoodIn wsL_isWhole (wsV RL 19 RX6 yX6_rack wsX6_rack) := goodIn_app (goodIn_of _ (by decide +kernel)) ggL_isWhole_X6_rack
