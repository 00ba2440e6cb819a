set_option maxRecDepth 100000 in
set_option maxHeartbeats 4000000 in
theorem ggL_law_X1_init : GoodIn wsL_law wsX1_init := goodIn_r _ [8, 9, 10, 11, 12, 13, 14, 15, 16, 17, 18, 19, 20, 21, 22, 23, 24, 25, 26, 27, 28, 29, 222, 223, 224, 225, 226, 240, 241, 242, 243, 244] rfl (by decide +kernel)
set_option maxRecDepth 100000 in
set_option maxHeartbeats 4000000 in
theorem gL_law_X1_init : GoodIn wsL_law (wsX1_init) := ggL_law_X1_init
set_option maxRecDepth 100000 in
set_option maxHeartbeats 4000000 in
theorem ggL_law_X2_init : GoodIn wsL_law wsX2_init := goodIn_r _ [32, 33, 10, 11, 12, 34, 35, 36, 37, 38, 39, 40, 227, 228, 229, 230, 231, 232, 233, 234, 235, 236, 237, 238, 239] rfl (by decide +kernel)
set_option maxRecDepth 100000 in
set_option maxHeartbeats 4000000 in
theorem gL_law_X2_init : GoodIn wsL_law (wsX2_init) := ggL_law_X2_init
set_option maxRecDepth 100000 in
set_option maxHeartbeats 4000000 in
theorem ggL_law_X1_init_ : GoodIn wsL_law wsX1_init_ := goodIn_r _ [44, 13, 18, 222, 223, 224, 225, 226] rfl (by decide +kernel)
set_option maxRecDepth 100000 in
set_option maxHeartbeats 4000000 in
theorem gL_law_X1_init_ : GoodIn wsL_law (wsV RL 13 RX1 yX1_init_ wsX1_init_) := goodIn_app (goodIn_r _ [41, 42, 43, 2] rfl rfl) ggL_law_X1_init_
set_option maxRecDepth 100000 in
set_option maxHeartbeats 4000000 in
theorem ggL_law_X2_init_ : GoodIn wsL_law wsX2_init_ := goodIn_r _ [48, 40, 49, 50, 34, 227, 228, 229, 230, 231, 232, 233, 234, 235, 236, 237, 238, 239] rfl (by decide +kernel)
set_option maxRecDepth 100000 in
set_option maxHeartbeats 4000000 in
theorem gL_law_X2_init_ : GoodIn wsL_law (wsV RL 16 RX2 yX2_init_ wsX2_init_) := goodIn_app (goodIn_r _ [45, 46, 47, 5] rfl rfl) ggL_law_X2_init_
set_option maxRecDepth 100000 in
set_option maxHeartbeats 4000000 in
theorem ggL_law_X1_setKeyByte : GoodIn wsL_law wsX1_setKeyByte := goodIn_r _ [54, 18, 13, 55, 56, 2, 57, 222, 223, 224, 225, 226] rfl (by decide +kernel)
set_option maxRecDepth 100000 in
set_option maxHeartbeats 4000000 in
theorem gL_law_X1_setKeyByte : GoodIn wsL_law (wsV RL 17 RX1 yX1_setKeyByte wsX1_setKeyByte) := goodIn_app (goodIn_r _ [51, 52, 53, 2] rfl rfl) ggL_law_X1_setKeyByte
set_option maxRecDepth 100000 in
set_option maxHeartbeats 4000000 in
theorem ggL_law_X2_setKeyByte : GoodIn wsL_law wsX2_setKeyByte := goodIn_r _ [61, 49, 34, 227, 228, 229, 230, 231, 232, 233, 234, 235, 236, 237, 238, 239] rfl (by decide +kernel)
set_option maxRecDepth 100000 in
set_option maxHeartbeats 4000000 in
theorem gL_law_X2_setKeyByte : GoodIn wsL_law (wsV RL 21 RX2 yX2_setKeyByte wsX2_setKeyByte) := goodIn_app (goodIn_r _ [58, 59, 60, 5] rfl rfl) ggL_law_X2_setKeyByte
set_option maxRecDepth 100000 in
set_option maxHeartbeats 4000000 in
theorem ggL_law_X1_start : GoodIn wsL_law wsX1_start := goodIn_r _ [65, 18, 17, 13, 19, 20, 66, 67, 68, 16, 69, 25, 70, 71, 29, 72, 73, 74, 75, 26, 28, 76, 77, 78, 79, 80, 81, 82, 83, 84, 85, 86, 87, 88, 27, 89, 90, 91, 92, 93, 94, 95, 96, 97, 98, 99, 100, 222, 223, 224, 225, 226, 240, 241, 242, 243, 244] rfl (by decide +kernel)
set_option maxRecDepth 100000 in
set_option maxHeartbeats 4000000 in
theorem gL_law_X1_start : GoodIn wsL_law (wsV RL 22 RX1 yX1_start wsX1_start) := goodIn_app (goodIn_r _ [62, 63, 64, 2] rfl rfl) ggL_law_X1_start
set_option maxRecDepth 100000 in
set_option maxHeartbeats 4000000 in
theorem ggL_law_X2_start : GoodIn wsL_law wsX2_start := goodIn_r _ [104, 40, 35, 105, 106, 107, 108, 109, 49, 50, 34, 110, 111, 5, 112, 113, 114, 115, 116, 117, 118, 119, 120, 121, 122, 123, 124, 125, 38, 126, 127, 128, 129, 37, 36, 39, 130, 131, 132, 133, 134, 135, 136, 227, 228, 229, 230, 231, 232, 233, 234, 235, 236, 237, 238, 239] rfl (by decide +kernel)
set_option maxRecDepth 100000 in
set_option maxHeartbeats 4000000 in
theorem gL_law_X2_start : GoodIn wsL_law (wsV RL 25 RX2 yX2_start wsX2_start) := goodIn_app (goodIn_r _ [101, 102, 103, 5] rfl rfl) ggL_law_X2_start
set_option maxRecDepth 100000 in
set_option maxHeartbeats 4000000 in
theorem ggL_law_X1_update : GoodIn wsL_law wsX1_update := goodIn_r _ [140, 18, 55, 56, 2, 57, 141, 142, 143, 144, 17, 20, 145, 82, 83, 16, 84, 28, 26, 29, 85, 86, 87, 88, 27, 25, 70, 89, 90, 91, 92, 93, 94, 95, 96, 97, 98, 99, 100, 72, 73, 74, 75, 222, 223, 224, 225, 226, 240, 241, 242, 243, 244] rfl (by decide +kernel)
set_option maxRecDepth 100000 in
set_option maxHeartbeats 4000000 in
theorem gL_law_X1_update : GoodIn wsL_law (wsV RL 26 RX1 yX1_update wsX1_update) := goodIn_app (goodIn_r _ [137, 138, 139, 2] rfl rfl) ggL_law_X1_update
set_option maxRecDepth 100000 in
set_option maxHeartbeats 4000000 in
theorem ggL_law_X2_update : GoodIn wsL_law wsX2_update := goodIn_r _ [149, 49, 109, 121, 122, 123, 5, 124, 107, 108, 125, 38, 126, 127, 128, 129, 37, 36, 35, 39, 110, 111, 112, 113, 114, 115, 116, 117, 118, 119, 120, 130, 131, 132, 133, 134, 135, 136, 227, 228, 229, 230, 231, 232, 233, 234, 235, 236, 237, 238, 239] rfl (by decide +kernel)
set_option maxRecDepth 100000 in
set_option maxHeartbeats 4000000 in
theorem gL_law_X2_update : GoodIn wsL_law (wsV RL 30 RX2 yX2_update wsX2_update) := goodIn_app (goodIn_r _ [146, 147, 148, 5] rfl rfl) ggL_law_X2_update
set_option maxRecDepth 100000 in
set_option maxHeartbeats 4000000 in
theorem ggL_law_X1_updates : GoodIn wsL_law wsX1_updates := goodIn_r _ [153, 18, 154, 155, 156, 157, 158, 159, 160, 2, 161, 141, 142, 143, 144, 17, 20, 145, 82, 83, 16, 84, 28, 26, 29, 85, 86, 87, 88, 27, 25, 70, 89, 90, 91, 92, 93, 94, 95, 96, 97, 98, 99, 100, 72, 73, 74, 75, 222, 223, 224, 225, 226, 240, 241, 242, 243, 244] rfl (by decide +kernel)
set_option maxRecDepth 100000 in
set_option maxHeartbeats 4000000 in
theorem gL_law_X1_updates : GoodIn wsL_law (wsV RL 31 RX1 yX1_updates wsX1_updates) := goodIn_app (goodIn_r _ [150, 151, 152, 2] rfl rfl) ggL_law_X1_updates
set_option maxRecDepth 100000 in
set_option maxHeartbeats 4000000 in
theorem ggL_law_X2_updates : GoodIn wsL_law wsX2_updates := goodIn_r _ [165, 49, 109, 121, 122, 123, 5, 124, 107, 108, 125, 38, 126, 127, 128, 129, 37, 36, 35, 39, 110, 111, 112, 113, 114, 115, 116, 117, 118, 119, 120, 130, 131, 132, 133, 134, 135, 136, 227, 228, 229, 230, 231, 232, 233, 234, 235, 236, 237, 238, 239] rfl (by decide +kernel)
set_option maxRecDepth 100000 in
set_option maxHeartbeats 4000000 in
theorem gL_law_X2_updates : GoodIn wsL_law (wsV RL 35 RX2 yX2_updates wsX2_updates) := goodIn_app (goodIn_r _ [162, 163, 164, 5] rfl rfl) ggL_law_X2_updates
set_option maxRecDepth 100000 in
set_option maxHeartbeats 4000000 in
theorem ggL_law_X1_fill : GoodIn wsL_law wsX1_fill := goodIn_r _ [169, 18, 55, 56, 2, 57, 141, 142, 143, 144, 17, 20, 145, 82, 83, 16, 84, 28, 26, 29, 85, 86, 87, 88, 27, 25, 70, 89, 90, 91, 92, 93, 94, 95, 96, 97, 98, 99, 100, 72, 73, 74, 75, 222, 223, 224, 225, 226, 240, 241, 242, 243, 244] rfl (by decide +kernel)
set_option maxRecDepth 100000 in
set_option maxHeartbeats 4000000 in
theorem gL_law_X1_fill : GoodIn wsL_law (wsV RL 36 RX1 yX1_fill wsX1_fill) := goodIn_app (goodIn_r _ [166, 167, 168, 2] rfl rfl) ggL_law_X1_fill
set_option maxRecDepth 100000 in
set_option maxHeartbeats 4000000 in
theorem ggL_law_X2_fill : GoodIn wsL_law wsX2_fill := goodIn_r _ [173, 49, 109, 121, 122, 123, 5, 124, 107, 108, 125, 38, 126, 127, 128, 129, 37, 36, 35, 39, 110, 111, 112, 113, 114, 115, 116, 117, 118, 119, 120, 130, 131, 132, 133, 134, 135, 136, 227, 228, 229, 230, 231, 232, 233, 234, 235, 236, 237, 238, 239] rfl (by decide +kernel)
set_option maxRecDepth 100000 in
set_option maxHeartbeats 4000000 in
theorem gL_law_X2_fill : GoodIn wsL_law (wsV RL 39 RX2 yX2_fill wsX2_fill) := goodIn_app (goodIn_r _ [170, 171, 172, 5] rfl rfl) ggL_law_X2_fill
set_option maxRecDepth 100000 in
set_option maxHeartbeats 4000000 in
theorem ggL_law_X1_finish : GoodIn wsL_law wsX1_finish := goodIn_r _ [177, 18, 17, 178, 179, 180, 16, 181, 85, 86, 87, 88, 27, 25, 70, 29, 89, 90, 91, 92, 93, 94, 95, 96, 97, 26, 98, 99, 100, 222, 223, 224, 225, 226, 240, 241, 242, 243, 244] rfl (by decide +kernel)
set_option maxRecDepth 100000 in
set_option maxHeartbeats 4000000 in
theorem gL_law_X1_finish : GoodIn wsL_law (wsV RL 40 RX1 yX1_finish wsX1_finish) := goodIn_app (goodIn_r _ [174, 175, 176, 2] rfl rfl) ggL_law_X1_finish
set_option maxRecDepth 100000 in
set_option maxHeartbeats 4000000 in
theorem ggL_law_X2_finish : GoodIn wsL_law wsX2_finish := goodIn_r _ [185, 49, 108, 107, 38, 50, 126, 127, 128, 5, 129, 37, 36, 35, 39, 110, 111, 112, 113, 114, 115, 116, 117, 118, 119, 120, 130, 131, 132, 133, 134, 135, 136, 227, 228, 229, 230, 231, 232, 233, 234, 235, 236, 237, 238, 239] rfl (by decide +kernel)
set_option maxRecDepth 100000 in
set_option maxHeartbeats 4000000 in
theorem gL_law_X2_finish : GoodIn wsL_law (wsV RL 44 RX2 yX2_finish wsX2_finish) := goodIn_app (goodIn_r _ [182, 183, 184, 5] rfl rfl) ggL_law_X2_finish
set_option maxRecDepth 100000 in
set_option maxHeartbeats 4000000 in
theorem ggL_law_X1_out : GoodIn wsL_law wsX1_out := goodIn_r _ [189, 18, 19, 17, 190, 191, 192, 16, 193, 25, 222, 223, 224, 225, 226, 240, 241, 242, 243, 244] rfl (by decide +kernel)
set_option maxRecDepth 100000 in
set_option maxHeartbeats 4000000 in
theorem gL_law_X1_out : GoodIn wsL_law (wsV RL 45 RX1 yX1_out wsX1_out) := goodIn_app (goodIn_r _ [186, 187, 188, 2] rfl rfl) ggL_law_X1_out
set_option maxRecDepth 100000 in
set_option maxHeartbeats 4000000 in
theorem ggL_law_X2_out : GoodIn wsL_law wsX2_out := goodIn_r _ [197, 50, 106, 35, 227, 228, 229, 230, 231, 232, 233, 234, 235, 236, 237, 238, 239] rfl (by decide +kernel)
set_option maxRecDepth 100000 in
set_option maxHeartbeats 4000000 in
theorem gL_law_X2_out : GoodIn wsL_law (wsV RL 49 RX2 yX2_out wsX2_out) := goodIn_app (goodIn_r _ [194, 195, 196, 5] rfl rfl) ggL_law_X2_out
set_option maxRecDepth 100000 in
set_option maxHeartbeats 4000000 in
theorem ggL_law_X1_length : GoodIn wsL_law wsX1_length := goodIn_r _ [201, 20, 202, 203, 204, 2, 205, 18, 222, 223, 224, 225, 226] rfl (by decide +kernel)
set_option maxRecDepth 100000 in
set_option maxHeartbeats 4000000 in
theorem gL_law_X1_length : GoodIn wsL_law (wsV RL 50 RX1 yX1_length wsX1_length) := goodIn_app (goodIn_r _ [198, 199, 200, 2] rfl rfl) ggL_law_X1_length
set_option maxRecDepth 100000 in
set_option maxHeartbeats 4000000 in
theorem ggL_law_X2_length : GoodIn wsL_law wsX2_length := goodIn_r _ [209, 49, 50, 109, 227, 228, 229, 230, 231, 232, 233, 234, 235, 236, 237, 238, 239] rfl (by decide +kernel)
set_option maxRecDepth 100000 in
set_option maxHeartbeats 4000000 in
theorem gL_law_X2_length : GoodIn wsL_law (wsV RL 54 RX2 yX2_length wsX2_length) := goodIn_app (goodIn_r _ [206, 207, 208, 5] rfl rfl) ggL_law_X2_length
set_option maxRecDepth 100000 in
set_option maxHeartbeats 4000000 in
theorem ggL_law_X1_word : GoodIn wsL_law wsX1_word := goodIn_r _ [213, 17, 202, 203, 204, 2, 205, 18, 214, 215, 216, 16, 217, 25, 222, 223, 224, 225, 226, 240, 241, 242, 243, 244] rfl (by decide +kernel)
set_option maxRecDepth 100000 in
set_option maxHeartbeats 4000000 in
theorem gL_law_X1_word : GoodIn wsL_law (wsV RL 55 RX1 yX1_word wsX1_word) := goodIn_app (goodIn_r _ [210, 211, 212, 2] rfl rfl) ggL_law_X1_word
set_option maxRecDepth 100000 in
set_option maxHeartbeats 4000000 in
theorem ggL_law_X2_word : GoodIn wsL_law wsX2_word := goodIn_r _ [221, 49, 50, 35, 227, 228, 229, 230, 231, 232, 233, 234, 235, 236, 237, 238, 239] rfl (by decide +kernel)
set_option maxRecDepth 100000 in
set_option maxHeartbeats 4000000 in
theorem gL_law_X2_word : GoodIn wsL_law (wsV RL 58 RX2 yX2_word wsX2_word) := goodIn_app (goodIn_r _ [218, 219, 220, 5] rfl rfl) ggL_law_X2_word
