set_option maxRecDepth 20000 in
theorem ggL_law_X4_init : GoodIn wsL_law wsX4_init := goodIn_r _ [8, 9, 10, 11, 12, 13, 14, 15, 16, 17, 18, 19, 20, 21, 22, 23, 24, 25, 422, 423, 424, 425, 426, 427, 428, 429, 430, 431, 432] (by decide +kernel) (by decide +kernel)
set_option maxRecDepth 20000 in
theorem gL_law_X4_init : GoodIn wsL_law (wsX4_init) := ggL_law_X4_init
set_option maxRecDepth 20000 in
theorem ggL_law_X5_init : GoodIn wsL_law wsX5_init := goodIn_r _ [28, 29, 10, 11, 18, 30, 31, 32, 33, 34, 35, 36, 37, 38, 39, 40, 41, 42, 43, 44, 433, 434, 435, 436, 437, 438, 439, 440, 441, 442, 443, 444, 445, 446, 447, 448, 449, 450] (by decide +kernel) (by decide +kernel)
set_option maxRecDepth 20000 in
theorem gL_law_X5_init : GoodIn wsL_law (wsX5_init) := ggL_law_X5_init
set_option maxRecDepth 20000 in
theorem ggL_law_X4_hang : GoodIn wsL_law wsX4_hang := goodIn_r _ [48, 13, 49, 50, 2, 51, 52, 53, 54, 55, 56, 57, 58, 59, 60, 61, 62, 63, 64, 65, 66, 67, 68, 69, 70, 71, 72, 73, 74, 14, 75, 76, 77, 78, 79, 80, 81, 82, 83, 84, 85, 86, 87, 10, 11, 88, 89, 90, 91, 92, 93, 94, 95, 96, 422, 423, 424, 425, 426, 427, 428, 429, 430, 431, 432, 451, 452, 453, 454, 455, 456, 457, 458, 459, 460, 461] (by decide +kernel) (by decide +kernel)
set_option maxRecDepth 20000 in
theorem gL_law_X4_hang : GoodIn wsL_law (wsV RL 13 RX4 yX4_hang wsX4_hang) := goodIn_app (goodIn_of _ (by decide +kernel)) ggL_law_X4_hang
set_option maxRecDepth 20000 in
theorem ggL_law_X5_hang : GoodIn wsL_law wsX5_hang := goodIn_r _ [100, 37, 30, 31, 32, 33, 34, 35, 36, 101, 102, 5, 103, 104, 105, 106, 107, 108, 109, 110, 111, 112, 113, 114, 115, 116, 117, 118, 38, 39, 433, 434, 435, 436, 437, 438, 439, 440, 441, 442, 443, 444, 445, 446, 447, 448, 449, 450] (by decide +kernel) (by decide +kernel)
set_option maxRecDepth 20000 in
theorem gL_law_X5_hang : GoodIn wsL_law (wsV RL 17 RX5 yX5_hang wsX5_hang) := goodIn_app (goodIn_of _ (by decide +kernel)) ggL_law_X5_hang
set_option maxRecDepth 20000 in
theorem ggL_law_X4_weigh : GoodIn wsL_law wsX4_weigh := goodIn_r _ [122, 13, 123, 49, 50, 2, 51, 52, 53, 54, 124, 125, 126, 127, 24, 422, 423, 424, 425, 426, 427, 428, 429, 430, 431, 432, 451, 452, 453, 454, 460, 461, 455, 456, 457, 458, 459] (by decide +kernel) (by decide +kernel)
set_option maxRecDepth 20000 in
theorem gL_law_X4_weigh : GoodIn wsL_law (wsV RL 18 RX4 yX4_weigh wsX4_weigh) := goodIn_app (goodIn_of _ (by decide +kernel)) ggL_law_X4_weigh
set_option maxRecDepth 20000 in
theorem ggL_law_X5_weigh : GoodIn wsL_law wsX5_weigh := goodIn_r _ [131, 37, 31, 101, 102, 5, 103, 104, 105, 106, 132, 133, 134, 135, 44, 433, 434, 435, 436, 437, 438, 439, 440, 441, 442, 443, 444, 445, 446, 447, 448, 449, 450] (by decide +kernel) (by decide +kernel)
set_option maxRecDepth 20000 in
theorem gL_law_X5_weigh : GoodIn wsL_law (wsV RL 22 RX5 yX5_weigh wsX5_weigh) := goodIn_app (goodIn_of _ (by decide +kernel)) ggL_law_X5_weigh
set_option maxRecDepth 20000 in
theorem ggL_law_X4_ring : GoodIn wsL_law wsX4_ring := goodIn_r _ [139, 13, 49, 50, 2, 51, 52, 53, 54, 140, 141, 142, 143, 144, 145, 146, 147, 124, 125, 126, 127, 24, 148, 149, 150, 151, 152, 153, 154, 155, 156, 157, 158, 159, 160, 161, 162, 163, 25, 164, 165, 166, 167, 85, 168, 169, 170, 171, 70, 172, 173, 422, 423, 424, 425, 426, 427, 428, 429, 430, 431, 432, 451, 452, 453, 454, 455, 456, 457, 458, 459, 460, 461] (by decide +kernel) (by decide +kernel)
set_option maxRecDepth 20000 in
theorem gL_law_X4_ring : GoodIn wsL_law (wsV RL 23 RX4 yX4_ring wsX4_ring) := goodIn_app (goodIn_of _ (by decide +kernel)) ggL_law_X4_ring
set_option maxRecDepth 20000 in
theorem ggL_law_X5_ring : GoodIn wsL_law wsX5_ring := goodIn_r _ [177, 37, 101, 102, 5, 103, 104, 105, 106, 178, 179, 180, 181, 107, 108, 109, 110, 30, 132, 133, 134, 135, 44, 182, 183, 184, 185, 32, 34, 186, 33, 36, 31, 35, 433, 434, 435, 436, 437, 438, 439, 440, 441, 442, 443, 444, 445, 446, 447, 448, 449, 450] (by decide +kernel) (by decide +kernel)
set_option maxRecDepth 20000 in
theorem gL_law_X5_ring : GoodIn wsL_law (wsV RL 26 RX5 yX5_ring wsX5_ring) := goodIn_app (goodIn_of _ (by decide +kernel)) ggL_law_X5_ring
set_option maxRecDepth 20000 in
theorem ggL_law_X4_hum : GoodIn wsL_law wsX4_hum := goodIn_r _ [190, 13, 191, 49, 50, 2, 51, 52, 53, 54, 192, 193, 194, 195, 144, 145, 146, 147, 124, 125, 126, 127, 24, 422, 423, 424, 425, 426, 427, 428, 429, 430, 431, 432, 455, 456, 457, 458, 459] (by decide +kernel) (by decide +kernel)
set_option maxRecDepth 20000 in
theorem gL_law_X4_hum : GoodIn wsL_law (wsV RL 27 RX4 yX4_hum wsX4_hum) := goodIn_app (goodIn_of _ (by decide +kernel)) ggL_law_X4_hum
set_option maxRecDepth 20000 in
theorem ggL_law_X5_hum : GoodIn wsL_law wsX5_hum := goodIn_r _ [199, 35, 37, 101, 102, 5, 103, 104, 105, 106, 178, 179, 180, 181, 107, 108, 109, 110, 30, 132, 133, 134, 135, 44, 433, 434, 435, 436, 437, 438, 439, 440, 441, 442, 443, 444, 445, 446, 447, 448, 449, 450] (by decide +kernel) (by decide +kernel)
set_option maxRecDepth 20000 in
theorem gL_law_X5_hum : GoodIn wsL_law (wsV RL 30 RX5 yX5_hum wsX5_hum) := goodIn_app (goodIn_of _ (by decide +kernel)) ggL_law_X5_hum
set_option maxRecDepth 20000 in
theorem ggL_law_X4_tune : GoodIn wsL_law wsX4_tune := goodIn_r _ [203, 13, 191, 49, 50, 2, 51, 52, 53, 54, 192, 193, 194, 195, 144, 145, 146, 147, 124, 125, 126, 127, 24, 422, 423, 424, 425, 426, 427, 428, 429, 430, 431, 432, 455, 456, 457, 458, 459] (by decide +kernel) (by decide +kernel)
set_option maxRecDepth 20000 in
theorem gL_law_X4_tune : GoodIn wsL_law (wsV RL 31 RX4 yX4_tune wsX4_tune) := goodIn_app (goodIn_of _ (by decide +kernel)) ggL_law_X4_tune
set_option maxRecDepth 20000 in
theorem ggL_law_X5_tune : GoodIn wsL_law wsX5_tune := goodIn_r _ [207, 35, 37, 101, 102, 5, 103, 104, 105, 106, 178, 179, 180, 181, 107, 108, 109, 110, 30, 132, 133, 134, 135, 44, 433, 434, 435, 436, 437, 438, 439, 440, 441, 442, 443, 444, 445, 446, 447, 448, 449, 450] (by decide +kernel) (by decide +kernel)
set_option maxRecDepth 20000 in
theorem gL_law_X5_tune : GoodIn wsL_law (wsV RL 35 RX5 yX5_tune wsX5_tune) := goodIn_app (goodIn_of _ (by decide +kernel)) ggL_law_X5_tune
set_option maxRecDepth 20000 in
theorem ggL_law_X4_fit : GoodIn wsL_law wsX4_fit := goodIn_r _ [211, 13, 212, 143, 153, 49, 50, 2, 51, 52, 53, 54, 124, 125, 126, 127, 24, 140, 141, 142, 213, 214, 215, 422, 423, 424, 425, 426, 427, 428, 429, 430, 431, 432, 451, 452, 453, 454, 455, 456, 457, 458, 459] (by decide +kernel) (by decide +kernel)
set_option maxRecDepth 20000 in
theorem gL_law_X4_fit : GoodIn wsL_law (wsV RL 36 RX4 yX4_fit wsX4_fit) := goodIn_app (goodIn_of _ (by decide +kernel)) ggL_law_X4_fit
set_option maxRecDepth 20000 in
theorem ggL_law_X5_fit : GoodIn wsL_law wsX5_fit := goodIn_r _ [219, 37, 33, 101, 102, 5, 103, 104, 105, 106, 107, 108, 109, 110, 30, 220, 221, 222, 223, 132, 133, 134, 135, 44, 433, 434, 435, 436, 437, 438, 439, 440, 441, 442, 443, 444, 445, 446, 447, 448, 449, 450] (by decide +kernel) (by decide +kernel)
set_option maxRecDepth 20000 in
theorem gL_law_X5_fit : GoodIn wsL_law (wsV RL 39 RX5 yX5_fit wsX5_fit) := goodIn_app (goodIn_of _ (by decide +kernel)) ggL_law_X5_fit
set_option maxRecDepth 20000 in
theorem ggL_law_X4_alarm : GoodIn wsL_law wsX4_alarm := goodIn_r _ [227, 13, 163, 49, 50, 2, 51, 52, 53, 54, 140, 141, 142, 143, 144, 145, 146, 147, 124, 125, 126, 127, 24, 422, 423, 424, 425, 426, 427, 428, 429, 430, 431, 432, 451, 452, 453, 454, 455, 456, 457, 458, 459] (by decide +kernel) (by decide +kernel)
set_option maxRecDepth 20000 in
theorem gL_law_X4_alarm : GoodIn wsL_law (wsV RL 40 RX4 yX4_alarm wsX4_alarm) := goodIn_app (goodIn_of _ (by decide +kernel)) ggL_law_X4_alarm
set_option maxRecDepth 20000 in
theorem ggL_law_X5_alarm : GoodIn wsL_law wsX5_alarm := goodIn_r _ [231, 34, 37, 101, 102, 5, 103, 104, 105, 106, 178, 179, 180, 181, 107, 108, 109, 110, 30, 132, 133, 134, 135, 44, 433, 434, 435, 436, 437, 438, 439, 440, 441, 442, 443, 444, 445, 446, 447, 448, 449, 450] (by decide +kernel) (by decide +kernel)
set_option maxRecDepth 20000 in
theorem gL_law_X5_alarm : GoodIn wsL_law (wsV RL 43 RX5 yX5_alarm wsX5_alarm) := goodIn_app (goodIn_of _ (by decide +kernel)) ggL_law_X5_alarm
set_option maxRecDepth 20000 in
theorem ggL_law_X4_raise : GoodIn wsL_law wsX4_raise := goodIn_r _ [235, 13, 49, 50, 2, 51, 52, 53, 54, 140, 141, 142, 143, 144, 145, 146, 147, 124, 125, 126, 127, 24, 159, 160, 161, 162, 163, 25, 422, 423, 424, 425, 426, 427, 428, 429, 430, 431, 432, 451, 452, 453, 454, 455, 456, 457, 458, 459] (by decide +kernel) (by decide +kernel)
set_option maxRecDepth 20000 in
theorem gL_law_X4_raise : GoodIn wsL_law (wsV RL 44 RX4 yX4_raise wsX4_raise) := goodIn_app (goodIn_of _ (by decide +kernel)) ggL_law_X4_raise
set_option maxRecDepth 20000 in
theorem ggL_law_X5_raise : GoodIn wsL_law wsX5_raise := goodIn_r _ [239, 34, 37, 186, 101, 102, 5, 103, 104, 105, 106, 178, 179, 180, 181, 107, 108, 109, 110, 30, 132, 133, 134, 135, 44, 433, 434, 435, 436, 437, 438, 439, 440, 441, 442, 443, 444, 445, 446, 447, 448, 449, 450] (by decide +kernel) (by decide +kernel)
set_option maxRecDepth 20000 in
theorem gL_law_X5_raise : GoodIn wsL_law (wsV RL 47 RX5 yX5_raise wsX5_raise) := goodIn_app (goodIn_of _ (by decide +kernel)) ggL_law_X5_raise
set_option maxRecDepth 20000 in
theorem ggL_law_X4_level : GoodIn wsL_law wsX4_level := goodIn_r _ [243, 25, 422, 423, 424, 425, 426, 427, 428, 429, 430, 431, 432] (by decide +kernel) (by decide +kernel)
set_option maxRecDepth 20000 in
theorem gL_law_X4_level : GoodIn wsL_law (wsV RL 48 RX4 yX4_level wsX4_level) := goodIn_app (goodIn_of _ (by decide +kernel)) ggL_law_X4_level
set_option maxRecDepth 20000 in
theorem ggL_law_X5_level : GoodIn wsL_law wsX5_level := goodIn_r _ [247, 186, 433, 434, 435, 436, 437, 438, 439, 440, 441, 442, 443, 444, 445, 446, 447, 448, 449, 450] (by decide +kernel) (by decide +kernel)
set_option maxRecDepth 20000 in
theorem gL_law_X5_level : GoodIn wsL_law (wsV RL 52 RX5 yX5_level wsX5_level) := goodIn_app (goodIn_of _ (by decide +kernel)) ggL_law_X5_level
set_option maxRecDepth 20000 in
theorem ggL_law_X4_frame : GoodIn wsL_law wsX4_frame := goodIn_r _ [251, 16, 17, 124, 125, 126, 2, 127, 24, 52, 53, 54, 252, 253, 254, 255, 15, 422, 423, 424, 425, 426, 427, 428, 429, 430, 431, 432] (by decide +kernel) (by decide +kernel)
set_option maxRecDepth 20000 in
theorem gL_law_X4_frame : GoodIn wsL_law (wsV RL 53 RX4 yX4_frame wsX4_frame) := goodIn_app (goodIn_of _ (by decide +kernel)) ggL_law_X4_frame
set_option maxRecDepth 20000 in
theorem ggL_law_X5_frame : GoodIn wsL_law wsX5_frame := goodIn_r _ [259, 38, 260, 39, 132, 133, 134, 5, 135, 44, 433, 434, 435, 436, 437, 438, 439, 440, 441, 442, 443, 444, 445, 446, 447, 448, 449, 450] (by decide +kernel) (by decide +kernel)
set_option maxRecDepth 20000 in
theorem gL_law_X5_frame : GoodIn wsL_law (wsV RL 57 RX5 yX5_frame wsX5_frame) := goodIn_app (goodIn_of _ (by decide +kernel)) ggL_law_X5_frame
set_option maxRecDepth 20000 in
theorem ggL_law_X4_size : GoodIn wsL_law wsX4_size := goodIn_r _ [264, 16, 124, 125, 126, 2, 127, 24, 52, 53, 54, 422, 423, 424, 425, 426, 427, 428, 429, 430, 431, 432] (by decide +kernel) (by decide +kernel)
set_option maxRecDepth 20000 in
theorem gL_law_X4_size : GoodIn wsL_law (wsV RL 58 RX4 yX4_size wsX4_size) := goodIn_app (goodIn_of _ (by decide +kernel)) ggL_law_X4_size
set_option maxRecDepth 20000 in
theorem ggL_law_X5_size : GoodIn wsL_law wsX5_size := goodIn_r _ [268, 38, 132, 133, 134, 5, 135, 44, 433, 434, 435, 436, 437, 438, 439, 440, 441, 442, 443, 444, 445, 446, 447, 448, 449, 450] (by decide +kernel) (by decide +kernel)
set_option maxRecDepth 20000 in
theorem gL_law_X5_size : GoodIn wsL_law (wsV RL 61 RX5 yX5_size wsX5_size) := goodIn_app (goodIn_of _ (by decide +kernel)) ggL_law_X5_size
set_option maxRecDepth 20000 in
theorem ggL_law_X4_lay : GoodIn wsL_law wsX4_lay := goodIn_r _ [272, 13, 212, 16, 17, 15, 49, 50, 2, 51, 52, 53, 54, 124, 125, 126, 127, 24, 273, 274, 275, 276, 140, 141, 142, 143, 192, 193, 194, 195, 422, 423, 424, 425, 426, 427, 428, 429, 430, 431, 432] (by decide +kernel) (by decide +kernel)
set_option maxRecDepth 20000 in
theorem gL_law_X4_lay : GoodIn wsL_law (wsV RL 62 RX4 yX4_lay wsX4_lay) := goodIn_app (goodIn_of _ (by decide +kernel)) ggL_law_X4_lay
set_option maxRecDepth 20000 in
theorem ggL_law_X5_lay : GoodIn wsL_law wsX5_lay := goodIn_r _ [280, 38, 260, 39, 37, 101, 102, 5, 103, 104, 105, 106, 107, 108, 109, 110, 30, 132, 133, 134, 135, 44, 433, 434, 435, 436, 437, 438, 439, 440, 441, 442, 443, 444, 445, 446, 447, 448, 449, 450] (by decide +kernel) (by decide +kernel)
set_option maxRecDepth 20000 in
theorem gL_law_X5_lay : GoodIn wsL_law (wsV RL 65 RX5 yX5_lay wsX5_lay) := goodIn_app (goodIn_of _ (by decide +kernel)) ggL_law_X5_lay
set_option maxRecDepth 20000 in
theorem ggL_law_X4_see : GoodIn wsL_law wsX4_see := goodIn_r _ [284, 16, 15, 155, 156, 124, 125, 126, 2, 127, 24, 52, 53, 54, 273, 274, 275, 276, 422, 423, 424, 425, 426, 427, 428, 429, 430, 431, 432, 451, 452, 453, 454, 460, 461, 455, 456, 457, 458, 459] (by decide +kernel) (by decide +kernel)
set_option maxRecDepth 20000 in
theorem gL_law_X4_see : GoodIn wsL_law (wsV RL 66 RX4 yX4_see wsX4_see) := goodIn_app (goodIn_of _ (by decide +kernel)) ggL_law_X4_see
set_option maxRecDepth 20000 in
theorem ggL_law_X5_see : GoodIn wsL_law wsX5_see := goodIn_r _ [288, 38, 39, 31, 132, 133, 134, 5, 135, 44, 104, 105, 106, 433, 434, 435, 436, 437, 438, 439, 440, 441, 442, 443, 444, 445, 446, 447, 448, 449, 450] (by decide +kernel) (by decide +kernel)
set_option maxRecDepth 20000 in
theorem gL_law_X5_see : GoodIn wsL_law (wsV RL 69 RX5 yX5_see wsX5_see) := goodIn_app (goodIn_of _ (by decide +kernel)) ggL_law_X5_see
set_option maxRecDepth 20000 in
theorem ggL_law_X4_change : GoodIn wsL_law wsX4_change := goodIn_r _ [292, 19, 20, 124, 125, 126, 2, 127, 24, 52, 53, 54, 293, 294, 295, 422, 423, 424, 425, 426, 427, 428, 429, 430, 431, 432] (by decide +kernel) (by decide +kernel)
set_option maxRecDepth 20000 in
theorem gL_law_X4_change : GoodIn wsL_law (wsV RL 70 RX4 yX4_change wsX4_change) := goodIn_app (goodIn_of _ (by decide +kernel)) ggL_law_X4_change
set_option maxRecDepth 20000 in
theorem ggL_law_X5_change : GoodIn wsL_law wsX5_change := goodIn_r _ [299, 40, 41, 132, 133, 134, 5, 135, 44, 433, 434, 435, 436, 437, 438, 439, 440, 441, 442, 443, 444, 445, 446, 447, 448, 449, 450] (by decide +kernel) (by decide +kernel)
set_option maxRecDepth 20000 in
theorem gL_law_X5_change : GoodIn wsL_law (wsV RL 73 RX5 yX5_change wsX5_change) := goodIn_app (goodIn_of _ (by decide +kernel)) ggL_law_X5_change
set_option maxRecDepth 20000 in
theorem ggL_law_X4_call : GoodIn wsL_law wsX4_call := goodIn_r _ [303, 20, 19, 52, 53, 2, 54, 124, 125, 126, 127, 24, 304, 305, 306, 307, 422, 423, 424, 425, 426, 427, 428, 429, 430, 431, 432] (by decide +kernel) (by decide +kernel)
set_option maxRecDepth 20000 in
theorem gL_law_X4_call : GoodIn wsL_law (wsV RL 74 RX4 yX4_call wsX4_call) := goodIn_app (goodIn_of _ (by decide +kernel)) ggL_law_X4_call
set_option maxRecDepth 20000 in
theorem ggL_law_X5_call : GoodIn wsL_law wsX5_call := goodIn_r _ [311, 40, 41, 104, 105, 5, 106, 132, 133, 134, 135, 44, 433, 434, 435, 436, 437, 438, 439, 440, 441, 442, 443, 444, 445, 446, 447, 448, 449, 450] (by decide +kernel) (by decide +kernel)
set_option maxRecDepth 20000 in
theorem gL_law_X5_call : GoodIn wsL_law (wsV RL 77 RX5 yX5_call wsX5_call) := goodIn_app (goodIn_of _ (by decide +kernel)) ggL_law_X5_call
set_option maxRecDepth 20000 in
theorem ggL_law_X4_strike : GoodIn wsL_law wsX4_strike := goodIn_r _ [315, 20, 16, 19, 15, 124, 125, 126, 2, 127, 24, 52, 53, 54, 304, 305, 306, 307, 273, 274, 275, 276, 148, 149, 150, 151, 152, 153, 154, 155, 156, 157, 158, 159, 160, 161, 162, 163, 25, 164, 165, 166, 167, 85, 168, 169, 170, 171, 70, 172, 173, 422, 423, 424, 425, 426, 427, 428, 429, 430, 431, 432, 451, 452, 453, 454, 455, 456, 457, 458, 459, 460, 461] (by decide +kernel) (by decide +kernel)
set_option maxRecDepth 20000 in
theorem gL_law_X4_strike : GoodIn wsL_law (wsV RL 78 RX4 yX4_strike wsX4_strike) := goodIn_app (goodIn_of _ (by decide +kernel)) ggL_law_X4_strike
set_option maxRecDepth 20000 in
theorem ggL_law_X5_strike : GoodIn wsL_law wsX5_strike := goodIn_r _ [319, 40, 38, 41, 39, 132, 133, 134, 5, 135, 44, 104, 105, 106, 182, 183, 184, 185, 32, 34, 186, 33, 36, 31, 30, 35, 433, 434, 435, 436, 437, 438, 439, 440, 441, 442, 443, 444, 445, 446, 447, 448, 449, 450] (by decide +kernel) (by decide +kernel)
set_option maxRecDepth 20000 in
theorem gL_law_X5_strike : GoodIn wsL_law (wsV RL 81 RX5 yX5_strike wsX5_strike) := goodIn_app (goodIn_of _ (by decide +kernel)) ggL_law_X5_strike
set_option maxRecDepth 20000 in
theorem ggL_law_X4_chime : GoodIn wsL_law wsX4_chime := goodIn_r _ [323, 20, 52, 53, 2, 54, 124, 125, 126, 127, 24, 324, 313, 314, 315, 16, 19, 15, 304, 305, 306, 307, 273, 274, 275, 276, 148, 149, 150, 151, 152, 153, 154, 155, 156, 157, 158, 159, 160, 161, 162, 163, 25, 164, 165, 166, 167, 85, 168, 169, 170, 171, 70, 172, 173, 422, 423, 424, 425, 426, 427, 428, 429, 430, 431, 432, 451, 452, 453, 454, 455, 456, 457, 458, 459, 460, 461] (by decide +kernel) (by decide +kernel)
set_option maxRecDepth 20000 in
theorem gL_law_X4_chime : GoodIn wsL_law (wsV RL 82 RX4 yX4_chime wsX4_chime) := goodIn_app (goodIn_of _ (by decide +kernel)) ggL_law_X4_chime
set_option maxRecDepth 20000 in
theorem ggL_law_X5_chime : GoodIn wsL_law wsX5_chime := goodIn_r _ [328, 40, 104, 105, 5, 106, 132, 133, 134, 135, 44, 329, 317, 318, 319, 38, 41, 39, 182, 183, 184, 185, 32, 34, 186, 33, 36, 31, 30, 35, 433, 434, 435, 436, 437, 438, 439, 440, 441, 442, 443, 444, 445, 446, 447, 448, 449, 450] (by decide +kernel) (by decide +kernel)
set_option maxRecDepth 20000 in
theorem gL_law_X5_chime : GoodIn wsL_law (wsV RL 85 RX5 yX5_chime wsX5_chime) := goodIn_app (goodIn_of _ (by decide +kernel)) ggL_law_X5_chime
set_option maxRecDepth 20000 in
theorem ggL_law_X4_peal : GoodIn wsL_law wsX4_peal := goodIn_r _ [333, 21, 22, 23, 124, 125, 126, 2, 127, 24, 52, 53, 54, 293, 294, 295, 422, 423, 424, 425, 426, 427, 428, 429, 430, 431, 432] (by decide +kernel) (by decide +kernel)
set_option maxRecDepth 20000 in
theorem gL_law_X4_peal : GoodIn wsL_law (wsV RL 86 RX4 yX4_peal wsX4_peal) := goodIn_app (goodIn_of _ (by decide +kernel)) ggL_law_X4_peal
set_option maxRecDepth 20000 in
theorem ggL_law_X5_peal : GoodIn wsL_law wsX5_peal := goodIn_r _ [337, 42, 338, 43, 132, 133, 134, 5, 135, 44, 433, 434, 435, 436, 437, 438, 439, 440, 441, 442, 443, 444, 445, 446, 447, 448, 449, 450] (by decide +kernel) (by decide +kernel)
set_option maxRecDepth 20000 in
theorem gL_law_X5_peal : GoodIn wsL_law (wsV RL 89 RX5 yX5_peal wsX5_peal) := goodIn_app (goodIn_of _ (by decide +kernel)) ggL_law_X5_peal
set_option maxRecDepth 20000 in
theorem ggL_law_X4_mark : GoodIn wsL_law wsX4_mark := goodIn_r _ [342, 22, 21, 52, 53, 2, 54, 124, 125, 126, 127, 24, 343, 344, 345, 346, 23, 422, 423, 424, 425, 426, 427, 428, 429, 430, 431, 432] (by decide +kernel) (by decide +kernel)
set_option maxRecDepth 20000 in
theorem gL_law_X4_mark : GoodIn wsL_law (wsV RL 90 RX4 yX4_mark wsX4_mark) := goodIn_app (goodIn_of _ (by decide +kernel)) ggL_law_X4_mark
set_option maxRecDepth 20000 in
theorem ggL_law_X5_mark : GoodIn wsL_law wsX5_mark := goodIn_r _ [350, 42, 338, 43, 104, 105, 5, 106, 132, 133, 134, 135, 44, 433, 434, 435, 436, 437, 438, 439, 440, 441, 442, 443, 444, 445, 446, 447, 448, 449, 450] (by decide +kernel) (by decide +kernel)
set_option maxRecDepth 20000 in
theorem gL_law_X5_mark : GoodIn wsL_law (wsV RL 93 RX5 yX5_mark wsX5_mark) := goodIn_app (goodIn_of _ (by decide +kernel)) ggL_law_X5_mark
set_option maxRecDepth 20000 in
theorem ggL_law_X4_marked : GoodIn wsL_law wsX4_marked := goodIn_r _ [354, 22, 21, 124, 125, 126, 2, 127, 24, 52, 53, 54, 343, 344, 345, 346, 23, 422, 423, 424, 425, 426, 427, 428, 429, 430, 431, 432] (by decide +kernel) (by decide +kernel)
set_option maxRecDepth 20000 in
theorem gL_law_X4_marked : GoodIn wsL_law (wsV RL 94 RX4 yX4_marked wsX4_marked) := goodIn_app (goodIn_of _ (by decide +kernel)) ggL_law_X4_marked
set_option maxRecDepth 20000 in
theorem ggL_law_X5_marked : GoodIn wsL_law wsX5_marked := goodIn_r _ [358, 42, 338, 43, 132, 133, 134, 5, 135, 44, 104, 105, 106, 433, 434, 435, 436, 437, 438, 439, 440, 441, 442, 443, 444, 445, 446, 447, 448, 449, 450] (by decide +kernel) (by decide +kernel)
set_option maxRecDepth 20000 in
theorem gL_law_X5_marked : GoodIn wsL_law (wsV RL 97 RX5 yX5_marked wsX5_marked) := goodIn_app (goodIn_of _ (by decide +kernel)) ggL_law_X5_marked
set_option maxRecDepth 20000 in
theorem ggL_law_X4_away : GoodIn wsL_law wsX4_away := goodIn_r _ [362, 16, 20, 22, 422, 423, 424, 425, 426, 427, 428, 429, 430, 431, 432] (by decide +kernel) (by decide +kernel)
set_option maxRecDepth 20000 in
theorem gL_law_X4_away : GoodIn wsL_law (wsV RL 98 RX4 yX4_away wsX4_away) := goodIn_app (goodIn_of _ (by decide +kernel)) ggL_law_X4_away
set_option maxRecDepth 20000 in
theorem ggL_law_X5_away : GoodIn wsL_law wsX5_away := goodIn_r _ [366, 38, 40, 42, 104, 105, 5, 106, 433, 434, 435, 436, 437, 438, 439, 440, 441, 442, 443, 444, 445, 446, 447, 448, 449, 450] (by decide +kernel) (by decide +kernel)
set_option maxRecDepth 20000 in
theorem gL_law_X5_away : GoodIn wsL_law (wsV RL 101 RX5 yX5_away wsX5_away) := goodIn_app (goodIn_of _ (by decide +kernel)) ggL_law_X5_away
set_option maxRecDepth 20000 in
theorem ggL_law_X4_about : GoodIn wsL_law wsX4_about := goodIn_r _ [370, 13, 123, 49, 50, 2, 51, 52, 53, 54, 58, 59, 60, 61, 62, 63, 64, 65, 66, 67, 68, 69, 70, 71, 371, 372, 373, 374, 375, 376, 377, 378, 379, 380, 85, 381, 382, 383, 384, 167, 168, 385, 169, 386, 171, 172, 173, 387, 388, 389, 390, 391, 392, 393, 394, 395, 396, 397, 398, 399, 400, 401, 402, 403, 404, 405, 406, 407, 408, 409, 422, 423, 424, 425, 426, 427, 428, 429, 430, 431, 432, 451, 452, 453, 454, 460, 461, 455, 456, 457, 458, 459] (by decide +kernel) (by decide +kernel)
set_option maxRecDepth 20000 in
theorem gL_law_X4_about : GoodIn wsL_law (wsV RL 102 RX4 yX4_about wsX4_about) := goodIn_app (goodIn_of _ (by decide +kernel)) ggL_law_X4_about
set_option maxRecDepth 20000 in
theorem ggL_law_X5_about : GoodIn wsL_law wsX5_about := goodIn_r _ [413, 37, 30, 31, 32, 35, 36, 33, 34, 101, 102, 5, 103, 104, 105, 106, 433, 434, 435, 436, 437, 438, 439, 440, 441, 442, 443, 444, 445, 446, 447, 448, 449, 450] (by decide +kernel) (by decide +kernel)
set_option maxRecDepth 20000 in
theorem gL_law_X5_about : GoodIn wsL_law (wsV RL 105 RX5 yX5_about wsX5_about) := goodIn_app (goodIn_of _ (by decide +kernel)) ggL_law_X5_about
set_option maxRecDepth 20000 in
theorem ggL_law_X4_reasons : GoodIn wsL_law wsX4_reasons := goodIn_r _ [417, 24, 52, 53, 2, 54, 422, 423, 424, 425, 426, 427, 428, 429, 430, 431, 432] (by decide +kernel) (by decide +kernel)
set_option maxRecDepth 20000 in
theorem gL_law_X4_reasons : GoodIn wsL_law (wsV RL 106 RX4 yX4_reasons wsX4_reasons) := goodIn_app (goodIn_of _ (by decide +kernel)) ggL_law_X4_reasons
set_option maxRecDepth 20000 in
theorem ggL_law_X5_reasons : GoodIn wsL_law wsX5_reasons := goodIn_r _ [421, 44, 104, 105, 5, 106, 433, 434, 435, 436, 437, 438, 439, 440, 441, 442, 443, 444, 445, 446, 447, 448, 449, 450] (by decide +kernel) (by decide +kernel)
set_option maxRecDepth 20000 in
theorem gL_law_X5_reasons : GoodIn wsL_law (wsV RL 109 RX5 yX5_reasons wsX5_reasons) := goodIn_app (goodIn_of _ (by decide +kernel)) ggL_law_X5_reasons
