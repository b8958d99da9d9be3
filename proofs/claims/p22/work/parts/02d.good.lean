set_option maxRecDepth 20000 in
theorem ggL_number_X4_type : GoodIn wsL_number wsX4_type := goodIn_r _ [5, 6, 7, 8, 9, 10, 11, 12, 13, 14, 15, 16, 17, 18, 19, 20, 21, 22, 23, 24, 25] (by decide +kernel) (by decide +kernel)
set_option maxRecDepth 20000 in
theorem gL_number_X4_type : GoodIn wsL_number (wsV RL 9 RX4 yX4_type wsX4_type) := goodIn_app (goodIn_of _ (by decide +kernel)) ggL_number_X4_type
set_option maxRecDepth 20000 in
theorem ggL_isStep_L_up : GoodIn wsL_isStep wsL_up := goodIn_r _ [4, 5] (by decide +kernel) (by decide +kernel)
set_option maxRecDepth 20000 in
theorem gL_isStep_L_up : GoodIn wsL_isStep (va_wsS RL 15 yL_up wsL_up) := goodIn_app (goodIn_of _ (by decide +kernel)) ggL_isStep_L_up
set_option maxRecDepth 20000 in
theorem ggL_isStep_X4_count : GoodIn wsL_isStep wsX4_count := goodIn_r _ [10, 11, 12, 13, 14, 15, 16, 17, 18, 19, 20, 21, 9, 22, 23, 24, 25, 26, 27, 288, 289, 290, 291, 292, 293, 294, 295, 296, 297, 298, 299, 300, 301, 302, 303, 304, 305, 306, 307, 308, 309, 310, 311, 312, 313, 314, 315, 316, 317, 318, 319, 320, 321, 322, 323, 324, 325] (by decide +kernel) (by decide +kernel)
set_option maxRecDepth 20000 in
theorem gL_isStep_X4_count : GoodIn wsL_isStep (wsV RL 21 RX4 yX4_count wsX4_count) := goodIn_app (goodIn_of _ (by decide +kernel)) ggL_isStep_X4_count
set_option maxRecDepth 20000 in
theorem ggL_isStep_X4_build : GoodIn wsL_isStep wsX4_build := goodIn_r _ [31, 12, 11, 32, 33, 9, 34, 35, 36, 37, 38, 39, 40, 41, 42, 43, 44, 45, 46, 47, 48, 49, 50, 51, 17, 52, 19, 53, 54, 55, 56, 57, 58, 59, 60, 61, 62, 63, 64, 65, 66, 67, 68, 69, 70, 71, 72, 73, 74, 75, 76, 77, 78, 79, 80, 81, 82, 83, 84, 85, 86, 87, 88, 89, 90, 91, 14, 15, 16, 18, 288, 289, 290, 291, 292, 293, 294, 295, 296, 297, 298, 299, 300, 301, 302, 303, 304, 305, 306, 307, 308, 317, 318, 319, 309, 310, 311, 312, 313, 314, 315, 316] (by decide +kernel) (by decide +kernel)
set_option maxRecDepth 20000 in
theorem gL_isStep_X4_build : GoodIn wsL_isStep (wsV RL 25 RX4 yX4_build wsX4_build) := goodIn_app (goodIn_of _ (by decide +kernel)) ggL_isStep_X4_build
set_option maxRecDepth 20000 in
theorem ggL_isStep_X4_doneIn : GoodIn wsL_isStep wsX4_doneIn := goodIn_r _ [95, 96, 11, 97, 50, 51, 17, 52, 19, 53, 54, 55, 56, 57, 58, 59, 60, 61, 62, 63, 64, 65, 66, 67, 68, 69, 70, 71, 72, 73, 74, 75, 76, 77, 78, 79, 80, 9, 81, 98, 99, 100, 101, 102, 103, 104, 105, 106, 107, 108, 109, 42, 43, 110, 111, 112, 113, 114, 115, 116, 117, 27, 15, 16, 18, 118, 24, 25, 26, 119, 120, 121, 122, 123, 124, 125, 126, 127, 128, 129, 130, 131, 132, 133, 134, 135, 136, 137, 138, 139, 140, 141, 142, 143, 144, 145, 146, 288, 289, 290, 291, 292, 293, 294, 295, 296, 297, 298, 299, 300, 301, 302, 303, 304, 305, 306, 307, 308, 309, 310, 311, 312, 313, 314, 315, 316] (by decide +kernel) (by decide +kernel)
set_option maxRecDepth 20000 in
theorem gL_isStep_X4_doneIn : GoodIn wsL_isStep (wsV RL 29 RX4 yX4_doneIn wsX4_doneIn) := goodIn_app (goodIn_of _ (by decide +kernel)) ggL_isStep_X4_doneIn
set_option maxRecDepth 20000 in
theorem ggL_isStep_X4_side : GoodIn wsL_isStep wsX4_side := goodIn_r _ [150, 11, 151, 152, 9, 153, 154, 155, 156, 17, 157, 57, 58, 20, 21, 22, 158, 124, 125, 126, 53, 159, 115, 116, 117, 160, 161, 162, 163, 114, 118, 24, 25, 26, 27, 15, 16, 18, 19, 164, 165, 166, 167, 168, 111, 112, 113, 169, 120, 121, 122, 170, 171, 172, 173, 55, 174, 175, 176, 177, 178, 56, 179, 180, 181, 182, 70, 183, 74, 72, 73, 42, 43, 288, 289, 290, 291, 292, 293, 309, 310, 311, 312, 313, 314, 315, 316, 294, 295, 296, 297, 298, 299, 300, 301, 302, 303, 304, 305, 306, 307, 308] (by decide +kernel) (by decide +kernel)
set_option maxRecDepth 20000 in
theorem gL_isStep_X4_side : GoodIn wsL_isStep (wsV RL 33 RX4 yX4_side wsX4_side) := goodIn_app (goodIn_of _ (by decide +kernel)) ggL_isStep_X4_side
set_option maxRecDepth 20000 in
theorem ggL_isStep_X4_setClock : GoodIn wsL_isStep wsX4_setClock := goodIn_r _ [187, 11, 12, 151, 152, 9, 153, 32, 33, 34, 154, 155, 156, 17, 157, 57, 58, 35, 36, 37, 38, 39, 40, 41, 42, 43, 44, 45, 46, 47, 48, 49, 50, 51, 52, 19, 53, 54, 55, 56, 59, 60, 61, 62, 63, 64, 65, 66, 67, 68, 69, 70, 71, 72, 73, 74, 75, 76, 77, 78, 79, 80, 81, 288, 289, 290, 291, 292, 293, 309, 310, 311, 312, 313, 314, 315, 316, 294, 295, 296, 297, 298, 299, 300, 301, 302, 303, 304, 305, 306, 307, 308, 317, 318, 319] (by decide +kernel) (by decide +kernel)
set_option maxRecDepth 20000 in
theorem gL_isStep_X4_setClock : GoodIn wsL_isStep (wsV RL 36 RX4 yX4_setClock wsX4_setClock) := goodIn_app (goodIn_of _ (by decide +kernel)) ggL_isStep_X4_setClock
set_option maxRecDepth 20000 in
theorem ggL_isStep_X4_start : GoodIn wsL_isStep wsX4_start := goodIn_r _ [191, 11, 12, 151, 152, 9, 153, 154, 155, 156, 17, 157, 57, 58, 35, 36, 37, 38, 39, 40, 41, 42, 43, 44, 45, 46, 47, 48, 49, 50, 51, 52, 19, 53, 54, 55, 56, 59, 60, 61, 62, 63, 64, 65, 66, 67, 68, 69, 70, 71, 72, 73, 74, 75, 76, 77, 78, 79, 80, 81, 288, 289, 290, 291, 292, 293, 309, 310, 311, 312, 313, 314, 315, 316, 294, 295, 296, 297, 298, 299, 300, 301, 302, 303, 304, 305, 306, 307, 308, 317, 318, 319] (by decide +kernel) (by decide +kernel)
set_option maxRecDepth 20000 in
theorem gL_isStep_X4_start : GoodIn wsL_isStep (wsV RL 40 RX4 yX4_start wsX4_start) := goodIn_app (goodIn_of _ (by decide +kernel)) ggL_isStep_X4_start
set_option maxRecDepth 20000 in
theorem ggL_isStep_X4_set : GoodIn wsL_isStep wsX4_set := goodIn_r _ [195, 11, 12, 32, 33, 9, 34, 35, 36, 37, 38, 39, 40, 41, 42, 43, 44, 45, 46, 47, 48, 49, 50, 51, 17, 52, 19, 53, 54, 55, 56, 57, 58, 59, 60, 61, 62, 63, 64, 65, 66, 67, 68, 69, 70, 71, 72, 73, 74, 75, 76, 77, 78, 79, 80, 81, 288, 289, 290, 291, 292, 293, 294, 295, 296, 297, 298, 299, 300, 301, 302, 303, 304, 305, 306, 307, 308, 317, 318, 319, 309, 310, 311, 312, 313, 314, 315, 316] (by decide +kernel) (by decide +kernel)
set_option maxRecDepth 20000 in
theorem gL_isStep_X4_set : GoodIn wsL_isStep (wsV RL 43 RX4 yX4_set wsX4_set) := goodIn_app (goodIn_of _ (by decide +kernel)) ggL_isStep_X4_set
set_option maxRecDepth 20000 in
theorem ggL_isStep_X4_push : GoodIn wsL_isStep wsX4_push := goodIn_r _ [199, 11, 12, 32, 33, 9, 34, 35, 36, 37, 38, 39, 40, 41, 42, 43, 44, 45, 46, 47, 48, 49, 50, 51, 17, 52, 19, 53, 54, 55, 56, 57, 58, 59, 60, 61, 62, 63, 64, 65, 66, 67, 68, 69, 70, 71, 72, 73, 74, 75, 76, 77, 78, 79, 80, 81, 200, 201, 202, 203, 141, 142, 288, 289, 290, 291, 292, 293, 294, 295, 296, 297, 298, 299, 300, 301, 302, 303, 304, 305, 306, 307, 308, 317, 318, 319, 309, 310, 311, 312, 313, 314, 315, 316] (by decide +kernel) (by decide +kernel)
set_option maxRecDepth 20000 in
theorem gL_isStep_X4_push : GoodIn wsL_isStep (wsV RL 46 RX4 yX4_push wsX4_push) := goodIn_app (goodIn_of _ (by decide +kernel)) ggL_isStep_X4_push
set_option maxRecDepth 20000 in
theorem ggL_isStep_X4_waiting : GoodIn wsL_isStep wsX4_waiting := goodIn_r _ [207, 11, 208, 139, 9, 140, 288, 289, 290, 291, 292, 293, 294, 295, 296, 297, 298, 299, 300, 301, 302, 303, 304, 305, 306, 307, 308] (by decide +kernel) (by decide +kernel)
set_option maxRecDepth 20000 in
theorem gL_isStep_X4_waiting : GoodIn wsL_isStep (wsV RL 49 RX4 yX4_waiting wsX4_waiting) := goodIn_app (goodIn_of _ (by decide +kernel)) ggL_isStep_X4_waiting
set_option maxRecDepth 20000 in
theorem ggL_isStep_X4_clearText : GoodIn wsL_isStep wsX4_clearText := goodIn_r _ [212, 13, 288, 289, 290, 291, 292, 293, 320, 321, 322, 323, 324, 325] (by decide +kernel) (by decide +kernel)
set_option maxRecDepth 20000 in
theorem gL_isStep_X4_clearText : GoodIn wsL_isStep (wsV RL 52 RX4 yX4_clearText wsX4_clearText) := goodIn_app (goodIn_of _ (by decide +kernel)) ggL_isStep_X4_clearText
set_option maxRecDepth 20000 in
theorem ggL_isStep_X4_type : GoodIn wsL_isStep wsX4_type := goodIn_r _ [216, 13, 217, 218, 219, 220, 221, 222, 223, 288, 289, 290, 291, 292, 293, 320, 321, 322, 323, 324, 325] (by decide +kernel) (by decide +kernel)
set_option maxRecDepth 20000 in
theorem gL_isStep_X4_type : GoodIn wsL_isStep (wsV RL 9 RX4 yX4_type wsX4_type) := goodIn_app (goodIn_of _ (by decide +kernel)) ggL_isStep_X4_type
set_option maxRecDepth 20000 in
theorem ggL_isStep_L_number : GoodIn wsL_isStep wsL_number := goodIn_r _ [226, 213, 214, 215, 9, 216, 13, 217, 218, 219, 220, 221, 222, 223, 288, 289, 290, 291, 292, 293, 320, 321, 322, 323, 324, 325] (by decide +kernel) (by decide +kernel)
set_option maxRecDepth 20000 in
theorem gL_isStep_L_number : GoodIn wsL_isStep (va_wsS RL 55 yL_number wsL_number) := goodIn_app (goodIn_of _ (by decide +kernel)) ggL_isStep_L_number
set_option maxRecDepth 20000 in
theorem ggL_isStep_X4_pushAll : GoodIn wsL_isStep wsX4_pushAll := goodIn_r _ [230, 13, 96, 11, 12, 231, 232, 233, 220, 234, 235, 236, 222, 237, 238, 239, 240, 241, 242, 243, 244, 223, 245, 246, 247, 248, 249, 250, 251, 252, 253, 254, 255, 256, 257, 258, 259, 260, 261, 262, 141, 9, 142, 97, 50, 51, 17, 52, 19, 53, 54, 55, 56, 57, 58, 59, 60, 61, 62, 63, 64, 65, 66, 67, 68, 69, 70, 71, 72, 73, 74, 75, 76, 77, 78, 79, 80, 81, 263, 264, 265, 266, 139, 140, 267, 201, 202, 203, 268, 269, 270, 271, 272, 273, 274, 275, 276, 277, 103, 104, 105, 106, 107, 108, 109, 42, 43, 110, 111, 112, 113, 114, 115, 116, 117, 27, 15, 16, 18, 118, 24, 25, 26, 119, 120, 121, 122, 123, 124, 125, 126, 127, 128, 129, 130, 131, 132, 133, 134, 135, 136, 137, 138, 143, 144, 145, 146, 35, 36, 37, 38, 39, 40, 41, 44, 45, 46, 47, 48, 49, 278, 279, 280, 281, 288, 289, 290, 291, 292, 293, 320, 321, 322, 323, 324, 325, 294, 295, 296, 297, 298, 299, 300, 301, 302, 303, 304, 305, 306, 307, 308, 309, 310, 311, 312, 313, 314, 315, 316, 317, 318, 319] (by decide +kernel) (by decide +kernel)
set_option maxRecDepth 20000 in
theorem gL_isStep_X4_pushAll : GoodIn wsL_isStep (wsV RL 59 RX4 yX4_pushAll wsX4_pushAll) := goodIn_app (goodIn_of _ (by decide +kernel)) ggL_isStep_X4_pushAll
set_option maxRecDepth 20000 in
theorem ggL_isStep_X4_pass : GoodIn wsL_isStep wsX4_pass := goodIn_r _ [285, 11, 12, 32, 33, 9, 34, 286, 269, 270, 17, 271, 54, 272, 35, 36, 37, 38, 39, 40, 41, 42, 43, 44, 45, 46, 47, 48, 49, 50, 51, 52, 19, 53, 55, 56, 57, 58, 59, 60, 61, 62, 63, 64, 65, 66, 67, 68, 69, 70, 71, 72, 73, 74, 75, 76, 77, 78, 79, 80, 81, 287, 274, 275, 276, 277, 103, 104, 105, 106, 107, 108, 109, 110, 111, 112, 113, 114, 115, 116, 117, 27, 15, 16, 18, 118, 24, 25, 26, 119, 120, 121, 122, 123, 124, 125, 126, 127, 128, 129, 130, 131, 132, 133, 134, 135, 136, 137, 138, 139, 140, 141, 142, 143, 144, 145, 146, 288, 289, 290, 291, 292, 293, 294, 295, 296, 297, 298, 299, 300, 301, 302, 303, 304, 305, 306, 307, 308, 317, 318, 319, 309, 310, 311, 312, 313, 314, 315, 316] (by decide +kernel) (by decide +kernel)
set_option maxRecDepth 20000 in
theorem gL_isStep_X4_pass : GoodIn wsL_isStep (wsV RL 62 RX4 yX4_pass wsX4_pass) := goodIn_app (goodIn_of _ (by decide +kernel)) ggL_isStep_X4_pass
set_option maxRecDepth 20000 in
theorem ggL_areAlike_X4_count : GoodIn wsL_areAlike wsX4_count := goodIn_r _ [5, 6, 7, 8, 9, 10, 11, 12, 13, 14, 15, 16, 4, 17, 18, 19, 20, 21, 22, 188, 189, 190, 191, 192, 193, 194, 195, 196, 197, 198, 199, 200, 201, 202, 203, 204, 205, 206, 207, 208, 209, 210, 211, 212, 213, 214, 215, 216, 217, 218, 219, 220, 221, 222, 223, 224, 225] (by decide +kernel) (by decide +kernel)
set_option maxRecDepth 20000 in
theorem gL_areAlike_X4_count : GoodIn wsL_areAlike (wsV RL 21 RX4 yX4_count wsX4_count) := goodIn_app (goodIn_of _ (by decide +kernel)) ggL_areAlike_X4_count
set_option maxRecDepth 20000 in
theorem ggL_areAlike_X4_side : GoodIn wsL_areAlike wsX4_side := goodIn_r _ [26, 6, 27, 28, 4, 29, 30, 31, 32, 12, 33, 34, 35, 15, 16, 17, 36, 37, 38, 39, 40, 41, 42, 43, 44, 45, 46, 47, 48, 49, 50, 19, 20, 21, 22, 10, 11, 13, 14, 51, 52, 53, 54, 55, 56, 57, 58, 59, 60, 61, 62, 63, 64, 65, 66, 67, 68, 69, 70, 71, 72, 73, 74, 75, 76, 77, 78, 79, 80, 81, 82, 83, 84, 188, 189, 190, 191, 192, 193, 209, 210, 211, 212, 213, 214, 215, 216, 194, 195, 196, 197, 198, 199, 200, 201, 202, 203, 204, 205, 206, 207, 208] (by decide +kernel) (by decide +kernel)
set_option maxRecDepth 20000 in
theorem gL_areAlike_X4_side : GoodIn wsL_areAlike (wsV RL 33 RX4 yX4_side wsX4_side) := goodIn_app (goodIn_of _ (by decide +kernel)) ggL_areAlike_X4_side
set_option maxRecDepth 20000 in
theorem ggL_areAlike_X4_place : GoodIn wsL_areAlike wsX4_place := goodIn_r _ [88, 6, 9, 10, 11, 12, 13, 14, 89, 90, 4, 91, 92, 93, 94, 188, 189, 190, 191, 192, 193, 194, 195, 196, 197, 198, 199, 200, 201, 202, 203, 204, 205, 206, 207, 208] (by decide +kernel) (by decide +kernel)
set_option maxRecDepth 20000 in
theorem gL_areAlike_X4_place : GoodIn wsL_areAlike (wsV RL 65 RX4 yX4_place wsX4_place) := goodIn_app (goodIn_of _ (by decide +kernel)) ggL_areAlike_X4_place
set_option maxRecDepth 20000 in
theorem ggL_areAlike_X4_waiting : GoodIn wsL_areAlike wsX4_waiting := goodIn_r _ [98, 6, 92, 93, 4, 94, 188, 189, 190, 191, 192, 193, 194, 195, 196, 197, 198, 199, 200, 201, 202, 203, 204, 205, 206, 207, 208] (by decide +kernel) (by decide +kernel)
set_option maxRecDepth 20000 in
theorem gL_areAlike_X4_waiting : GoodIn wsL_areAlike (wsV RL 49 RX4 yX4_waiting wsX4_waiting) := goodIn_app (goodIn_of _ (by decide +kernel)) ggL_areAlike_X4_waiting
set_option maxRecDepth 20000 in
theorem ggL_areAlike_X4_taken : GoodIn wsL_areAlike wsX4_taken := goodIn_r _ [102, 6, 103, 104, 105, 12, 106, 107, 108, 93, 4, 94, 188, 189, 190, 191, 192, 193, 194, 195, 196, 197, 198, 199, 200, 201, 202, 203, 204, 205, 206, 207, 208] (by decide +kernel) (by decide +kernel)
set_option maxRecDepth 20000 in
theorem gL_areAlike_X4_taken : GoodIn wsL_areAlike (wsV RL 68 RX4 yX4_taken wsX4_taken) := goodIn_app (goodIn_of _ (by decide +kernel)) ggL_areAlike_X4_taken
set_option maxRecDepth 20000 in
theorem ggL_areAlike_X4_doneIn : GoodIn wsL_areAlike wsX4_doneIn := goodIn_r _ [112, 113, 6, 114, 115, 116, 12, 117, 14, 40, 118, 67, 73, 34, 35, 119, 120, 121, 122, 108, 123, 107, 124, 125, 126, 127, 78, 128, 81, 82, 80, 129, 130, 131, 132, 133, 134, 4, 135, 136, 137, 138, 139, 140, 141, 142, 143, 144, 145, 146, 147, 83, 84, 148, 56, 57, 58, 49, 42, 43, 44, 22, 10, 11, 13, 50, 19, 20, 21, 149, 60, 61, 62, 150, 37, 38, 39, 151, 152, 153, 154, 155, 156, 157, 158, 159, 160, 161, 162, 93, 94, 163, 164, 165, 166, 167, 168, 188, 189, 190, 191, 192, 193, 194, 195, 196, 197, 198, 199, 200, 201, 202, 203, 204, 205, 206, 207, 208, 209, 210, 211, 212, 213, 214, 215, 216] (by decide +kernel) (by decide +kernel)
set_option maxRecDepth 20000 in
theorem gL_areAlike_X4_doneIn : GoodIn wsL_areAlike (wsV RL 29 RX4 yX4_doneIn wsX4_doneIn) := goodIn_app (goodIn_of _ (by decide +kernel)) ggL_areAlike_X4_doneIn
set_option maxRecDepth 20000 in
theorem ggL_areAlike_X4_leastDepth : GoodIn wsL_areAlike wsX4_leastDepth := goodIn_r _ [172, 113, 6, 89, 90, 4, 91, 114, 115, 116, 12, 117, 14, 40, 118, 67, 73, 34, 35, 119, 120, 121, 122, 108, 123, 107, 124, 125, 126, 127, 78, 128, 81, 82, 80, 129, 130, 131, 132, 133, 134, 135, 173, 174, 175, 176, 177, 178, 179, 180, 181, 182, 183, 184, 185, 186, 144, 145, 146, 147, 83, 84, 148, 56, 57, 58, 49, 42, 43, 44, 22, 10, 11, 13, 50, 19, 20, 21, 187, 141, 142, 143, 149, 60, 61, 62, 150, 37, 38, 39, 151, 152, 153, 154, 155, 156, 157, 158, 159, 160, 161, 162, 93, 94, 163, 164, 165, 166, 167, 168, 188, 189, 190, 191, 192, 193, 194, 195, 196, 197, 198, 199, 200, 201, 202, 203, 204, 205, 206, 207, 208, 209, 210, 211, 212, 213, 214, 215, 216] (by decide +kernel) (by decide +kernel)
set_option maxRecDepth 20000 in
theorem gL_areAlike_X4_leastDepth : GoodIn wsL_areAlike (wsV RL 71 RX4 yX4_leastDepth wsX4_leastDepth) := goodIn_app (goodIn_of _ (by decide +kernel)) ggL_areAlike_X4_leastDepth
set_option maxRecDepth 20000 in
theorem ggL_isWell_X4_count : GoodIn wsL_isWell wsX4_count := goodIn_r _ [5, 6, 7, 8, 9, 10, 11, 12, 13, 14, 15, 16, 4, 17, 18, 19, 20, 21, 22, 157, 158, 159, 160, 161, 162, 163, 164, 165, 166, 167, 168, 169, 170, 171, 172, 173, 174, 175, 176, 177, 178, 179, 180, 181, 182, 183, 184, 185, 186, 187, 188, 189, 190, 191, 192, 193, 194] (by decide +kernel) (by decide +kernel)
set_option maxRecDepth 20000 in
theorem gL_isWell_X4_count : GoodIn wsL_isWell (wsV RL 21 RX4 yX4_count wsX4_count) := goodIn_app (goodIn_of _ (by decide +kernel)) ggL_isWell_X4_count
set_option maxRecDepth 20000 in
theorem ggL_isWell_X4_side : GoodIn wsL_isWell wsX4_side := goodIn_r _ [26, 6, 27, 28, 4, 29, 30, 31, 32, 12, 33, 34, 35, 15, 16, 17, 36, 37, 38, 39, 40, 41, 42, 43, 44, 45, 46, 47, 48, 49, 50, 19, 20, 21, 22, 10, 11, 13, 14, 51, 52, 53, 54, 55, 56, 57, 58, 59, 60, 61, 62, 63, 64, 65, 66, 67, 68, 69, 70, 71, 72, 73, 74, 75, 76, 77, 78, 79, 80, 81, 82, 83, 84, 157, 158, 159, 160, 161, 162, 178, 179, 180, 181, 182, 183, 184, 185, 163, 164, 165, 166, 167, 168, 169, 170, 171, 172, 173, 174, 175, 176, 177] (by decide +kernel) (by decide +kernel)
set_option maxRecDepth 20000 in
theorem gL_isWell_X4_side : GoodIn wsL_isWell (wsV RL 33 RX4 yX4_side wsX4_side) := goodIn_app (goodIn_of _ (by decide +kernel)) ggL_isWell_X4_side
set_option maxRecDepth 20000 in
theorem ggL_isWell_X4_place : GoodIn wsL_isWell wsX4_place := goodIn_r _ [88, 6, 9, 10, 11, 12, 13, 14, 89, 90, 4, 91, 92, 93, 94, 157, 158, 159, 160, 161, 162, 163, 164, 165, 166, 167, 168, 169, 170, 171, 172, 173, 174, 175, 176, 177] (by decide +kernel) (by decide +kernel)
set_option maxRecDepth 20000 in
theorem gL_isWell_X4_place : GoodIn wsL_isWell (wsV RL 65 RX4 yX4_place wsX4_place) := goodIn_app (goodIn_of _ (by decide +kernel)) ggL_isWell_X4_place
set_option maxRecDepth 20000 in
theorem ggL_isWell_X4_doneIn : GoodIn wsL_isWell wsX4_doneIn := goodIn_r _ [98, 99, 6, 100, 101, 102, 12, 103, 14, 40, 104, 67, 73, 34, 35, 105, 106, 107, 108, 109, 110, 111, 112, 113, 114, 115, 78, 116, 81, 82, 80, 117, 118, 119, 120, 121, 122, 4, 123, 124, 125, 126, 127, 128, 129, 130, 131, 132, 133, 134, 135, 83, 84, 136, 56, 57, 58, 49, 42, 43, 44, 22, 10, 11, 13, 50, 19, 20, 21, 137, 60, 61, 62, 138, 37, 38, 39, 139, 140, 141, 142, 143, 144, 145, 146, 147, 148, 149, 150, 93, 94, 151, 152, 153, 154, 155, 156, 157, 158, 159, 160, 161, 162, 163, 164, 165, 166, 167, 168, 169, 170, 171, 172, 173, 174, 175, 176, 177, 178, 179, 180, 181, 182, 183, 184, 185] (by decide +kernel) (by decide +kernel)
set_option maxRecDepth 20000 in
theorem gL_isWell_X4_doneIn : GoodIn wsL_isWell (wsV RL 29 RX4 yX4_doneIn wsX4_doneIn) := goodIn_app (goodIn_of _ (by decide +kernel)) ggL_isWell_X4_doneIn
