set_option maxRecDepth 20000 in
theorem ggL_law_X4_init : GoodIn wsL_law wsX4_init := goodIn_r _ [5, 6, 7, 8, 9, 10, 11, 12, 13, 14, 15, 16, 17, 18, 19, 20, 21, 22, 23, 24, 25, 26, 27, 28, 29, 30, 31, 32, 33, 34, 35, 36, 37, 38, 39, 40, 41, 42, 43, 44, 45, 46, 47, 2, 48, 49, 50, 51, 52, 53, 54, 55, 56, 57, 58, 59, 60, 61, 62, 362, 363, 364, 365, 366, 367, 368, 369, 370, 371, 372, 373, 374, 375, 376, 356, 357, 358, 359, 360, 361, 377, 378, 379, 380, 381, 382, 383, 384, 385, 386, 387, 388, 389, 390, 391, 392, 393] (by decide +kernel) (by decide +kernel)
set_option maxRecDepth 20000 in
theorem gL_law_X4_init : GoodIn wsL_law (wsX4_init) := ggL_law_X4_init
set_option maxRecDepth 20000 in
theorem ggL_law_L_cell : GoodIn wsL_law wsL_cell := goodIn_r _ [66, 67] (by decide +kernel) (by decide +kernel)
set_option maxRecDepth 20000 in
theorem gL_law_L_cell : GoodIn wsL_law (va_wsS RL 75 yL_cell wsL_cell) := goodIn_app (goodIn_of _ (by decide +kernel)) ggL_law_L_cell
set_option maxRecDepth 20000 in
theorem gq_isStep_wsL_isStep_r1 : GoodIn wsL_law wsL_isStep_r1 := goodIn_r _ [71, 72, 65, 73, 74, 75, 76, 77, 2, 78, 12, 18, 22, 79, 80, 81, 11, 82, 27, 83, 84, 85, 86, 87] (by decide +kernel) (by decide +kernel)
set_option maxRecDepth 20000 in
theorem gq_isStep_wsL_isStep_r2 : GoodIn wsL_law wsL_isStep_r2 := goodIn_r _ [88, 89, 90, 91, 92, 93, 94, 95, 96, 97, 98, 99, 100, 17, 101, 102, 103, 104, 105, 106, 107, 108, 109, 54] (by decide +kernel) (by decide +kernel)
set_option maxRecDepth 20000 in
theorem gq_isStep_wsL_isStep_r3 : GoodIn wsL_law wsL_isStep_r3 := goodIn_r _ [110, 111, 112, 113, 28, 114, 29, 30, 34, 35, 37, 38, 39, 115, 40, 116, 117, 118, 119, 120, 121, 33, 122, 46] (by decide +kernel) (by decide +kernel)
set_option maxRecDepth 20000 in
theorem gq_isStep_wsL_isStep_r4 : GoodIn wsL_law wsL_isStep_r4 := goodIn_r _ [123, 45, 124, 125, 126, 127, 128, 129, 130, 131, 132, 133, 134, 135, 136, 137, 138, 47, 48, 139, 140, 141, 142, 13] (by decide +kernel) (by decide +kernel)
set_option maxRecDepth 20000 in
theorem gq_isStep_wsL_isStep_r5 : GoodIn wsL_law wsL_isStep_r5 := goodIn_r _ [143, 144, 145, 146, 147, 148, 149, 150, 151, 152, 153, 154, 155, 156, 157, 158, 159, 160, 161, 162, 163, 164, 165, 166] (by decide +kernel) (by decide +kernel)
set_option maxRecDepth 20000 in
theorem gq_isStep_wsL_isStep_r6 : GoodIn wsL_law wsL_isStep_r6 := goodIn_r _ [167, 168, 169, 170, 171, 172, 173, 174, 175, 176, 177, 178, 179, 180, 181, 182, 183, 184, 185, 186, 187, 188, 189, 190] (by decide +kernel) (by decide +kernel)
set_option maxRecDepth 20000 in
theorem gq_isStep_wsL_isStep_r7 : GoodIn wsL_law wsL_isStep_r7 := goodIn_r _ [191, 192, 193, 194, 195, 196, 197, 198, 199, 200, 201, 202, 203, 204, 205, 206, 207, 208, 209, 210, 211, 212, 213, 214] (by decide +kernel) (by decide +kernel)
set_option maxRecDepth 20000 in
theorem gq_isStep_wsL_isStep_r8 : GoodIn wsL_law wsL_isStep_r8 := goodIn_r _ [215, 216, 217, 218, 219, 220, 221, 222, 223, 224, 225, 226, 227, 228, 229, 230, 231, 232, 233, 234, 235, 236, 237, 238] (by decide +kernel) (by decide +kernel)
set_option maxRecDepth 20000 in
theorem gq_isStep_wsL_isStep_r9 : GoodIn wsL_law wsL_isStep_r9 := goodIn_r _ [239, 240, 241, 242, 243, 244, 245, 246, 247, 248, 249, 250, 251, 252, 253, 254, 255, 256, 257, 258, 259, 260, 261, 262] (by decide +kernel) (by decide +kernel)
set_option maxRecDepth 20000 in
theorem gq_isStep_wsL_isStep_r10 : GoodIn wsL_law wsL_isStep_r10 := goodIn_r _ [263, 264, 265, 21, 266, 267, 60, 268, 269, 270, 271, 272, 273, 274, 275, 276, 277, 278, 279, 280, 281, 282, 283, 284] (by decide +kernel) (by decide +kernel)
set_option maxRecDepth 20000 in
theorem gq_isStep_wsL_isStep_r11 : GoodIn wsL_law wsL_isStep_r11 := goodIn_r _ [285, 286, 287, 288, 289, 290, 291, 292, 293, 294, 295, 296, 297, 298, 299, 300, 301, 302, 303, 304, 61, 62, 305, 306] (by decide +kernel) (by decide +kernel)
set_option maxRecDepth 20000 in
theorem gq_isStep_wsL_isStep_r12 : GoodIn wsL_law wsL_isStep_r12 := goodIn_r _ [307, 308, 309, 310, 311, 312, 313, 314, 315, 316, 317, 318, 319, 320, 321, 322, 323, 324, 325, 326, 327, 328, 329] (by decide +kernel) (by decide +kernel)
set_option maxRecDepth 20000 in
theorem gq_isStep_wsX40 : GoodIn wsL_law wsX40 := goodIn_r _ [356, 357, 358, 359, 360, 361] (by decide +kernel) (by decide +kernel)
set_option maxRecDepth 20000 in
theorem gq_isStep_wsX20 : GoodIn wsL_law wsX20 := goodIn_r _ [362, 363, 364, 365, 366, 367, 368, 369, 370, 371, 372, 373, 374, 375, 376] (by decide +kernel) (by decide +kernel)
set_option maxRecDepth 20000 in
theorem gq_isStep_wsX10 : GoodIn wsL_law wsX10 := goodIn_r _ [386, 387, 388, 389, 390, 391, 392, 393] (by decide +kernel) (by decide +kernel)
set_option maxRecDepth 20000 in
theorem gq_isStep_wsX00 : GoodIn wsL_law wsX00 := goodIn_r _ [377, 378, 379] (by decide +kernel) (by decide +kernel)
set_option maxRecDepth 20000 in
theorem gq_isStep_wsX30 : GoodIn wsL_law wsX30 := goodIn_r _ [380, 381, 382, 383, 384, 385] (by decide +kernel) (by decide +kernel)
set_option maxRecDepth 20000 in
theorem ggL_law_L_isStep : GoodIn wsL_law wsL_isStep := fun w hw => (List.mem_cons.mp hw).elim (fun e => by subst e; exact ⟨List.mem_of_getElem? (i := 70) rfl, good_of_word rfl⟩) (goodIn_app (goodIn_app (goodIn_app (goodIn_app (goodIn_app (goodIn_app gq_isStep_wsL_isStep_r1 (goodIn_app gq_isStep_wsL_isStep_r2 (goodIn_app gq_isStep_wsL_isStep_r3 (goodIn_app gq_isStep_wsL_isStep_r4 (goodIn_app gq_isStep_wsL_isStep_r5 (goodIn_app gq_isStep_wsL_isStep_r6 (goodIn_app gq_isStep_wsL_isStep_r7 (goodIn_app gq_isStep_wsL_isStep_r8 (goodIn_app gq_isStep_wsL_isStep_r9 (goodIn_app gq_isStep_wsL_isStep_r10 (goodIn_app gq_isStep_wsL_isStep_r11 (gq_isStep_wsL_isStep_r12)))))))))))) gq_isStep_wsX40) gq_isStep_wsX20) gq_isStep_wsX10) gq_isStep_wsX00) gq_isStep_wsX30 w)
set_option maxRecDepth 20000 in
theorem gL_law_L_isStep : GoodIn wsL_law (va_wsS RL 79 yL_isStep wsL_isStep) := goodIn_app (goodIn_of _ (by decide +kernel)) ggL_law_L_isStep
set_option maxRecDepth 20000 in
theorem ggL_law_X4_count : GoodIn wsL_law wsX4_count := goodIn_r _ [78, 12, 18, 22, 79, 80, 81, 11, 82, 27, 83, 84, 2, 85, 86, 87, 88, 89, 90, 356, 357, 358, 359, 360, 361, 362, 363, 364, 365, 366, 367, 368, 369, 370, 371, 372, 373, 374, 375, 376, 386, 387, 388, 389, 390, 391, 392, 393, 377, 378, 379, 380, 381, 382, 383, 384, 385] (by decide +kernel) (by decide +kernel)
set_option maxRecDepth 20000 in
theorem gL_law_X4_count : GoodIn wsL_law (wsV RL 21 RX4 yX4_count wsX4_count) := goodIn_app (goodIn_of _ (by decide +kernel)) ggL_law_X4_count
set_option maxRecDepth 20000 in
theorem gq_isWell_wsL_isWell_r1 : GoodIn wsL_law wsL_isWell_r1 := goodIn_r _ [75, 76, 77, 2, 78, 12, 18, 22, 79, 80, 81, 11, 82, 27, 83, 84, 85, 86, 87, 88, 89, 90, 193, 194] (by decide +kernel) (by decide +kernel)
set_option maxRecDepth 20000 in
theorem gq_isWell_wsL_isWell_r2 : GoodIn wsL_law wsL_isWell_r2 := goodIn_r _ [195, 196, 197, 198, 199, 200, 201, 202, 203, 34, 35, 204, 170, 171, 172, 28, 205, 161, 162, 163, 206, 207, 208, 209] (by decide +kernel) (by decide +kernel)
set_option maxRecDepth 20000 in
theorem gq_isWell_wsL_isWell_r3 : GoodIn wsL_law wsL_isWell_r3 := goodIn_r _ [160, 164, 210, 211, 212, 213, 214, 157, 158, 159, 215, 166, 167, 168, 216, 217, 218, 219, 29, 220, 221, 222, 223, 224] (by decide +kernel) (by decide +kernel)
set_option maxRecDepth 20000 in
theorem gq_isWell_wsL_isWell_r4 : GoodIn wsL_law wsL_isWell_r4 := goodIn_r _ [30, 225, 226, 227, 228, 33, 229, 45, 46, 123, 104, 105, 333, 334, 335, 336, 95, 96, 97, 254, 185, 186, 139, 140] (by decide +kernel) (by decide +kernel)
set_option maxRecDepth 20000 in
theorem gq_isWell_wsL_isWell_r5 : GoodIn wsL_law wsL_isWell_r5 := goodIn_r _ [141, 142, 13, 143, 111, 112, 113, 114, 37, 38, 39, 115, 40, 116, 117, 118, 119, 120, 121, 122, 124, 125, 126, 127] (by decide +kernel) (by decide +kernel)
set_option maxRecDepth 20000 in
theorem gq_isWell_wsL_isWell_r6 : GoodIn wsL_law wsL_isWell_r6 := goodIn_r _ [128, 129, 130, 144, 145, 146, 147, 148, 149, 150, 151, 152, 153, 154, 155, 156, 165, 169, 173, 174, 175, 176, 177, 178] (by decide +kernel) (by decide +kernel)
set_option maxRecDepth 20000 in
theorem gq_isWell_wsL_isWell_r7 : GoodIn wsL_law wsL_isWell_r7 := goodIn_r _ [179, 180, 181, 182, 183, 184, 187, 188, 189, 190, 191, 192] (by decide +kernel) (by decide +kernel)
set_option maxRecDepth 20000 in
theorem gq_isWell_wsX40 : GoodIn wsL_law wsX40 := goodIn_r _ [356, 357, 358, 359, 360, 361] (by decide +kernel) (by decide +kernel)
set_option maxRecDepth 20000 in
theorem gq_isWell_wsX20 : GoodIn wsL_law wsX20 := goodIn_r _ [362, 363, 364, 365, 366, 367, 368, 369, 370, 371, 372, 373, 374, 375, 376] (by decide +kernel) (by decide +kernel)
set_option maxRecDepth 20000 in
theorem gq_isWell_wsX10 : GoodIn wsL_law wsX10 := goodIn_r _ [386, 387, 388, 389, 390, 391, 392, 393] (by decide +kernel) (by decide +kernel)
set_option maxRecDepth 20000 in
theorem gq_isWell_wsX00 : GoodIn wsL_law wsX00 := goodIn_r _ [377, 378, 379] (by decide +kernel) (by decide +kernel)
set_option maxRecDepth 20000 in
theorem gq_isWell_wsX30 : GoodIn wsL_law wsX30 := goodIn_r _ [380, 381, 382, 383, 384, 385] (by decide +kernel) (by decide +kernel)
set_option maxRecDepth 20000 in
theorem ggL_law_L_isWell : GoodIn wsL_law wsL_isWell := fun w hw => (List.mem_cons.mp hw).elim (fun e => by subst e; exact ⟨List.mem_of_getElem? (i := 332) rfl, good_of_word rfl⟩) (goodIn_app (goodIn_app (goodIn_app (goodIn_app (goodIn_app (goodIn_app gq_isWell_wsL_isWell_r1 (goodIn_app gq_isWell_wsL_isWell_r2 (goodIn_app gq_isWell_wsL_isWell_r3 (goodIn_app gq_isWell_wsL_isWell_r4 (goodIn_app gq_isWell_wsL_isWell_r5 (goodIn_app gq_isWell_wsL_isWell_r6 (gq_isWell_wsL_isWell_r7))))))) gq_isWell_wsX40) gq_isWell_wsX20) gq_isWell_wsX10) gq_isWell_wsX00) gq_isWell_wsX30 w)
set_option maxRecDepth 20000 in
theorem gL_law_L_isWell : GoodIn wsL_law (va_wsS RL 83 yL_isWell wsL_isWell) := goodIn_app (goodIn_of _ (by decide +kernel)) ggL_law_L_isWell
set_option maxRecDepth 20000 in
theorem gq_areAlike_wsL_areAlike_r1 : GoodIn wsL_law wsL_areAlike_r1 := goodIn_r _ [75, 76, 77, 2, 78, 12, 18, 22, 79, 80, 81, 11, 82, 27, 83, 84, 85, 86, 87, 88, 89, 90, 193, 194] (by decide +kernel) (by decide +kernel)
set_option maxRecDepth 20000 in
theorem gq_areAlike_wsL_areAlike_r2 : GoodIn wsL_law wsL_areAlike_r2 := goodIn_r _ [195, 196, 197, 198, 199, 200, 201, 202, 203, 34, 35, 204, 170, 171, 172, 28, 205, 161, 162, 163, 206, 207, 208, 209] (by decide +kernel) (by decide +kernel)
set_option maxRecDepth 20000 in
theorem gq_areAlike_wsL_areAlike_r3 : GoodIn wsL_law wsL_areAlike_r3 := goodIn_r _ [160, 164, 210, 211, 212, 213, 214, 157, 158, 159, 215, 166, 167, 168, 216, 217, 218, 219, 29, 220, 221, 222, 223, 224] (by decide +kernel) (by decide +kernel)
set_option maxRecDepth 20000 in
theorem gq_areAlike_wsL_areAlike_r4 : GoodIn wsL_law wsL_areAlike_r4 := goodIn_r _ [30, 225, 226, 227, 228, 33, 229, 45, 46, 123, 104, 105, 333, 334, 335, 336, 95, 96, 97, 254, 185, 186, 250, 251] (by decide +kernel) (by decide +kernel)
set_option maxRecDepth 20000 in
theorem gq_areAlike_wsL_areAlike_r5 : GoodIn wsL_law wsL_areAlike_r5 := goodIn_r _ [252, 253, 340, 341, 342, 343, 344, 345, 346, 347, 117, 40, 139, 140, 141, 142, 13, 143, 111, 112, 113, 114, 37, 38] (by decide +kernel) (by decide +kernel)
set_option maxRecDepth 20000 in
theorem gq_areAlike_wsL_areAlike_r6 : GoodIn wsL_law wsL_areAlike_r6 := goodIn_r _ [39, 115, 116, 118, 119, 120, 121, 122, 124, 125, 126, 127, 128, 129, 130, 144, 145, 146, 147, 148, 149, 150, 151, 152] (by decide +kernel) (by decide +kernel)
set_option maxRecDepth 20000 in
theorem gq_areAlike_wsL_areAlike_r7 : GoodIn wsL_law wsL_areAlike_r7 := goodIn_r _ [153, 154, 155, 156, 165, 169, 173, 174, 175, 176, 177, 178, 179, 180, 181, 182, 183, 184, 187, 188, 189, 190, 191, 192] (by decide +kernel) (by decide +kernel)
set_option maxRecDepth 20000 in
theorem gq_areAlike_wsL_areAlike_r8 : GoodIn wsL_law wsL_areAlike_r8 := goodIn_r _ [348, 349, 350, 351, 131, 132, 133, 134, 135, 136, 137, 138, 47, 48, 352, 353, 354, 355, 319] (by decide +kernel) (by decide +kernel)
set_option maxRecDepth 20000 in
theorem gq_areAlike_wsX40 : GoodIn wsL_law wsX40 := goodIn_r _ [356, 357, 358, 359, 360, 361] (by decide +kernel) (by decide +kernel)
set_option maxRecDepth 20000 in
theorem gq_areAlike_wsX20 : GoodIn wsL_law wsX20 := goodIn_r _ [362, 363, 364, 365, 366, 367, 368, 369, 370, 371, 372, 373, 374, 375, 376] (by decide +kernel) (by decide +kernel)
set_option maxRecDepth 20000 in
theorem gq_areAlike_wsX10 : GoodIn wsL_law wsX10 := goodIn_r _ [386, 387, 388, 389, 390, 391, 392, 393] (by decide +kernel) (by decide +kernel)
set_option maxRecDepth 20000 in
theorem gq_areAlike_wsX00 : GoodIn wsL_law wsX00 := goodIn_r _ [377, 378, 379] (by decide +kernel) (by decide +kernel)
set_option maxRecDepth 20000 in
theorem gq_areAlike_wsX30 : GoodIn wsL_law wsX30 := goodIn_r _ [380, 381, 382, 383, 384, 385] (by decide +kernel) (by decide +kernel)
set_option maxRecDepth 20000 in
theorem ggL_law_L_areAlike : GoodIn wsL_law wsL_areAlike := fun w hw => (List.mem_cons.mp hw).elim (fun e => by subst e; exact ⟨List.mem_of_getElem? (i := 339) rfl, good_of_word rfl⟩) (goodIn_app (goodIn_app (goodIn_app (goodIn_app (goodIn_app (goodIn_app gq_areAlike_wsL_areAlike_r1 (goodIn_app gq_areAlike_wsL_areAlike_r2 (goodIn_app gq_areAlike_wsL_areAlike_r3 (goodIn_app gq_areAlike_wsL_areAlike_r4 (goodIn_app gq_areAlike_wsL_areAlike_r5 (goodIn_app gq_areAlike_wsL_areAlike_r6 (goodIn_app gq_areAlike_wsL_areAlike_r7 (gq_areAlike_wsL_areAlike_r8)))))))) gq_areAlike_wsX40) gq_areAlike_wsX20) gq_areAlike_wsX10) gq_areAlike_wsX00) gq_areAlike_wsX30 w)
set_option maxRecDepth 20000 in
theorem gL_law_L_areAlike : GoodIn wsL_law (va_wsS RL 87 yL_areAlike wsL_areAlike) := goodIn_app (goodIn_of _ (by decide +kernel)) ggL_law_L_areAlike
