set_option maxRecDepth 20000 in
theorem ggL_law_X5_init : GoodIn wsL_law wsX5_init := goodIn_r _ [5, 6, 7, 8, 9, 10, 11, 12, 13, 14, 15, 16, 17, 18, 19, 20, 21, 22, 23, 24, 25, 26, 27, 28, 29, 30, 31, 32, 33, 34, 35, 36, 37, 38, 39, 40, 41, 42, 43, 44, 45, 46, 47, 48, 49, 50, 51, 52, 53, 54, 55, 56, 390, 391, 392, 393, 394, 384, 385, 386, 387, 388, 389, 395, 396, 397, 398, 399, 400, 401, 402, 403, 404, 405, 406, 407, 408, 409, 410, 411, 412, 413, 414, 415, 416] rfl (by decide +kernel)
set_option maxRecDepth 20000 in
theorem gL_law_X5_init : GoodIn wsL_law (wsX5_init) := ggL_law_X5_init
set_option maxRecDepth 20000 in
theorem ggL_law_X5_recordedStates : GoodIn wsL_law wsX5_recordedStates := goodIn_r _ [60, 16, 61, 384, 385, 386, 387, 388, 389, 395, 396, 397] rfl (by decide +kernel)
set_option maxRecDepth 20000 in
theorem gL_law_X5_recordedStates : GoodIn wsL_law (wsV RL 88 RX5 yX5_recordedStates wsX5_recordedStates) := goodIn_app (goodIn_of _ (by decide +kernel)) ggL_law_X5_recordedStates
set_option maxRecDepth 20000 in
theorem ggL_law_X5_width : GoodIn wsL_law wsX5_width := goodIn_r _ [65, 12, 66, 384, 385, 386, 387, 388, 389, 390, 391, 392, 393, 394] rfl (by decide +kernel)
set_option maxRecDepth 20000 in
theorem gL_law_X5_width : GoodIn wsL_law (wsV RL 12 RX5 yX5_width wsX5_width) := goodIn_app (goodIn_of _ (by decide +kernel)) ggL_law_X5_width
set_option maxRecDepth 20000 in
theorem ggL_law_X5_valueOf : GoodIn wsL_law wsX5_valueOf := goodIn_ca (goodIn_r _ [70, 12, 71, 72, 2, 73, 74, 75, 76, 77, 78, 79, 80, 81, 11, 82, 27, 384, 385, 386, 387, 388, 389, 390, 391, 392, 393, 394] rfl (by decide +kernel)) (goodIn_sub (fun _ h => List.mem_append_left _ (List.mem_append_left _ (List.mem_append_right _ h))) (by decide +kernel))
set_option maxRecDepth 20000 in
theorem gL_law_X5_valueOf : GoodIn wsL_law (wsV RL 24 RX5 yX5_valueOf wsX5_valueOf) := goodIn_app (goodIn_of _ (by decide +kernel)) ggL_law_X5_valueOf
set_option maxRecDepth 20000 in
theorem ggL_law_X5_stepsLeft : GoodIn wsL_law wsX5_stepsLeft := goodIn_r _ [86, 12, 87, 88, 384, 385, 386, 387, 388, 389, 390, 391, 392, 393, 394, 403, 404, 405, 406, 407, 408, 409] rfl (by decide +kernel)
set_option maxRecDepth 20000 in
theorem gL_law_X5_stepsLeft : GoodIn wsL_law (wsV RL 18 RX5 yX5_stepsLeft wsX5_stepsLeft) := goodIn_app (goodIn_of _ (by decide +kernel)) ggL_law_X5_stepsLeft
set_option maxRecDepth 20000 in
theorem ggL_law_X5_overflows : GoodIn wsL_law wsX5_overflows := goodIn_r _ [92, 12, 93, 384, 385, 386, 387, 388, 389, 390, 391, 392, 393, 394] rfl (by decide +kernel)
set_option maxRecDepth 20000 in
theorem gL_law_X5_overflows : GoodIn wsL_law (wsV RL 21 RX5 yX5_overflows wsX5_overflows) := goodIn_app (goodIn_of _ (by decide +kernel)) ggL_law_X5_overflows
set_option maxRecDepth 20000 in
theorem ggL_law_X5_rowsOf : GoodIn wsL_law wsX5_rowsOf := goodIn_ca (goodIn_ca (goodIn_ca (goodIn_r _ [97, 12, 66, 71, 72, 2, 73, 74, 75, 76, 77, 78, 98, 99, 100, 101, 102, 103, 104, 105, 106, 107, 108, 109, 110, 111, 112, 113, 114, 79, 80, 81, 11, 82, 27, 115, 116, 117, 118, 119, 120, 384, 385, 386, 387, 388, 389, 390, 391, 392, 393, 394] rfl (by decide +kernel)) (goodIn_sub (fun _ h => List.mem_append_left _ (List.mem_append_left _ (List.mem_append_right _ h))) (by decide +kernel))) (goodIn_sub (fun _ h => List.mem_append_left _ (List.mem_append_right _ h)) (by decide +kernel))) (goodIn_sub (fun _ h => List.mem_append_right _ h) (by decide +kernel))
set_option maxRecDepth 20000 in
theorem gL_law_X5_rowsOf : GoodIn wsL_law (wsV RL 71 RX5 yX5_rowsOf wsX5_rowsOf) := goodIn_app (goodIn_of _ (by decide +kernel)) ggL_law_X5_rowsOf
set_option maxRecDepth 20000 in
theorem ggL_law_X5_programError : GoodIn wsL_law wsX5_programError := goodIn_r _ [124, 21, 125, 126, 127, 20, 128, 52, 129, 48, 130, 131, 132, 51, 133, 134, 135, 136, 137, 138, 139, 140, 141, 142, 143, 144, 145, 146, 147, 148, 149, 150, 151, 152, 153, 154, 155, 156, 157, 158, 159, 160, 161, 162, 163, 164, 165, 166, 167, 168, 169, 170, 171, 172, 173, 174, 175, 176, 177, 178, 179, 180, 181, 182, 183, 184, 185, 186, 187, 188, 189, 190, 191, 384, 385, 386, 387, 388, 389, 398, 399, 400, 401, 402, 410, 411, 412, 413, 414, 415, 416] rfl (by decide +kernel)
set_option maxRecDepth 20000 in
theorem gL_law_X5_programError : GoodIn wsL_law (wsV RL 91 RX5 yX5_programError wsX5_programError) := goodIn_app (goodIn_of _ (by decide +kernel)) ggL_law_X5_programError
set_option maxRecDepth 20000 in
theorem ggL_law_L_cell : GoodIn wsL_law wsL_cell := goodIn_r _ [195] rfl (by decide +kernel)
set_option maxRecDepth 20000 in
theorem gL_law_L_cell : GoodIn wsL_law (va_wsS RL 94 yL_cell wsL_cell) := goodIn_app (goodIn_of _ (by decide +kernel)) ggL_law_L_cell
set_option maxRecDepth 20000 in
theorem ggL_law_L_told : GoodIn wsL_law wsL_told := goodIn_ca (goodIn_ca (goodIn_r _ [198, 199, 200, 62, 63, 64, 2, 65, 12, 66, 83, 84, 85, 86, 87, 88, 89, 90, 91, 92, 93, 67, 68, 69, 70, 71, 72, 73, 74, 75, 76, 77, 78, 79, 80, 81, 11, 82, 27, 201, 202, 203, 204, 205, 206, 207, 208, 209, 110, 111, 210, 211, 212, 213, 214, 215, 216, 217, 218, 219, 220, 221, 222, 223, 224, 384, 385, 386, 387, 388, 389, 390, 391, 392, 393, 394, 403, 404, 405, 406, 407, 408, 409] rfl (by decide +kernel)) (goodIn_sub (fun _ h => List.mem_append_left _ (List.mem_append_left _ (List.mem_append_right _ h))) (by decide +kernel))) (goodIn_sub (fun _ h => List.mem_append_right _ h) (by decide +kernel))
set_option maxRecDepth 20000 in
theorem gL_law_L_told : GoodIn wsL_law (va_wsS RL 98 yL_told wsL_told) := goodIn_app (goodIn_of _ (by decide +kernel)) ggL_law_L_told
set_option maxRecDepth 20000 in
theorem ggL_law_L_act : GoodIn wsL_law wsL_act := goodIn_ca (goodIn_ca (goodIn_ca (goodIn_r _ [227, 228, 229, 194, 230, 231, 62, 63, 64, 2, 65, 12, 66, 232, 233, 234, 235, 101, 102, 16, 236, 237, 238, 15, 239, 240, 241, 242, 243, 244, 245, 246, 247, 248, 249, 43, 250, 251, 252, 253, 254, 255, 256, 11, 257, 27, 31, 32, 258, 259, 260, 261, 262, 30, 263, 36, 37, 38, 264, 265, 266, 267, 268, 269, 270, 271, 272, 273, 274, 275, 276, 277, 278, 279, 280, 281, 282, 283, 71, 72, 73, 74, 75, 76, 77, 78, 284, 285, 286, 287, 79, 80, 81, 82, 288, 289, 290, 291, 292, 293, 294, 295, 87, 88, 106, 107, 108, 109, 110, 111, 296, 297, 298, 299, 300, 301, 302, 303, 304, 113, 114, 305, 306, 83, 84, 85, 86, 307, 308, 309, 310, 311, 312, 313, 314, 315, 316, 317, 318, 319, 320, 321, 322, 119, 120, 323, 324, 325, 326, 206, 207, 208, 209, 327, 328, 329, 330, 331, 332, 333, 334, 384, 385, 386, 387, 388, 389, 390, 391, 392, 393, 394, 395, 396, 397, 403, 404, 405, 406, 407, 408, 409] rfl (by decide +kernel)) (goodIn_sub (fun _ h => List.mem_append_left _ (List.mem_append_right _ h)) (by decide +kernel))) (goodIn_sub (fun _ h => List.mem_append_left _ (List.mem_append_left _ (List.mem_append_right _ h))) (by decide +kernel))) (goodIn_sub (fun _ h => List.mem_append_right _ h) (by decide +kernel))
set_option maxRecDepth 20000 in
theorem gL_law_L_act : GoodIn wsL_law (va_wsS RL 102 yL_act wsL_act) := goodIn_app (goodIn_of _ (by decide +kernel)) ggL_law_L_act
set_option maxRecDepth 20000 in
theorem ggL_law_X5_undo : GoodIn wsL_law wsX5_undo := goodIn_ca (goodIn_r _ [338, 110, 111, 16, 61, 12, 339, 340, 341, 15, 342, 240, 241, 246, 247, 248, 249, 43, 250, 251, 252, 253, 254, 255, 256, 11, 257, 27, 31, 32, 258, 259, 260, 261, 262, 30, 263, 36, 37, 38, 264, 265, 266, 267, 384, 385, 386, 387, 388, 389, 395, 396, 397, 390, 391, 392, 393, 394, 403, 404, 405, 406, 407, 408, 409] rfl (by decide +kernel)) (goodIn_sub (fun _ h => List.mem_append_right _ h) (by decide +kernel))
set_option maxRecDepth 20000 in
theorem gL_law_X5_undo : GoodIn wsL_law (wsV RL 106 RX5 yX5_undo wsX5_undo) := goodIn_app (goodIn_of _ (by decide +kernel)) ggL_law_X5_undo
set_option maxRecDepth 20000 in
theorem ggL_law_L_low : GoodIn wsL_law wsL_low := goodIn_r _ [230, 231] rfl (by decide +kernel)
set_option maxRecDepth 20000 in
theorem gL_law_L_low : GoodIn wsL_law (va_wsS RL 40 yL_low wsL_low) := goodIn_app (goodIn_of _ (by decide +kernel)) ggL_law_L_low
set_option maxRecDepth 20000 in
theorem ggL_law_L_holds : GoodIn wsL_law wsL_holds := goodIn_ca (goodIn_ca (goodIn_ca (goodIn_r _ [345, 62, 63, 64, 2, 65, 12, 66, 67, 68, 69, 70, 71, 72, 73, 74, 75, 76, 77, 78, 79, 80, 81, 11, 82, 27, 346, 347, 348, 349, 118, 119, 120, 350, 351, 352, 353, 98, 99, 100, 101, 102, 103, 104, 105, 106, 107, 108, 109, 110, 111, 112, 113, 114, 115, 116, 117, 354, 305, 306, 94, 95, 96, 97, 355, 356, 357, 358, 284, 285, 286, 287, 272, 273, 274, 275, 32, 359, 360, 361, 362, 296, 297, 298, 299, 300, 363, 364, 365, 366, 367, 368, 369, 370, 371, 372, 373, 374, 375, 376, 377, 378, 244, 379, 380, 381, 382, 383, 83, 84, 85, 86, 87, 88, 210, 211, 212, 213, 214, 206, 207, 208, 209, 215, 216, 217, 218, 219, 384, 385, 386, 387, 388, 389, 390, 391, 392, 393, 394, 403, 404, 405, 406, 407, 408, 409] rfl (by decide +kernel)) (goodIn_sub (fun _ h => List.mem_append_left _ (List.mem_append_left _ (List.mem_append_right _ h))) (by decide +kernel))) (goodIn_sub (fun _ h => List.mem_append_left _ (List.mem_append_right _ h)) (by decide +kernel))) (goodIn_sub (fun _ h => List.mem_append_right _ h) (by decide +kernel))
set_option maxRecDepth 20000 in
theorem gL_law_L_holds : GoodIn wsL_law (va_wsS RL 109 yL_holds wsL_holds) := goodIn_app (goodIn_of _ (by decide +kernel)) ggL_law_L_holds
