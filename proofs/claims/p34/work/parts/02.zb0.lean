theorem in_ix {big : List Cond} (ws : List Cond) (ps : List Nat) (hp : ws = ps.filterMap (fun i => big[i]?)) : ∀ w ∈ ws, w ∈ big := by
  intro w hw
  rw [hp] at hw
  obtain ⟨i, -, hi⟩ := List.mem_filterMap.mp hw
  exact List.mem_of_getElem? hi
theorem in_cons {big ws : List Cond} {a : Cond} (h : a ∈ big) (hs : ∀ w ∈ ws, w ∈ big) : ∀ w ∈ a :: ws, w ∈ big := fun w hw => (List.mem_cons.mp hw).elim (fun e => e ▸ h) (hs w)
theorem in_nil {big : List Cond} : ∀ w ∈ ([] : List Cond), w ∈ big := fun w hw => absurd hw List.not_mem_nil
theorem in_app {big a b : List Cond} (ha : ∀ w ∈ a, w ∈ big) (hb : ∀ w ∈ b, w ∈ big) : ∀ w ∈ a ++ b, w ∈ big := fun w hw => (List.mem_append.mp hw).elim (ha w) (hb w)
set_option maxRecDepth 20000 in
theorem wsL_law_r1 : ∀ w ∈ wsL_law0_r1, w ∈ lw_tbl := (in_cons (List.mem_of_getElem? (i := 26) rfl) (in_cons (List.mem_of_getElem? (i := 27) rfl) (in_cons (List.mem_of_getElem? (i := 12) rfl) (in_cons (List.mem_of_getElem? (i := 28) rfl) (in_cons (List.mem_of_getElem? (i := 29) rfl) (in_cons (List.mem_of_getElem? (i := 30) rfl) (in_cons (List.mem_of_getElem? (i := 31) rfl) (in_cons (List.mem_of_getElem? (i := 32) rfl) (in_cons (List.mem_of_getElem? (i := 33) rfl) (in_cons (List.mem_of_getElem? (i := 34) rfl) (in_cons (List.mem_of_getElem? (i := 35) rfl) (in_cons (List.mem_of_getElem? (i := 13) rfl) (in_cons (List.mem_of_getElem? (i := 163) rfl) (in_cons (List.mem_of_getElem? (i := 93) rfl) (in_cons (List.mem_of_getElem? (i := 94) rfl) (in_cons (List.mem_of_getElem? (i := 15) rfl) (in_cons (List.mem_of_getElem? (i := 164) rfl) (in_cons (List.mem_of_getElem? (i := 165) rfl) (in_cons (List.mem_of_getElem? (i := 113) rfl) (in_cons (List.mem_of_getElem? (i := 114) rfl) (in_cons (List.mem_of_getElem? (i := 16) rfl) (in_cons (List.mem_of_getElem? (i := 166) rfl) (in_cons (List.mem_of_getElem? (i := 167) rfl) (in_cons (List.mem_of_getElem? (i := 37) rfl) in_nil))))))))))))))))))))))))
set_option maxRecDepth 20000 in
theorem wsL_law_r2 : ∀ w ∈ wsL_law0_r2, w ∈ lw_tbl := in_ix _ [38, 39, 72, 73, 40, 41, 14, 74, 76, 43, 44, 45, 46, 48, 49, 96, 97, 98, 99, 102, 116, 117, 118, 147] rfl
set_option maxRecDepth 20000 in
theorem wsL_law_r3 : ∀ w ∈ wsL_law0_r3, w ∈ lw_tbl := in_ix _ [148, 119, 120, 17, 149, 151, 122, 123, 124, 418, 419, 420, 421, 105, 335, 336, 337, 338, 77, 339, 340, 341, 342, 343] rfl
set_option maxRecDepth 20000 in
theorem wsL_law_r4 : ∀ w ∈ wsL_law0_r4, w ∈ lw_tbl := in_ix _ [344, 345, 349, 21, 346, 347, 348, 365, 366, 367, 368, 410, 411, 412, 413, 75, 47, 414, 415, 416, 417, 79, 370, 371] rfl
set_option maxRecDepth 20000 in
theorem wsL_law_r5 : ∀ w ∈ wsL_law0_r5, w ∈ lw_tbl := in_ix _ [372, 373, 374, 375, 376, 380, 22, 377, 378, 379, 396, 398, 8, 399, 248, 23, 401, 402, 403, 404, 405, 406, 407, 408] rfl
set_option maxRecDepth 20000 in
theorem wsL_law_r6 : ∀ w ∈ wsL_law0_r6, w ∈ lw_tbl := in_ix _ [409, 181, 182, 183, 184, 185, 186, 187, 188, 150, 189, 190, 191, 192, 125, 126, 127, 128, 129, 130, 131, 193, 194, 195] rfl
set_option maxRecDepth 20000 in
theorem wsL_law_r7 : ∀ w ∈ wsL_law0_r7, w ∈ lw_tbl := in_ix _ [196, 197, 198, 199, 200, 201, 202, 203, 204, 205, 206, 208, 0, 209, 210, 211, 212, 213, 214, 215, 216, 217, 218, 219] rfl
set_option maxRecDepth 20000 in
theorem wsL_law_r8 : ∀ w ∈ wsL_law0_r8, w ∈ lw_tbl := in_ix _ [220, 221, 222, 224, 1, 225, 226, 228, 2, 229, 230, 231, 233, 3, 234, 235, 237, 4, 238, 239, 241, 5, 242, 243] rfl
set_option maxRecDepth 20000 in
theorem wsL_law_r9 : ∀ w ∈ wsL_law0_r9, w ∈ lw_tbl := in_ix _ [422, 423, 11, 424, 429, 430, 431, 432, 433, 434, 435, 436, 437, 52, 438, 440, 9, 441, 443, 444, 445, 446, 54, 447] rfl
set_option maxRecDepth 20000 in
theorem wsL_law_r10 : ∀ w ∈ wsL_law0_r10, w ∈ lw_tbl := in_ix _ [448, 449, 450, 56, 451, 452, 453, 454, 81, 455, 456, 457, 425, 426, 427, 428, 458, 459, 460, 461, 463, 464, 465, 466] rfl
set_option maxRecDepth 20000 in
theorem wsL_law_r11 : ∀ w ∈ wsL_law0_r11, w ∈ lw_tbl := in_ix _ [103, 104, 467, 468, 24, 469, 320, 322, 7, 323, 324, 325, 24, 326, 327, 328, 329, 330, 78, 80, 331, 332, 333, 334] rfl
set_option maxRecDepth 20000 in
theorem wsL_law_r12 : ∀ w ∈ wsL_law0_r12, w ∈ lw_tbl := in_ix _ [50, 51, 53, 55, 470, 471, 472, 473, 474, 475, 476, 477, 478, 479, 480, 481, 482, 483, 484, 485, 486, 487, 488, 489] rfl
set_option maxRecDepth 20000 in
theorem wsL_law_r13 : ∀ w ∈ wsL_law0_r13, w ∈ lw_tbl := in_ix _ [491, 492, 493, 494, 495, 496, 497, 498, 500, 501, 502, 503, 504, 505, 506, 507, 508, 511, 512, 513, 514, 515, 516, 518] rfl
set_option maxRecDepth 20000 in
theorem wsL_law_r14 : ∀ w ∈ wsL_law0_r14, w ∈ lw_tbl := in_ix _ [519, 520, 521, 522, 523, 524, 525, 526, 528, 10, 529, 531, 532, 533, 534, 535, 536, 537, 538, 540, 541, 542, 543, 244] rfl
set_option maxRecDepth 20000 in
theorem wsL_law_r15 : ∀ w ∈ wsL_law0_r15, w ∈ lw_tbl := in_ix _ [245, 246, 247, 316, 317, 318, 319, 544, 545, 546, 547, 548, 549, 550, 551, 552, 553, 554, 555, 556, 557, 558, 559, 560] rfl
set_option maxRecDepth 20000 in
theorem wsL_law_r16 : ∀ w ∈ wsL_law0_r16, w ∈ lw_tbl := in_ix _ [561, 562, 563, 564, 565, 566, 567, 568, 25, 569, 570, 571, 572, 573, 574, 575, 576, 577, 578, 579, 580, 581, 582, 583] rfl
set_option maxRecDepth 20000 in
theorem wsL_law_wsX50 : ∀ w ∈ wsX50, w ∈ lw_tbl := in_ix _ [168, 170, 172, 174, 176, 178] rfl
set_option maxRecDepth 20000 in
theorem wsL_law_wsX30 : ∀ w ∈ wsX30, w ∈ lw_tbl := in_ix _ [82, 84, 86, 88, 90] rfl
set_option maxRecDepth 20000 in
theorem wsL_law_wsX00 : ∀ w ∈ wsX00, w ∈ lw_tbl := in_ix _ [106, 108, 110] rfl
set_option maxRecDepth 20000 in
theorem wsL_law_wsX20 : ∀ w ∈ wsX20, w ∈ lw_tbl := in_ix _ [152, 154, 156, 158, 160] rfl
set_option maxRecDepth 20000 in
theorem wsL_law_wsX10 : ∀ w ∈ wsX10, w ∈ lw_tbl := in_ix _ [57, 59, 61, 63, 65, 67, 69] rfl
set_option maxRecDepth 20000 in
theorem wsL_law_wsX40 : ∀ w ∈ wsX40, w ∈ lw_tbl := in_ix _ [132, 134, 136, 138, 140, 142, 144] rfl
set_option maxRecDepth 20000 in
theorem wsL_law_in0 : ∀ w ∈ wsL_law0, w ∈ lw_tbl := (in_app (in_app (in_app (in_app (in_app (in_app (in_app (in_app wsL_law_r1 (in_app wsL_law_r2 (in_app wsL_law_r3 (in_app wsL_law_r4 (in_app wsL_law_r5 (in_app wsL_law_r6 (in_app wsL_law_r7 (in_app wsL_law_r8 (in_app wsL_law_r9 (in_app wsL_law_r10 (in_app wsL_law_r11 (in_app wsL_law_r12 (in_app wsL_law_r13 (in_app wsL_law_r14 (in_app wsL_law_r15 wsL_law_r16))))))))))))))) wsL_law_wsX50) wsL_law_wsX30) wsL_law_wsX00) wsL_law_wsX20) wsL_law_wsX10) wsL_law_wsX40) in_nil)
set_option maxRecDepth 20000 in
theorem wsL_law_x0 : ∀ w ∈ (vx_atS RX5 170 "java/lang/IndexOutOfBoundsException" ["java/lang/RuntimeException", "java/lang/Exception"]).filter goodWord, w ∈ lw_tbl := in_ix _ [18, 270, 279, 283, 286, 288, 271, 272, 32, 33, 273, 278, 284, 304, 260, 305, 262, 306, 264, 274, 276, 266, 300, 301, 303, 266, 360, 361, 362, 294, 294, 295, 296, 297, 297, 298, 299, 300, 359, 350, 352, 282, 353, 354, 355, 356, 269, 268, 357] rfl
set_option maxRecDepth 20000 in
theorem wsL_law_x1 : ∀ w ∈ (vx_atS RX5 40 "java/lang/IllegalArgumentException" ["java/lang/RuntimeException", "java/lang/Exception"]).filter goodWord, w ∈ lw_tbl := in_ix _ [18, 270, 279, 283, 286, 288, 271, 272, 32, 33, 273, 278, 284, 304, 260, 305, 262, 306, 264, 274, 276, 266, 300, 301, 303, 266, 391, 392, 393, 294, 294, 295, 296, 297, 297, 298, 299, 300, 390, 381, 383, 281, 384, 385, 386, 387, 269, 268, 388] rfl
set_option maxRecDepth 20000 in
theorem wsL_law_x2 : ∀ w ∈ (vx_atS RX5 97 "java/lang/IllegalStateException" ["java/lang/RuntimeException", "java/lang/Exception"]).filter goodWord, w ∈ lw_tbl := in_ix _ [18, 270, 279, 283, 286, 288, 271, 272, 32, 33, 273, 278, 284, 304, 260, 305, 262, 306, 264, 274, 276, 266, 300, 301, 303, 266, 291, 292, 293, 294, 294, 295, 296, 297, 297, 298, 299, 300, 290, 249, 257, 258, 259, 261, 263, 265, 269, 268, 267] rfl
