theorem in_ix {big : List Cond} (ws : List Cond) (ps : List Nat) (hp : ws = ps.filterMap (fun i => big[i]?)) : ∀ w ∈ ws, w ∈ big := by
  intro w hw
  rw [hp] at hw
  obtain ⟨i, -, hi⟩ := List.mem_filterMap.mp hw
  exact List.mem_of_getElem? hi
theorem in_cons {big ws : List Cond} {a : Cond} (h : a ∈ big) (hs : ∀ w ∈ ws, w ∈ big) : ∀ w ∈ a :: ws, w ∈ big := fun w hw => (List.mem_cons.mp hw).elim (fun e => e ▸ h) (hs w)
theorem in_nil {big : List Cond} : ∀ w ∈ ([] : List Cond), w ∈ big := fun w hw => absurd hw List.not_mem_nil
theorem in_app {big a b : List Cond} (ha : ∀ w ∈ a, w ∈ big) (hb : ∀ w ∈ b, w ∈ big) : ∀ w ∈ a ++ b, w ∈ big := fun w hw => (List.mem_append.mp hw).elim (ha w) (hb w)
set_option maxRecDepth 20000 in
theorem wsL_law_r1 : ∀ w ∈ wsL_law0_r1, w ∈ lw_tbl := in_cons (List.mem_of_getElem? (i := 54) rfl) (in_cons (List.mem_of_getElem? (i := 55) rfl) (in_cons (List.mem_of_getElem? (i := 39) rfl) (in_cons (List.mem_of_getElem? (i := 726) rfl) (in_cons (List.mem_of_getElem? (i := 727) rfl) (in_cons (List.mem_of_getElem? (i := 45) rfl) (in_cons (List.mem_of_getElem? (i := 1032) rfl) (in_cons (List.mem_of_getElem? (i := 56) rfl) (in_cons (List.mem_of_getElem? (i := 57) rfl) (in_cons (List.mem_of_getElem? (i := 58) rfl) (in_cons (List.mem_of_getElem? (i := 59) rfl) (in_cons (List.mem_of_getElem? (i := 60) rfl) (in_cons (List.mem_of_getElem? (i := 61) rfl) (in_cons (List.mem_of_getElem? (i := 62) rfl) (in_cons (List.mem_of_getElem? (i := 63) rfl) (in_cons (List.mem_of_getElem? (i := 40) rfl) (in_cons (List.mem_of_getElem? (i := 197) rfl) (in_cons (List.mem_of_getElem? (i := 122) rfl) (in_cons (List.mem_of_getElem? (i := 123) rfl) (in_cons (List.mem_of_getElem? (i := 42) rfl) (in_cons (List.mem_of_getElem? (i := 198) rfl) (in_cons (List.mem_of_getElem? (i := 199) rfl) (in_cons (List.mem_of_getElem? (i := 142) rfl) (in_cons (List.mem_of_getElem? (i := 143) rfl) (in_nil))))))))))))))))))))))))
set_option maxRecDepth 20000 in
theorem wsL_law_r2 : ∀ w ∈ wsL_law0_r2, w ∈ lw_tbl := in_ix _ [43, 201, 202, 65, 66, 67, 100, 101, 68, 69, 41, 102, 104, 71, 72, 73, 74, 76, 77, 125, 126, 127, 128, 131] rfl
set_option maxRecDepth 20000 in
theorem wsL_law_r3 : ∀ w ∈ wsL_law0_r3, w ∈ lw_tbl := in_ix _ [145, 146, 147, 177, 178, 148, 149, 44, 179, 184, 151, 152, 153, 728, 729, 730, 731, 733, 734, 735, 737, 739, 743, 747] rfl
set_option maxRecDepth 20000 in
theorem wsL_law_r4 : ∀ w ∈ wsL_law0_r4, w ∈ lw_tbl := in_ix _ [732, 315, 316, 38, 317, 318, 319, 320, 321, 322, 323, 49, 105, 391, 392, 393, 394, 132, 133, 396, 397, 50, 398, 395] rfl
set_option maxRecDepth 20000 in
theorem wsL_law_r5 : ∀ w ∈ wsL_law0_r5, w ∈ lw_tbl := in_ix _ [288, 289, 290, 106, 109, 291, 292, 293, 294, 78, 79, 81, 83, 399, 400, 401, 402, 403, 404, 405, 406, 407, 408, 409] rfl
set_option maxRecDepth 20000 in
theorem wsL_law_r6 : ∀ w ∈ wsL_law0_r6, w ∈ lw_tbl := in_ix _ [410, 788, 789, 790, 791, 792, 793, 794, 795, 797, 12, 798, 799, 801, 13, 802, 736, 803, 805, 14, 806, 807, 809, 15] rfl
set_option maxRecDepth 20000 in
theorem wsL_law_r7 : ∀ w ∈ wsL_law0_r7, w ∈ lw_tbl := in_ix _ [810, 784, 785, 786, 787, 411, 412, 413, 414, 415, 416, 417, 418, 419, 420, 421, 425, 51, 422, 423, 424, 441, 442, 443] rfl
set_option maxRecDepth 20000 in
theorem wsL_law_r8 : ∀ w ∈ wsL_law0_r8, w ∈ lw_tbl := in_ix _ [444, 446, 447, 448, 449, 451, 452, 453, 454, 811, 812, 813, 814, 815, 816, 817, 818, 820, 16, 821, 455, 456, 457, 458] rfl
set_option maxRecDepth 20000 in
theorem wsL_law_r9 : ∀ w ∈ wsL_law0_r9, w ∈ lw_tbl := in_ix _ [459, 460, 461, 462, 103, 75, 464, 466, 7, 467, 468, 52, 484, 485, 486, 487, 488, 489, 490, 491, 492, 494, 495, 497] rfl
set_option maxRecDepth 20000 in
theorem wsL_law_r10 : ∀ w ∈ wsL_law0_r10, w ∈ lw_tbl := in_ix _ [498, 822, 823, 824, 825, 826, 827, 828, 829, 831, 17, 832, 833, 835, 18, 836, 837, 839, 19, 840, 499, 500, 501, 502] rfl
set_option maxRecDepth 20000 in
theorem wsL_law_r11 : ∀ w ∈ wsL_law0_r11, w ∈ lw_tbl := in_ix _ [503, 504, 505, 507, 508, 509, 510, 511, 512, 513, 514, 515, 517, 8, 518, 520, 521, 841, 842, 843, 844, 845, 847, 20] rfl
set_option maxRecDepth 20000 in
theorem wsL_law_r12 : ∀ w ∈ wsL_law0_r12, w ∈ lw_tbl := in_ix _ [848, 522, 523, 524, 525, 526, 527, 528, 529, 531, 9, 532, 849, 850, 851, 852, 534, 535, 536, 537, 538, 539, 540, 542] rfl
set_option maxRecDepth 20000 in
theorem wsL_law_r13 : ∀ w ∈ wsL_law0_r13, w ∈ lw_tbl := in_ix _ [543, 544, 545, 853, 854, 855, 856, 857, 859, 21, 860, 861, 863, 22, 864, 546, 547, 548, 549, 550, 551, 552, 181, 553] rfl
set_option maxRecDepth 20000 in
theorem wsL_law_r14 : ∀ w ∈ wsL_law0_r14, w ∈ lw_tbl := in_ix _ [554, 555, 556, 180, 558, 559, 560, 561, 562, 865, 866, 867, 868, 740, 216, 217, 218, 219, 869, 870, 871, 872, 220, 221] rfl
set_option maxRecDepth 20000 in
theorem wsL_law_r15 : ∀ w ∈ wsL_law0_r15, w ∈ lw_tbl := in_ix _ [222, 223, 224, 225, 226, 227, 228, 229, 230, 231, 154, 155, 157, 158, 159, 160, 161, 232, 233, 234, 235, 236, 237, 238] rfl
set_option maxRecDepth 20000 in
theorem wsL_law_r16 : ∀ w ∈ wsL_law0_r16, w ∈ lw_tbl := in_ix _ [239, 240, 241, 242, 243, 244, 245, 247, 0, 248, 249, 250, 251, 252, 253, 254, 255, 256, 257, 258, 259, 260, 261, 263] rfl
set_option maxRecDepth 20000 in
theorem wsL_law_r17 : ∀ w ∈ wsL_law0_r17, w ∈ lw_tbl := in_ix _ [1, 264, 265, 267, 2, 268, 269, 270, 272, 3, 273, 274, 276, 4, 277, 278, 280, 5, 281, 282, 873, 874, 875, 876] rfl
set_option maxRecDepth 20000 in
theorem wsL_law_r18 : ∀ w ∈ wsL_law0_r18, w ∈ lw_tbl := in_ix _ [877, 879, 23, 880, 741, 744, 742, 881, 883, 24, 884, 885, 887, 25, 888, 889, 891, 26, 892, 893, 895, 27, 896, 897] rfl
set_option maxRecDepth 20000 in
theorem wsL_law_r19 : ∀ w ∈ wsL_law0_r19, w ∈ lw_tbl := in_ix _ [563, 564, 565, 566, 567, 568, 569, 185, 570, 572, 10, 573, 287, 575, 576, 577, 578, 579, 581, 11, 582, 107, 156, 182] rfl
set_option maxRecDepth 20000 in
theorem wsL_law_r20 : ∀ w ∈ wsL_law0_r20, w ∈ lw_tbl := in_ix _ [583, 584, 585, 586, 587, 588, 898, 899, 900, 901, 745, 902, 904, 28, 905, 906, 908, 29, 909, 746, 910, 912, 30, 913] rfl
set_option maxRecDepth 20000 in
theorem wsL_law_r21 : ∀ w ∈ wsL_law0_r21, w ∈ lw_tbl := in_ix _ [914, 916, 31, 917, 589, 590, 591, 592, 593, 594, 595, 183, 918, 919, 920, 921, 596, 597, 598, 599, 600, 601, 602, 134] rfl
set_option maxRecDepth 20000 in
theorem wsL_law_r22 : ∀ w ∈ wsL_law0_r22, w ∈ lw_tbl := in_ix _ [604, 605, 606, 607, 922, 923, 924, 925, 283, 284, 285, 286, 200, 926, 927, 928, 929, 738, 608, 609, 610, 611, 612, 613] rfl
set_option maxRecDepth 20000 in
theorem wsL_law_r23 : ∀ w ∈ wsL_law0_r23, w ∈ lw_tbl := in_ix _ [614, 930, 931, 932, 933, 295, 296, 297, 298, 934, 935, 936, 937, 616, 617, 618, 619, 620, 621, 622, 938, 939, 940, 941] rfl
set_option maxRecDepth 20000 in
theorem wsL_law_r24 : ∀ w ∈ wsL_law0_r24, w ∈ lw_tbl := in_ix _ [623, 624, 625, 626, 627, 628, 629, 630, 631, 53, 632, 633, 634, 635, 942, 943, 944, 945, 946, 948, 32, 949, 636, 637] rfl
set_option maxRecDepth 20000 in
theorem wsL_law_r25 : ∀ w ∈ wsL_law0_r25, w ∈ lw_tbl := in_ix _ [638, 639, 640, 641, 642, 643, 644, 645, 646, 648, 649, 650, 652, 653, 654, 655, 950, 951, 952, 953, 954, 955, 956, 957] rfl
set_option maxRecDepth 20000 in
theorem wsL_law_r26 : ∀ w ∈ wsL_law0_r26, w ∈ lw_tbl := in_ix _ [959, 33, 960, 748, 961, 963, 34, 964, 965, 966, 967, 656, 657, 658, 659, 660, 661, 662, 968, 969, 970, 971, 972, 974] rfl
set_option maxRecDepth 20000 in
theorem wsL_law_r27 : ∀ w ∈ wsL_law0_r27, w ∈ lw_tbl := in_ix _ [35, 975, 663, 664, 665, 666, 667, 668, 669, 670, 976, 977, 978, 979, 671, 672, 673, 674, 675, 676, 677, 980, 981, 982] rfl
set_option maxRecDepth 20000 in
theorem wsL_law_r28 : ∀ w ∈ wsL_law0_r28, w ∈ lw_tbl := in_ix _ [983, 678, 679, 680, 681, 682, 683, 684, 984, 985, 986, 987, 299, 300, 301, 302, 988, 989, 990, 991, 685, 686, 687, 688] rfl
set_option maxRecDepth 20000 in
theorem wsL_law_r29 : ∀ w ∈ wsL_law0_r29, w ∈ lw_tbl := in_ix _ [689, 690, 691, 80, 992, 993, 994, 995, 996, 998, 36, 999, 692, 693, 694, 695, 696, 697, 698, 82, 1000, 1001, 1002, 1003] rfl
set_option maxRecDepth 20000 in
theorem wsL_law_r30 : ∀ w ∈ wsL_law0_r30, w ∈ lw_tbl := in_ix _ [699, 700, 701, 702, 703, 704, 705, 84, 1004, 1005, 1006, 1007, 706, 707, 708, 709, 710, 711, 712, 713, 714, 715, 1008, 1009] rfl
set_option maxRecDepth 20000 in
theorem wsL_law_r31 : ∀ w ∈ wsL_law0_r31, w ∈ lw_tbl := in_ix _ [1010, 1011, 1012, 1014, 37, 1015, 716, 717, 718, 719, 720, 721, 722, 723, 724, 725, 1016, 1017, 1018, 1019, 303, 304, 305, 306] rfl
set_option maxRecDepth 20000 in
theorem wsL_law_r32 : ∀ w ∈ wsL_law0_r32, w ∈ lw_tbl := in_ix _ [108, 1020, 1021, 1022, 1023, 307, 308, 309, 310, 110, 1024, 1025, 1026, 1027, 311, 312, 313, 314, 1028, 1029, 1030, 1031] rfl
set_option maxRecDepth 20000 in
theorem wsL_law_wsX50 : ∀ w ∈ wsX50, w ∈ lw_tbl := in_ix _ [203, 205, 207, 209, 211, 213] rfl
set_option maxRecDepth 20000 in
theorem wsL_law_wsX60 : ∀ w ∈ wsX60, w ∈ lw_tbl := in_ix _ [749, 751, 753, 755, 757, 759, 761, 763, 765, 767, 769, 771, 773, 775, 777, 779, 781] rfl
set_option maxRecDepth 20000 in
theorem wsL_law_wsX30 : ∀ w ∈ wsX30, w ∈ lw_tbl := in_ix _ [111, 113, 115, 117, 119] rfl
set_option maxRecDepth 20000 in
theorem wsL_law_wsX00 : ∀ w ∈ wsX00, w ∈ lw_tbl := in_ix _ [135, 137, 139] rfl
set_option maxRecDepth 20000 in
theorem wsL_law_wsX20 : ∀ w ∈ wsX20, w ∈ lw_tbl := in_ix _ [186, 188, 190, 192, 194] rfl
set_option maxRecDepth 20000 in
theorem wsL_law_wsX10 : ∀ w ∈ wsX10, w ∈ lw_tbl := in_ix _ [85, 87, 89, 91, 93, 95, 97] rfl
set_option maxRecDepth 20000 in
theorem wsL_law_wsX40 : ∀ w ∈ wsX40, w ∈ lw_tbl := in_ix _ [162, 164, 166, 168, 170, 172, 174] rfl
set_option maxRecDepth 20000 in
theorem wsL_law_in0 : ∀ w ∈ wsL_law0, w ∈ lw_tbl := in_app (in_app (in_app (in_app (in_app (in_app (in_app (in_app (in_app wsL_law_r1 (in_app wsL_law_r2 (in_app wsL_law_r3 (in_app wsL_law_r4 (in_app wsL_law_r5 (in_app wsL_law_r6 (in_app wsL_law_r7 (in_app wsL_law_r8 (in_app wsL_law_r9 (in_app wsL_law_r10 (in_app wsL_law_r11 (in_app wsL_law_r12 (in_app wsL_law_r13 (in_app wsL_law_r14 (in_app wsL_law_r15 (in_app wsL_law_r16 (in_app wsL_law_r17 (in_app wsL_law_r18 (in_app wsL_law_r19 (in_app wsL_law_r20 (in_app wsL_law_r21 (in_app wsL_law_r22 (in_app wsL_law_r23 (in_app wsL_law_r24 (in_app wsL_law_r25 (in_app wsL_law_r26 (in_app wsL_law_r27 (in_app wsL_law_r28 (in_app wsL_law_r29 (in_app wsL_law_r30 (in_app wsL_law_r31 wsL_law_r32))))))))))))))))))))))))))))))) wsL_law_wsX50) wsL_law_wsX60) wsL_law_wsX30) wsL_law_wsX00) wsL_law_wsX20) wsL_law_wsX10) wsL_law_wsX40) in_nil
set_option maxRecDepth 20000 in
theorem wsL_law_x0 : ∀ w ∈ (vx_atS RX5 40 "java/lang/IllegalArgumentException" ["java/lang/RuntimeException", "java/lang/Exception"]).filter goodWord, w ∈ lw_tbl := in_ix _ [46, 345, 354, 358, 361, 363, 346, 347, 60, 61, 348, 353, 359, 379, 335, 380, 337, 381, 339, 349, 351, 341, 375, 376, 378, 341, 366, 367, 368, 369, 369, 370, 371, 372, 372, 373, 374, 375, 365, 324, 332, 333, 334, 336, 338, 340, 344, 343, 342] rfl
set_option maxRecDepth 20000 in
theorem wsL_law_x1 : ∀ w ∈ (vx_atS RX5 170 "java/lang/IndexOutOfBoundsException" ["java/lang/RuntimeException", "java/lang/Exception"]).filter goodWord, w ∈ lw_tbl := in_ix _ [46, 345, 354, 358, 361, 363, 346, 347, 60, 61, 348, 353, 359, 379, 335, 380, 337, 381, 339, 349, 351, 341, 375, 376, 378, 341, 436, 437, 438, 369, 369, 370, 371, 372, 372, 373, 374, 375, 435, 426, 428, 357, 429, 430, 431, 432, 344, 343, 433] rfl
set_option maxRecDepth 20000 in
theorem wsL_law_x2 : ∀ w ∈ (vx_atS RX5 97 "java/lang/IllegalStateException" ["java/lang/RuntimeException", "java/lang/Exception"]).filter goodWord, w ∈ lw_tbl := in_ix _ [46, 345, 354, 358, 361, 363, 346, 347, 60, 61, 348, 353, 359, 379, 335, 380, 337, 381, 339, 349, 351, 341, 375, 376, 378, 341, 479, 480, 481, 369, 369, 370, 371, 372, 372, 373, 374, 375, 478, 469, 471, 356, 472, 473, 474, 475, 344, 343, 476] rfl
