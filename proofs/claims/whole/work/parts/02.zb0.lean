theorem in_ix {big : List Cond} (ws : List Cond) (ps : List Nat) (hp : ws = ps.filterMap (fun i => big[i]?)) : ∀ w ∈ ws, w ∈ big := by
  intro w hw
  rw [hp] at hw
  obtain ⟨i, -, hi⟩ := List.mem_filterMap.mp hw
  exact List.mem_of_getElem? hi
theorem in_cons {big ws : List Cond} {a : Cond} (h : a ∈ big) (hs : ∀ w ∈ ws, w ∈ big) : ∀ w ∈ a :: ws, w ∈ big := fun w hw => (List.mem_cons.mp hw).elim (fun e => e ▸ h) (hs w)
theorem in_nil {big : List Cond} : ∀ w ∈ ([] : List Cond), w ∈ big := fun w hw => absurd hw List.not_mem_nil
theorem in_app {big a b : List Cond} (ha : ∀ w ∈ a, w ∈ big) (hb : ∀ w ∈ b, w ∈ big) : ∀ w ∈ a ++ b, w ∈ big := fun w hw => (List.mem_append.mp hw).elim (ha w) (hb w)
set_option maxRecDepth 20000 in
theorem wsL_law_r1 : ∀ w ∈ wsL_law0_r1, w ∈ lw_tbl := (in_cons (List.mem_of_getElem? (i := 55) rfl) (in_cons (List.mem_of_getElem? (i := 56) rfl) (in_cons (List.mem_of_getElem? (i := 40) rfl) (in_cons (List.mem_of_getElem? (i := 734) rfl) (in_cons (List.mem_of_getElem? (i := 735) rfl) (in_cons (List.mem_of_getElem? (i := 46) rfl) (in_cons (List.mem_of_getElem? (i := 1040) rfl) (in_cons (List.mem_of_getElem? (i := 57) rfl) (in_cons (List.mem_of_getElem? (i := 58) rfl) (in_cons (List.mem_of_getElem? (i := 59) rfl) (in_cons (List.mem_of_getElem? (i := 60) rfl) (in_cons (List.mem_of_getElem? (i := 61) rfl) (in_cons (List.mem_of_getElem? (i := 62) rfl) (in_cons (List.mem_of_getElem? (i := 63) rfl) (in_cons (List.mem_of_getElem? (i := 64) rfl) (in_cons (List.mem_of_getElem? (i := 41) rfl) (in_cons (List.mem_of_getElem? (i := 198) rfl) (in_cons (List.mem_of_getElem? (i := 123) rfl) (in_cons (List.mem_of_getElem? (i := 124) rfl) (in_cons (List.mem_of_getElem? (i := 43) rfl) (in_cons (List.mem_of_getElem? (i := 199) rfl) (in_cons (List.mem_of_getElem? (i := 200) rfl) (in_cons (List.mem_of_getElem? (i := 143) rfl) (in_cons (List.mem_of_getElem? (i := 144) rfl) in_nil))))))))))))))))))))))))
set_option maxRecDepth 20000 in
theorem wsL_law_r2 : ∀ w ∈ wsL_law0_r2, w ∈ lw_tbl := in_ix _ [44, 202, 203, 66, 67, 68, 101, 102, 69, 70, 42, 103, 105, 72, 73, 74, 75, 77, 78, 126, 127, 128, 129, 132] rfl
set_option maxRecDepth 20000 in
theorem wsL_law_r3 : ∀ w ∈ wsL_law0_r3, w ∈ lw_tbl := in_ix _ [146, 147, 148, 178, 179, 149, 150, 45, 180, 185, 152, 153, 154, 736, 737, 738, 739, 741, 742, 743, 745, 747, 751, 755] rfl
set_option maxRecDepth 20000 in
theorem wsL_law_r4 : ∀ w ∈ wsL_law0_r4, w ∈ lw_tbl := in_ix _ [740, 316, 317, 39, 318, 319, 320, 321, 322, 323, 324, 50, 106, 392, 393, 394, 395, 133, 134, 404, 405, 51, 406, 396] rfl
set_option maxRecDepth 20000 in
theorem wsL_law_r5 : ∀ w ∈ wsL_law0_r5, w ∈ lw_tbl := in_ix _ [398, 7, 399, 400, 401, 51, 402, 403, 289, 290, 291, 107, 110, 292, 293, 294, 295, 79, 80, 82, 84, 407, 408, 409] rfl
set_option maxRecDepth 20000 in
theorem wsL_law_r6 : ∀ w ∈ wsL_law0_r6, w ∈ lw_tbl := in_ix _ [410, 411, 412, 413, 414, 415, 416, 417, 418, 796, 797, 798, 799, 800, 801, 802, 803, 805, 13, 806, 807, 809, 14, 810] rfl
set_option maxRecDepth 20000 in
theorem wsL_law_r7 : ∀ w ∈ wsL_law0_r7, w ∈ lw_tbl := in_ix _ [744, 811, 813, 15, 814, 815, 817, 16, 818, 792, 793, 794, 795, 419, 420, 421, 422, 423, 424, 425, 426, 427, 428, 429] rfl
set_option maxRecDepth 20000 in
theorem wsL_law_r8 : ∀ w ∈ wsL_law0_r8, w ∈ lw_tbl := in_ix _ [433, 52, 430, 431, 432, 449, 450, 451, 452, 454, 455, 456, 457, 459, 460, 461, 462, 819, 820, 821, 822, 823, 824, 825] rfl
set_option maxRecDepth 20000 in
theorem wsL_law_r9 : ∀ w ∈ wsL_law0_r9, w ∈ lw_tbl := in_ix _ [826, 828, 17, 829, 463, 464, 465, 466, 467, 468, 469, 470, 104, 76, 472, 474, 8, 475, 476, 53, 492, 493, 494, 495] rfl
set_option maxRecDepth 20000 in
theorem wsL_law_r10 : ∀ w ∈ wsL_law0_r10, w ∈ lw_tbl := in_ix _ [496, 497, 498, 499, 500, 502, 503, 505, 506, 830, 831, 832, 833, 834, 835, 836, 837, 839, 18, 840, 841, 843, 19, 844] rfl
set_option maxRecDepth 20000 in
theorem wsL_law_r11 : ∀ w ∈ wsL_law0_r11, w ∈ lw_tbl := in_ix _ [845, 847, 20, 848, 507, 508, 509, 510, 511, 512, 513, 515, 516, 517, 518, 519, 520, 521, 522, 523, 525, 9, 526, 528] rfl
set_option maxRecDepth 20000 in
theorem wsL_law_r12 : ∀ w ∈ wsL_law0_r12, w ∈ lw_tbl := in_ix _ [529, 849, 850, 851, 852, 853, 855, 21, 856, 530, 531, 532, 533, 534, 535, 536, 537, 539, 10, 540, 857, 858, 859, 860] rfl
set_option maxRecDepth 20000 in
theorem wsL_law_r13 : ∀ w ∈ wsL_law0_r13, w ∈ lw_tbl := in_ix _ [542, 543, 544, 545, 546, 547, 548, 550, 551, 552, 553, 861, 862, 863, 864, 865, 867, 22, 868, 869, 871, 23, 872, 554] rfl
set_option maxRecDepth 20000 in
theorem wsL_law_r14 : ∀ w ∈ wsL_law0_r14, w ∈ lw_tbl := in_ix _ [555, 556, 557, 558, 559, 560, 182, 561, 562, 563, 564, 181, 566, 567, 568, 569, 570, 873, 874, 875, 876, 748, 217, 218] rfl
set_option maxRecDepth 20000 in
theorem wsL_law_r15 : ∀ w ∈ wsL_law0_r15, w ∈ lw_tbl := in_ix _ [219, 220, 877, 878, 879, 880, 221, 222, 223, 224, 225, 226, 227, 228, 229, 230, 231, 232, 155, 156, 158, 159, 160, 161] rfl
set_option maxRecDepth 20000 in
theorem wsL_law_r16 : ∀ w ∈ wsL_law0_r16, w ∈ lw_tbl := in_ix _ [162, 233, 234, 235, 236, 237, 238, 239, 240, 241, 242, 243, 244, 245, 246, 248, 0, 249, 250, 251, 252, 253, 254, 255] rfl
set_option maxRecDepth 20000 in
theorem wsL_law_r17 : ∀ w ∈ wsL_law0_r17, w ∈ lw_tbl := in_ix _ [256, 257, 258, 259, 260, 261, 262, 264, 1, 265, 266, 268, 2, 269, 270, 271, 273, 3, 274, 275, 277, 4, 278, 279] rfl
set_option maxRecDepth 20000 in
theorem wsL_law_r18 : ∀ w ∈ wsL_law0_r18, w ∈ lw_tbl := in_ix _ [281, 5, 282, 283, 881, 882, 883, 884, 885, 887, 24, 888, 749, 752, 750, 889, 891, 25, 892, 893, 895, 26, 896, 897] rfl
set_option maxRecDepth 20000 in
theorem wsL_law_r19 : ∀ w ∈ wsL_law0_r19, w ∈ lw_tbl := in_ix _ [899, 27, 900, 901, 903, 28, 904, 905, 571, 572, 573, 574, 575, 576, 577, 186, 578, 580, 11, 581, 288, 583, 584, 585] rfl
set_option maxRecDepth 20000 in
theorem wsL_law_r20 : ∀ w ∈ wsL_law0_r20, w ∈ lw_tbl := in_ix _ [586, 587, 589, 12, 590, 108, 157, 183, 591, 592, 593, 594, 595, 596, 906, 907, 908, 909, 753, 910, 912, 29, 913, 914] rfl
set_option maxRecDepth 20000 in
theorem wsL_law_r21 : ∀ w ∈ wsL_law0_r21, w ∈ lw_tbl := in_ix _ [916, 30, 917, 754, 918, 920, 31, 921, 922, 924, 32, 925, 597, 598, 599, 600, 601, 602, 603, 184, 926, 927, 928, 929] rfl
set_option maxRecDepth 20000 in
theorem wsL_law_r22 : ∀ w ∈ wsL_law0_r22, w ∈ lw_tbl := in_ix _ [604, 605, 606, 607, 608, 609, 610, 135, 612, 613, 614, 615, 930, 931, 932, 933, 284, 285, 286, 287, 201, 934, 935, 936] rfl
set_option maxRecDepth 20000 in
theorem wsL_law_r23 : ∀ w ∈ wsL_law0_r23, w ∈ lw_tbl := in_ix _ [937, 746, 616, 617, 618, 619, 620, 621, 622, 938, 939, 940, 941, 296, 297, 298, 299, 942, 943, 944, 945, 624, 625, 626] rfl
set_option maxRecDepth 20000 in
theorem wsL_law_r24 : ∀ w ∈ wsL_law0_r24, w ∈ lw_tbl := in_ix _ [627, 628, 629, 630, 946, 947, 948, 949, 631, 632, 633, 634, 635, 636, 637, 638, 639, 54, 640, 641, 642, 643, 950, 951] rfl
set_option maxRecDepth 20000 in
theorem wsL_law_r25 : ∀ w ∈ wsL_law0_r25, w ∈ lw_tbl := in_ix _ [952, 953, 954, 956, 33, 957, 644, 645, 646, 647, 648, 649, 650, 651, 652, 653, 654, 656, 657, 658, 660, 661, 662, 663] rfl
set_option maxRecDepth 20000 in
theorem wsL_law_r26 : ∀ w ∈ wsL_law0_r26, w ∈ lw_tbl := in_ix _ [958, 959, 960, 961, 962, 963, 964, 965, 967, 34, 968, 756, 969, 971, 35, 972, 973, 974, 975, 664, 665, 666, 667, 668] rfl
set_option maxRecDepth 20000 in
theorem wsL_law_r27 : ∀ w ∈ wsL_law0_r27, w ∈ lw_tbl := in_ix _ [669, 670, 976, 977, 978, 979, 980, 982, 36, 983, 671, 672, 673, 674, 675, 676, 677, 678, 984, 985, 986, 987, 679, 680] rfl
set_option maxRecDepth 20000 in
theorem wsL_law_r28 : ∀ w ∈ wsL_law0_r28, w ∈ lw_tbl := in_ix _ [681, 682, 683, 684, 685, 988, 989, 990, 991, 686, 687, 688, 689, 690, 691, 692, 992, 993, 994, 995, 300, 301, 302, 303] rfl
set_option maxRecDepth 20000 in
theorem wsL_law_r29 : ∀ w ∈ wsL_law0_r29, w ∈ lw_tbl := in_ix _ [996, 997, 998, 999, 693, 694, 695, 696, 697, 698, 699, 81, 1000, 1001, 1002, 1003, 1004, 1006, 37, 1007, 700, 701, 702, 703] rfl
set_option maxRecDepth 20000 in
theorem wsL_law_r30 : ∀ w ∈ wsL_law0_r30, w ∈ lw_tbl := in_ix _ [704, 705, 706, 83, 1008, 1009, 1010, 1011, 707, 708, 709, 710, 711, 712, 713, 85, 1012, 1013, 1014, 1015, 714, 715, 716, 717] rfl
set_option maxRecDepth 20000 in
theorem wsL_law_r31 : ∀ w ∈ wsL_law0_r31, w ∈ lw_tbl := in_ix _ [718, 719, 720, 721, 722, 723, 1016, 1017, 1018, 1019, 1020, 1022, 38, 1023, 724, 725, 726, 727, 728, 729, 730, 731, 732, 733] rfl
set_option maxRecDepth 20000 in
theorem wsL_law_r32 : ∀ w ∈ wsL_law0_r32, w ∈ lw_tbl := in_ix _ [1024, 1025, 1026, 1027, 304, 305, 306, 307, 109, 1028, 1029, 1030, 1031, 308, 309, 310, 311, 111, 1032, 1033, 1034, 1035, 312, 313] rfl
set_option maxRecDepth 20000 in
theorem wsL_law_r33 : ∀ w ∈ wsL_law0_r33, w ∈ lw_tbl := in_ix _ [314, 315, 1036, 1037, 1038, 1039] rfl
set_option maxRecDepth 20000 in
theorem wsL_law_wsX50 : ∀ w ∈ wsX50, w ∈ lw_tbl := in_ix _ [204, 206, 208, 210, 212, 214] rfl
set_option maxRecDepth 20000 in
theorem wsL_law_wsX60 : ∀ w ∈ wsX60, w ∈ lw_tbl := in_ix _ [757, 759, 761, 763, 765, 767, 769, 771, 773, 775, 777, 779, 781, 783, 785, 787, 789] rfl
set_option maxRecDepth 20000 in
theorem wsL_law_wsX30 : ∀ w ∈ wsX30, w ∈ lw_tbl := in_ix _ [112, 114, 116, 118, 120] rfl
set_option maxRecDepth 20000 in
theorem wsL_law_wsX00 : ∀ w ∈ wsX00, w ∈ lw_tbl := in_ix _ [136, 138, 140] rfl
set_option maxRecDepth 20000 in
theorem wsL_law_wsX20 : ∀ w ∈ wsX20, w ∈ lw_tbl := in_ix _ [187, 189, 191, 193, 195] rfl
set_option maxRecDepth 20000 in
theorem wsL_law_wsX10 : ∀ w ∈ wsX10, w ∈ lw_tbl := in_ix _ [86, 88, 90, 92, 94, 96, 98] rfl
set_option maxRecDepth 20000 in
theorem wsL_law_wsX40 : ∀ w ∈ wsX40, w ∈ lw_tbl := in_ix _ [163, 165, 167, 169, 171, 173, 175] rfl
set_option maxRecDepth 20000 in
theorem wsL_law_in0 : ∀ w ∈ wsL_law0, w ∈ lw_tbl := (in_app (in_app (in_app (in_app (in_app (in_app (in_app (in_app (in_app wsL_law_r1 (in_app wsL_law_r2 (in_app wsL_law_r3 (in_app wsL_law_r4 (in_app wsL_law_r5 (in_app wsL_law_r6 (in_app wsL_law_r7 (in_app wsL_law_r8 (in_app wsL_law_r9 (in_app wsL_law_r10 (in_app wsL_law_r11 (in_app wsL_law_r12 (in_app wsL_law_r13 (in_app wsL_law_r14 (in_app wsL_law_r15 (in_app wsL_law_r16 (in_app wsL_law_r17 (in_app wsL_law_r18 (in_app wsL_law_r19 (in_app wsL_law_r20 (in_app wsL_law_r21 (in_app wsL_law_r22 (in_app wsL_law_r23 (in_app wsL_law_r24 (in_app wsL_law_r25 (in_app wsL_law_r26 (in_app wsL_law_r27 (in_app wsL_law_r28 (in_app wsL_law_r29 (in_app wsL_law_r30 (in_app wsL_law_r31 (in_app wsL_law_r32 wsL_law_r33)))))))))))))))))))))))))))))))) wsL_law_wsX50) wsL_law_wsX60) wsL_law_wsX30) wsL_law_wsX00) wsL_law_wsX20) wsL_law_wsX10) wsL_law_wsX40) in_nil)
set_option maxRecDepth 20000 in
theorem wsL_law_x0 : ∀ w ∈ (vx_atS RX5 40 "java/lang/IllegalArgumentException" ["java/lang/RuntimeException", "java/lang/Exception"]).filter goodWord, w ∈ lw_tbl := in_ix _ [47, 346, 355, 359, 362, 364, 347, 348, 61, 62, 349, 354, 360, 380, 336, 381, 338, 382, 340, 350, 352, 342, 376, 377, 379, 342, 367, 368, 369, 370, 370, 371, 372, 373, 373, 374, 375, 376, 366, 325, 333, 334, 335, 337, 339, 341, 345, 344, 343] rfl
set_option maxRecDepth 20000 in
theorem wsL_law_x1 : ∀ w ∈ (vx_atS RX5 170 "java/lang/IndexOutOfBoundsException" ["java/lang/RuntimeException", "java/lang/Exception"]).filter goodWord, w ∈ lw_tbl := in_ix _ [47, 346, 355, 359, 362, 364, 347, 348, 61, 62, 349, 354, 360, 380, 336, 381, 338, 382, 340, 350, 352, 342, 376, 377, 379, 342, 444, 445, 446, 370, 370, 371, 372, 373, 373, 374, 375, 376, 443, 434, 436, 358, 437, 438, 439, 440, 345, 344, 441] rfl
set_option maxRecDepth 20000 in
theorem wsL_law_x2 : ∀ w ∈ (vx_atS RX5 97 "java/lang/IllegalStateException" ["java/lang/RuntimeException", "java/lang/Exception"]).filter goodWord, w ∈ lw_tbl := in_ix _ [47, 346, 355, 359, 362, 364, 347, 348, 61, 62, 349, 354, 360, 380, 336, 381, 338, 382, 340, 350, 352, 342, 376, 377, 379, 342, 487, 488, 489, 370, 370, 371, 372, 373, 373, 374, 375, 376, 486, 477, 479, 357, 480, 481, 482, 483, 345, 344, 484] rfl
