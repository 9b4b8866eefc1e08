theorem memIn_r {big : List Cond} (ws : List Cond) (ps : List Nat) (hp : ws = ps.filterMap (fun i => big[i]?)) : ∀ w ∈ ws, w ∈ big := by
  intro w hw
  rw [hp] at hw
  obtain ⟨i, -, hi⟩ := List.mem_filterMap.mp hw
  first | exact List.mem_of_getElem? hi | exact List.getElem?_mem hi
set_option maxRecDepth 20000 in
theorem m_wsL_law_r1 : ∀ w ∈ wsL_law_r1, w ∈ lw_tbl := memIn_r _ [62, 63, 49, 700, 701, 58, 64, 65, 66, 67, 68, 69, 70, 250, 72, 50, 94, 95, 51, 251, 136, 101, 52, 252] (by decide +kernel)
set_option maxRecDepth 20000 in
theorem m_wsL_law_r2 : ∀ w ∈ wsL_law_r2, w ∈ lw_tbl := memIn_r _ [138, 139, 53, 253, 155, 156, 54, 254, 170, 171, 55, 255, 185, 186, 56, 256, 232, 233, 57, 257, 258, 259, 260, 74] (by decide +kernel)
set_option maxRecDepth 20000 in
theorem m_wsL_law_r3 : ∀ w ∈ wsL_law_r3, w ∈ lw_tbl := memIn_r _ [75, 76, 93, 77, 97, 98, 99, 100, 128, 103, 104, 105, 106, 109, 112, 141, 142, 143, 144, 158, 159, 160, 161, 173] (by decide +kernel)
set_option maxRecDepth 20000 in
theorem m_wsL_law_r4 : ∀ w ∈ wsL_law_r4, w ∈ lw_tbl := memIn_r _ [174, 175, 176, 188, 189, 190, 193, 195, 197, 199, 201, 209, 191, 210, 235, 236, 237, 241, 238, 242, 702, 703, 704, 705] (by decide +kernel)
set_option maxRecDepth 20000 in
theorem m_wsL_law_r5 : ∀ w ∈ wsL_law_r5, w ∈ lw_tbl := memIn_r _ [708, 709, 710, 712, 713, 714, 715, 716, 718, 723, 724, 725, 727, 728, 730, 731, 734, 736, 296, 297, 298, 299, 264, 117] (by decide +kernel)
set_option maxRecDepth 20000 in
theorem m_wsL_law_r6 : ∀ w ∈ wsL_law_r6, w ∈ lw_tbl := memIn_r _ [300, 301, 302, 303, 304, 305, 306, 307, 308, 309, 310, 311, 80, 82, 312, 313, 314, 315, 79, 83, 317, 319, 0, 320] (by decide +kernel)
set_option maxRecDepth 20000 in
theorem m_wsL_law_r7 : ∀ w ∈ wsL_law_r7, w ∈ lw_tbl := memIn_r _ [321, 322, 323, 324, 116, 130, 325, 326, 327, 328, 329, 330, 331, 332, 333, 335, 1, 336, 337, 339, 2, 340, 341, 343] (by decide +kernel)
set_option maxRecDepth 20000 in
theorem m_wsL_law_r8 : ∀ w ∈ wsL_law_r8, w ∈ lw_tbl := memIn_r _ [3, 344, 114, 345, 347, 4, 348, 108, 349, 350, 351, 352, 115, 355, 357, 5, 358, 111, 359, 361, 6, 362, 363, 364] (by decide +kernel)
set_option maxRecDepth 20000 in
theorem m_wsL_law_r9 : ∀ w ∈ wsL_law_r9, w ∈ lw_tbl := memIn_r _ [59, 365, 366, 367, 368, 369, 371, 7, 372, 129, 148, 179, 240, 373, 374, 375, 376, 377, 378, 379, 380, 381, 382, 60] (by decide +kernel)
set_option maxRecDepth 20000 in
theorem m_wsL_law_r10 : ∀ w ∈ wsL_law_r10, w ∈ lw_tbl := memIn_r _ [383, 163, 384, 386, 8, 387, 388, 389, 390, 391, 392, 393, 394, 395, 396, 398, 9, 399, 203, 149, 146, 400, 402, 10] (by decide +kernel)
set_option maxRecDepth 20000 in
theorem m_wsL_law_r11 : ∀ w ∈ wsL_law_r11, w ∈ lw_tbl := memIn_r _ [403, 205, 404, 405, 406, 407, 408, 410, 11, 411, 412, 413, 415, 12, 416, 207, 417, 419, 13, 420, 164, 162, 800, 801] (by decide +kernel)
set_option maxRecDepth 20000 in
theorem m_wsL_law_r12 : ∀ w ∈ wsL_law_r12, w ∈ lw_tbl := memIn_r _ [802, 803, 706, 721, 722, 711, 717, 735, 804, 805, 806, 807, 808, 809, 810, 811, 812, 813, 815, 24, 816, 817, 819, 25] (by decide +kernel)
set_option maxRecDepth 20000 in
theorem m_wsL_law_r13 : ∀ w ∈ wsL_law_r13, w ∈ lw_tbl := memIn_r _ [820, 821, 823, 26, 824, 825, 827, 27, 828, 829, 831, 28, 832, 833, 834, 835, 836, 837, 838, 421, 422, 423, 424, 107] (by decide +kernel)
set_option maxRecDepth 20000 in
theorem m_wsL_law_r14 : ∀ w ∈ wsL_law_r14, w ∈ lw_tbl := memIn_r _ [110, 113, 425, 426, 427, 428, 429, 430, 432, 433, 434, 435, 436, 437, 839, 840, 841, 842, 843, 845, 29, 846, 847, 849] (by decide +kernel)
set_option maxRecDepth 20000 in
theorem m_wsL_law_r15 : ∀ w ∈ wsL_law_r15, w ∈ lw_tbl := memIn_r _ [30, 850, 851, 853, 31, 854, 438, 439, 440, 441, 855, 856, 857, 858, 442, 443, 444, 445, 446, 447, 448, 449, 450, 451] (by decide +kernel)
set_option maxRecDepth 20000 in
theorem m_wsL_law_r16 : ∀ w ∈ wsL_law_r16, w ∈ lw_tbl := memIn_r _ [452, 453, 455, 14, 456, 261, 462, 262, 457, 458, 459, 460, 147, 859, 860, 861, 862, 719, 863, 720, 463, 464, 465, 466] (by decide +kernel)
set_option maxRecDepth 20000 in
theorem m_wsL_law_r17 : ∀ w ∈ wsL_law_r17, w ∈ lw_tbl := memIn_r _ [467, 468, 469, 470, 864, 865, 866, 867, 471, 472, 473, 474, 145, 868, 869, 870, 871, 475, 476, 477, 478, 194, 196, 198] (by decide +kernel)
set_option maxRecDepth 20000 in
theorem m_wsL_law_r18 : ∀ w ∈ wsL_law_r18, w ∈ lw_tbl := memIn_r _ [200, 202, 479, 480, 481, 482, 872, 873, 874, 875, 726, 876, 878, 32, 879, 732, 733, 880, 882, 33, 883, 884, 886, 34] (by decide +kernel)
set_option maxRecDepth 20000 in
theorem m_wsL_law_r19 : ∀ w ∈ wsL_law_r19, w ∈ lw_tbl := memIn_r _ [887, 729, 888, 890, 35, 891, 892, 894, 36, 895, 896, 898, 37, 899, 900, 902, 38, 903, 484, 485, 486, 487, 208, 488] (by decide +kernel)
set_option maxRecDepth 20000 in
theorem m_wsL_law_r20 : ∀ w ∈ wsL_law_r20, w ∈ lw_tbl := memIn_r _ [489, 490, 491, 492, 493, 494, 495, 904, 905, 906, 907, 496, 497, 498, 499, 500, 501, 502, 503, 504, 505, 506, 507, 508] (by decide +kernel)
set_option maxRecDepth 20000 in
theorem m_wsL_law_r21 : ∀ w ∈ wsL_law_r21, w ∈ lw_tbl := memIn_r _ [178, 509, 908, 909, 910, 911, 912, 914, 39, 915, 510, 511, 512, 513, 177, 916, 917, 918, 919, 514, 515, 516, 517, 920] (by decide +kernel)
set_option maxRecDepth 20000 in
theorem m_wsL_law_r22 : ∀ w ∈ wsL_law_r22, w ∈ lw_tbl := memIn_r _ [921, 922, 923, 518, 519, 520, 521, 924, 925, 926, 927, 522, 523, 524, 525, 526, 527, 528, 529, 530, 531, 532, 533, 534] (by decide +kernel)
set_option maxRecDepth 20000 in
theorem m_wsL_law_r23 : ∀ w ∈ wsL_law_r23, w ∈ lw_tbl := memIn_r _ [535, 537, 15, 538, 539, 540, 541, 542, 543, 544, 545, 546, 547, 549, 16, 550, 551, 553, 17, 554, 204, 206, 555, 556] (by decide +kernel)
set_option maxRecDepth 20000 in
theorem m_wsL_law_r24 : ∀ w ∈ wsL_law_r24, w ∈ lw_tbl := memIn_r _ [557, 558, 559, 560, 561, 562, 563, 564, 565, 566, 928, 929, 930, 931, 932, 933, 934, 935, 937, 40, 938, 939, 941, 41] (by decide +kernel)
set_option maxRecDepth 20000 in
theorem m_wsL_law_r25 : ∀ w ∈ wsL_law_r25, w ∈ lw_tbl := memIn_r _ [942, 943, 945, 42, 946, 947, 949, 43, 950, 951, 953, 44, 954, 567, 568, 569, 570, 955, 956, 957, 958, 571, 572, 573] (by decide +kernel)
set_option maxRecDepth 20000 in
theorem m_wsL_law_r26 : ∀ w ∈ wsL_law_r26, w ∈ lw_tbl := memIn_r _ [574, 959, 960, 961, 962, 575, 576, 577, 578, 579, 581, 18, 582, 583, 584, 585, 586, 587, 963, 964, 965, 966, 588, 589] (by decide +kernel)
set_option maxRecDepth 20000 in
theorem m_wsL_law_r27 : ∀ w ∈ wsL_law_r27, w ∈ lw_tbl := memIn_r _ [590, 591, 592, 593, 594, 595, 239, 597, 598, 599, 600, 967, 968, 969, 970, 601, 602, 603, 604, 971, 972, 973, 974, 605] (by decide +kernel)
set_option maxRecDepth 20000 in
theorem m_wsL_law_r28 : ∀ w ∈ wsL_law_r28, w ∈ lw_tbl := memIn_r _ [606, 607, 608, 609, 610, 611, 612, 613, 118, 614, 975, 976, 977, 978, 979, 981, 45, 982, 615, 616, 617, 618, 983, 984] (by decide +kernel)
set_option maxRecDepth 20000 in
theorem m_wsL_law_r29 : ∀ w ∈ wsL_law_r29, w ∈ lw_tbl := memIn_r _ [985, 986, 619, 620, 621, 622, 623, 624, 626, 19, 627, 987, 988, 989, 990, 991, 992, 993, 994, 995, 628, 629, 630, 631] (by decide +kernel)
set_option maxRecDepth 20000 in
theorem m_wsL_law_r30 : ∀ w ∈ wsL_law_r30, w ∈ lw_tbl := memIn_r _ [632, 633, 634, 635, 81, 996, 997, 998, 999, 636, 637, 638, 639, 1000, 1001, 1002, 1003, 640, 641, 642, 643, 78, 644, 645] (by decide +kernel)
set_option maxRecDepth 20000 in
theorem m_wsL_law_r31 : ∀ w ∈ wsL_law_r31, w ∈ lw_tbl := memIn_r _ [646, 647, 648, 1004, 1005, 1006, 1007, 649, 650, 651, 652, 1008, 1009, 1010, 1011, 1012, 1014, 46, 1015, 653, 654, 655, 656, 657] (by decide +kernel)
set_option maxRecDepth 20000 in
theorem m_wsL_law_r32 : ∀ w ∈ wsL_law_r32, w ∈ lw_tbl := memIn_r _ [659, 658, 61, 1016, 1017, 1018, 1019, 660, 661, 662, 663, 664, 666, 20, 667, 668, 670, 21, 671, 263, 672, 674, 22, 675] (by decide +kernel)
set_option maxRecDepth 20000 in
theorem m_wsL_law_r33 : ∀ w ∈ wsL_law_r33, w ∈ lw_tbl := memIn_r _ [676, 678, 23, 679, 1020, 1021, 1022, 1023, 1024, 1026, 47, 1027, 707, 680, 681, 682, 683, 1028, 1029, 1030, 1031, 684, 685, 686] (by decide +kernel)
set_option maxRecDepth 20000 in
theorem m_wsL_law_r34 : ∀ w ∈ wsL_law_r34, w ∈ lw_tbl := memIn_r _ [687, 1032, 1033, 1034, 1035, 688, 689, 690, 691, 1036, 1037, 1038, 1039, 692, 693, 694, 695, 1040, 1041, 1042, 1043, 696, 697, 698] (by decide +kernel)
set_option maxRecDepth 20000 in
theorem m_wsL_law_r35 : ∀ w ∈ wsL_law_r35, w ∈ lw_tbl := memIn_r _ [699, 1044, 1045, 1046, 1047] (by decide +kernel)
set_option maxRecDepth 20000 in
theorem inX0 : ∀ w ∈ wsX00, w ∈ lw_tbl := memIn_r _ [119, 121, 123, 125] (by decide +kernel)
set_option maxRecDepth 20000 in
theorem inX1 : ∀ w ∈ wsX10, w ∈ lw_tbl := memIn_r _ [165, 167] (by decide +kernel)
set_option maxRecDepth 20000 in
theorem inX2 : ∀ w ∈ wsX20, w ∈ lw_tbl := memIn_r _ [243, 245, 247] (by decide +kernel)
set_option maxRecDepth 20000 in
theorem inX3 : ∀ w ∈ wsX30, w ∈ lw_tbl := memIn_r _ [180, 182] (by decide +kernel)
set_option maxRecDepth 20000 in
theorem inX4 : ∀ w ∈ wsX40, w ∈ lw_tbl := memIn_r _ [211, 213, 215, 217, 219, 221, 223, 225, 227, 229] (by decide +kernel)
set_option maxRecDepth 20000 in
theorem inX5 : ∀ w ∈ wsX50, w ∈ lw_tbl := memIn_r _ [84, 86, 88, 90] (by decide +kernel)
set_option maxRecDepth 20000 in
theorem inX6 : ∀ w ∈ wsX60, w ∈ lw_tbl := memIn_r _ [131, 133] (by decide +kernel)
set_option maxRecDepth 20000 in
theorem inX7 : ∀ w ∈ wsX70, w ∈ lw_tbl := memIn_r _ [150, 152] (by decide +kernel)
set_option maxRecDepth 20000 in
theorem inX8 : ∀ w ∈ wsX80, w ∈ lw_tbl := memIn_r _ [265, 267, 269, 271, 273, 275, 277, 279, 281, 283, 285, 287, 289, 291, 293] (by decide +kernel)
set_option maxRecDepth 20000 in
theorem inX9 : ∀ w ∈ wsX90, w ∈ lw_tbl := memIn_r _ [737, 739, 741, 743, 745, 747, 749, 751, 753, 755, 757, 759, 761, 763, 765, 767, 769, 771, 773, 775, 777, 779, 781, 783, 785, 787, 789, 791, 793, 795, 797] (by decide +kernel)
theorem wsL_law_in : ∀ w ∈ wsL_law, w ∈ lw_tbl := List.forall_mem_append.mpr ⟨List.forall_mem_append.mpr ⟨List.forall_mem_append.mpr ⟨List.forall_mem_append.mpr ⟨List.forall_mem_append.mpr ⟨List.forall_mem_append.mpr ⟨List.forall_mem_append.mpr ⟨List.forall_mem_append.mpr ⟨List.forall_mem_append.mpr ⟨List.forall_mem_append.mpr ⟨List.forall_mem_append.mpr ⟨List.forall_mem_append.mpr ⟨m_wsL_law_r1, List.forall_mem_append.mpr ⟨m_wsL_law_r2, List.forall_mem_append.mpr ⟨m_wsL_law_r3, List.forall_mem_append.mpr ⟨m_wsL_law_r4, List.forall_mem_append.mpr ⟨m_wsL_law_r5, List.forall_mem_append.mpr ⟨m_wsL_law_r6, List.forall_mem_append.mpr ⟨m_wsL_law_r7, List.forall_mem_append.mpr ⟨m_wsL_law_r8, List.forall_mem_append.mpr ⟨m_wsL_law_r9, List.forall_mem_append.mpr ⟨m_wsL_law_r10, List.forall_mem_append.mpr ⟨m_wsL_law_r11, List.forall_mem_append.mpr ⟨m_wsL_law_r12, List.forall_mem_append.mpr ⟨m_wsL_law_r13, List.forall_mem_append.mpr ⟨m_wsL_law_r14, List.forall_mem_append.mpr ⟨m_wsL_law_r15, List.forall_mem_append.mpr ⟨m_wsL_law_r16, List.forall_mem_append.mpr ⟨m_wsL_law_r17, List.forall_mem_append.mpr ⟨m_wsL_law_r18, List.forall_mem_append.mpr ⟨m_wsL_law_r19, List.forall_mem_append.mpr ⟨m_wsL_law_r20, List.forall_mem_append.mpr ⟨m_wsL_law_r21, List.forall_mem_append.mpr ⟨m_wsL_law_r22, List.forall_mem_append.mpr ⟨m_wsL_law_r23, List.forall_mem_append.mpr ⟨m_wsL_law_r24, List.forall_mem_append.mpr ⟨m_wsL_law_r25, List.forall_mem_append.mpr ⟨m_wsL_law_r26, List.forall_mem_append.mpr ⟨m_wsL_law_r27, List.forall_mem_append.mpr ⟨m_wsL_law_r28, List.forall_mem_append.mpr ⟨m_wsL_law_r29, List.forall_mem_append.mpr ⟨m_wsL_law_r30, List.forall_mem_append.mpr ⟨m_wsL_law_r31, List.forall_mem_append.mpr ⟨m_wsL_law_r32, List.forall_mem_append.mpr ⟨m_wsL_law_r33, List.forall_mem_append.mpr ⟨m_wsL_law_r34, m_wsL_law_r35⟩⟩⟩⟩⟩⟩⟩⟩⟩⟩⟩⟩⟩⟩⟩⟩⟩⟩⟩⟩⟩⟩⟩⟩⟩⟩⟩⟩⟩⟩⟩⟩⟩⟩, inX8⟩, inX9⟩, inX5⟩, inX6⟩, inX0⟩, inX7⟩, inX1⟩, inX3⟩, inX4⟩, inX2⟩, fun _ h9 => absurd h9 List.not_mem_nil⟩
theorem goodL {ws : List Cond} (h : GoodIn wsL_law ws) : GoodIn lw_tbl ws := fun w hw => ⟨wsL_law_in w (h w hw).1, (h w hw).2⟩
theorem kNt_in : ∀ w ∈ kNt.map (fun q => Cond.methodLinkNest q.1 q.2.1 q.2.2 "FontRuns"), w ∈ lw_tbl := memIn_r _ [73, 96, 137, 140, 157, 172, 187, 234, 353, 431, 596, 483, 316, 102, 354, 461] (by decide +kernel)
theorem ao_in : Cond.arrayOver (.object RX5) ∈ lw_tbl := List.mem_of_getElem? (i := 71) (by decide +kernel)
theorem aoa_in : Cond.arrayOver (.array .int) ∈ lw_tbl := List.mem_of_getElem? (i := 192) (by decide +kernel)
theorem ac_in : Cond.arrayClass .int ∈ lw_tbl := List.mem_of_getElem? (i := 93) (by decide +kernel)
