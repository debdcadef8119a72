theorem wl_mem {big ws : List Cond} (ps : List Nat) (h : ws = ps.filterMap (fun i => big[i]?)) : ∀ w ∈ ws, w ∈ big := by
  intro w hw
  rw [h] at hw
  obtain ⟨i, -, hi⟩ := List.mem_filterMap.mp hw
  exact List.mem_of_getElem? hi
set_option maxRecDepth 100000 in
set_option maxHeartbeats 4000000 in
theorem wl_1 : ∀ w ∈ wsL_law_r1, w ∈ lw_tbl := wl_mem [96, 97, 88, 677, 678, 95, 98, 99, 100, 101, 102, 103, 104, 105, 89, 289, 165, 166, 90, 290, 291, 200, 201, 91] rfl
set_option maxRecDepth 100000 in
set_option maxHeartbeats 4000000 in
theorem wl_2 : ∀ w ∈ wsL_law_r2, w ∈ lw_tbl := wl_mem [292, 222, 223, 92, 293, 106, 107, 108, 109, 164, 110, 111, 117, 118, 167, 168, 169, 170, 171, 202, 203, 204, 205, 206] rfl
set_option maxRecDepth 100000 in
set_option maxHeartbeats 4000000 in
theorem wl_3 : ∀ w ∈ wsL_law_r3, w ∈ lw_tbl := wl_mem [207, 208, 209, 210, 224, 225, 226, 227, 250, 228, 229, 93, 252, 240, 241, 94, 251, 231, 232, 233, 242, 243, 244, 245] rfl
set_option maxRecDepth 100000 in
set_option maxHeartbeats 4000000 in
theorem wl_4 : ∀ w ∈ wsL_law_r4, w ∈ lw_tbl := wl_mem [246, 679, 680, 681, 682, 683, 684, 693, 694, 695, 696, 697, 698, 708, 712, 713, 305, 306, 307, 308, 309, 310, 311, 312] rfl
set_option maxRecDepth 100000 in
set_option maxHeartbeats 4000000 in
theorem wl_5 : ∀ w ∈ wsL_law_r5, w ∈ lw_tbl := wl_mem [313, 315, 0, 316, 317, 319, 1, 320, 321, 322, 323, 324, 325, 326, 777, 778, 779, 780, 784, 781, 782, 783, 785, 327] rfl
set_option maxRecDepth 100000 in
set_option maxHeartbeats 4000000 in
theorem wl_6 : ∀ w ∈ wsL_law_r6, w ∈ lw_tbl := wl_mem [328, 329, 330, 331, 332, 333, 334, 335, 177, 336, 337, 338, 339, 176, 174, 183, 172, 179, 340, 342, 2, 343, 344, 345] rfl
set_option maxRecDepth 100000 in
set_option maxHeartbeats 4000000 in
theorem wl_7 : ∀ w ∈ wsL_law_r7, w ∈ lw_tbl := wl_mem [346, 347, 119, 121, 120, 348, 349, 350, 351, 352, 353, 354, 355, 129, 786, 787, 788, 789, 356, 357, 358, 359, 360, 361] rfl
set_option maxRecDepth 100000 in
set_option maxHeartbeats 4000000 in
theorem wl_8 : ∀ w ∈ wsL_law_r8, w ∈ lw_tbl := wl_mem [362, 363, 364, 264, 266, 365, 367, 3, 368, 262, 369, 370, 371, 372, 234, 373, 374, 375, 376, 377, 790, 791, 792, 793] rfl
set_option maxRecDepth 100000 in
set_option maxHeartbeats 4000000 in
theorem wl_9 : ∀ w ∈ wsL_law_r9, w ∈ lw_tbl := wl_mem [794, 689, 691, 692, 795, 797, 37, 798, 799, 801, 38, 802, 803, 709, 710, 700, 804, 806, 39, 807, 808, 810, 40, 811] rfl
set_option maxRecDepth 100000 in
set_option maxHeartbeats 4000000 in
theorem wl_10 : ∀ w ∈ wsL_law_r10, w ∈ lw_tbl := wl_mem [812, 814, 41, 815, 711, 816, 818, 42, 819, 699, 820, 822, 43, 823, 690, 378, 379, 380, 381, 267, 382, 383, 384, 385] rfl
set_option maxRecDepth 100000 in
set_option maxHeartbeats 4000000 in
theorem wl_11 : ∀ w ∈ wsL_law_r11, w ∈ lw_tbl := wl_mem [386, 388, 4, 389, 125, 113, 112, 123, 390, 392, 5, 393, 394, 396, 6, 397, 398, 400, 7, 401, 127, 115, 124, 122] rfl
set_option maxRecDepth 100000 in
set_option maxHeartbeats 4000000 in
theorem wl_12 : ∀ w ∈ wsL_law_r12, w ∈ lw_tbl := wl_mem [402, 403, 404, 405, 406, 407, 408, 409, 410, 451, 254, 256, 411, 412, 413, 414, 415, 417, 8, 418, 460, 419, 421, 9] rfl
set_option maxRecDepth 100000 in
set_option maxHeartbeats 4000000 in
theorem wl_13 : ∀ w ∈ wsL_law_r13, w ∈ lw_tbl := wl_mem [422, 259, 423, 425, 10, 426, 261, 427, 428, 429, 430, 431, 432, 433, 434, 435, 436, 437, 438, 439, 440, 441, 442, 443] rfl
set_option maxRecDepth 100000 in
set_option maxHeartbeats 4000000 in
theorem wl_14 : ∀ w ∈ wsL_law_r14, w ∈ lw_tbl := wl_mem [444, 445, 446, 447, 448, 449, 450, 452, 454, 11, 455, 456, 457, 458, 459, 461, 462, 464, 12, 465, 466, 468, 470, 13] rfl
set_option maxRecDepth 100000 in
set_option maxHeartbeats 4000000 in
theorem wl_15 : ∀ w ∈ wsL_law_r15, w ∈ lw_tbl := wl_mem [471, 472, 473, 474, 475, 476, 478, 14, 479, 480, 482, 15, 483, 484, 485, 486, 487, 488, 489, 490, 491, 492, 493, 494] rfl
set_option maxRecDepth 100000 in
set_option maxHeartbeats 4000000 in
theorem wl_16 : ∀ w ∈ wsL_law_r16, w ∈ lw_tbl := wl_mem [495, 496, 497, 498, 499, 500, 501, 502, 503, 504, 505, 506, 507, 508, 510, 16, 511, 512, 514, 17, 515, 516, 518, 18] rfl
set_option maxRecDepth 100000 in
set_option maxHeartbeats 4000000 in
theorem wl_17 : ∀ w ∈ wsL_law_r17, w ∈ lw_tbl := wl_mem [519, 520, 522, 19, 523, 536, 524, 526, 20, 527, 528, 530, 21, 531, 532, 534, 22, 535, 537, 538, 539, 540, 541, 543] rfl
set_option maxRecDepth 100000 in
set_option maxHeartbeats 4000000 in
theorem wl_18 : ∀ w ∈ wsL_law_r18, w ∈ lw_tbl := wl_mem [23, 544, 545, 547, 24, 548, 549, 551, 25, 552, 235, 553, 555, 26, 556, 557, 559, 27, 560, 561, 563, 28, 564, 565] rfl
set_option maxRecDepth 100000 in
set_option maxHeartbeats 4000000 in
theorem wl_19 : ∀ w ∈ wsL_law_r19, w ∈ lw_tbl := wl_mem [567, 29, 568, 569, 571, 30, 572, 573, 574, 575, 576, 577, 583, 578, 579, 580, 581, 582, 584, 586, 31, 587, 588, 590] rfl
set_option maxRecDepth 100000 in
set_option maxHeartbeats 4000000 in
theorem wl_20 : ∀ w ∈ wsL_law_r20, w ∈ lw_tbl := wl_mem [32, 591, 592, 593, 594, 595, 596, 597, 598, 599, 600, 601, 603, 33, 604, 605, 606, 607, 608, 609, 610, 611, 612, 613] rfl
set_option maxRecDepth 100000 in
set_option maxHeartbeats 4000000 in
theorem wl_21 : ∀ w ∈ wsL_law_r21, w ∈ lw_tbl := wl_mem [614, 615, 617, 34, 618, 824, 825, 826, 827, 828, 830, 44, 831, 880, 832, 834, 45, 835, 704, 702, 707, 836, 838, 46] rfl
set_option maxRecDepth 100000 in
set_option maxHeartbeats 4000000 in
theorem wl_22 : ∀ w ∈ wsL_law_r22, w ∈ lw_tbl := wl_mem [839, 840, 842, 47, 843, 705, 706, 703, 701, 844, 846, 48, 847, 848, 850, 49, 851, 852, 854, 50, 855, 687, 685, 686] rfl
set_option maxRecDepth 100000 in
set_option maxHeartbeats 4000000 in
theorem wl_23 : ∀ w ∈ wsL_law_r23, w ∈ lw_tbl := wl_mem [856, 858, 51, 859, 860, 862, 52, 863, 688, 864, 866, 53, 867, 868, 870, 54, 871, 872, 874, 55, 875, 876, 878, 56] rfl
set_option maxRecDepth 100000 in
set_option maxHeartbeats 4000000 in
theorem wl_24 : ∀ w ∈ wsL_law_r24, w ∈ lw_tbl := wl_mem [879, 881, 883, 57, 884, 885, 887, 58, 888, 889, 891, 59, 892, 893, 895, 60, 896, 897, 898, 899, 900, 902, 61, 903] rfl
set_option maxRecDepth 100000 in
set_option maxHeartbeats 4000000 in
theorem wl_25 : ∀ w ∈ wsL_law_r25, w ∈ lw_tbl := wl_mem [904, 906, 62, 907, 908, 910, 63, 911, 912, 914, 64, 915, 916, 918, 65, 919, 920, 922, 66, 923, 924, 926, 67, 927] rfl
set_option maxRecDepth 100000 in
set_option maxHeartbeats 4000000 in
theorem wl_26 : ∀ w ∈ wsL_law_r26, w ∈ lw_tbl := wl_mem [940, 928, 930, 68, 931, 932, 934, 69, 935, 936, 938, 70, 939, 941, 943, 71, 944, 945, 947, 72, 948, 949, 951, 73] rfl
set_option maxRecDepth 100000 in
set_option maxHeartbeats 4000000 in
theorem wl_27 : ∀ w ∈ wsL_law_r27, w ∈ lw_tbl := wl_mem [952, 953, 954, 955, 956, 958, 74, 959, 960, 962, 75, 963, 964, 966, 76, 967, 968, 970, 77, 971, 972, 974, 78, 975] rfl
set_option maxRecDepth 100000 in
set_option maxHeartbeats 4000000 in
theorem wl_28 : ∀ w ∈ wsL_law_r28, w ∈ lw_tbl := wl_mem [976, 978, 79, 979, 980, 982, 80, 983, 984, 985, 987, 81, 988, 989, 991, 82, 992, 993, 995, 83, 996, 997, 999, 84] rfl
set_option maxRecDepth 100000 in
set_option maxHeartbeats 4000000 in
theorem wl_29 : ∀ w ∈ wsL_law_r29, w ∈ lw_tbl := wl_mem [1000, 1001, 1003, 85, 1004, 1005, 1007, 86, 1008, 619, 620, 621, 622, 255, 257, 258, 260, 263, 253, 236, 265, 1009, 1010, 1011] rfl
set_option maxRecDepth 100000 in
set_option maxHeartbeats 4000000 in
theorem wl_30 : ∀ w ∈ wsL_law_r30, w ∈ lw_tbl := wl_mem [1012, 623, 624, 625, 626, 627, 628, 629, 630, 1013, 1014, 1015, 1016, 631, 632, 633, 634, 116, 1017, 1018, 1019, 1020, 635, 636] rfl
set_option maxRecDepth 100000 in
set_option maxHeartbeats 4000000 in
theorem wl_31 : ∀ w ∈ wsL_law_r31, w ∈ lw_tbl := wl_mem [637, 638, 639, 640, 641, 642, 1021, 1022, 1023, 1024, 643, 644, 645, 646, 180, 647, 649, 35, 650, 1025, 1026, 1027, 1028, 1029] rfl
set_option maxRecDepth 100000 in
set_option maxHeartbeats 4000000 in
theorem wl_32 : ∀ w ∈ wsL_law_r32, w ∈ lw_tbl := wl_mem [1030, 1031, 651, 652, 653, 654, 655, 656, 657, 658, 181, 659, 661, 36, 662, 663, 664, 665, 666, 667, 1032, 1033, 1034, 1035] rfl
set_option maxRecDepth 100000 in
set_option maxHeartbeats 4000000 in
theorem wl_33 : ∀ w ∈ wsL_law_r33, w ∈ lw_tbl := wl_mem [668, 669, 670, 671, 173, 175, 178, 182, 184, 1036, 1037, 1038, 1039, 672, 673, 674, 675, 130, 114, 126, 128, 676, 1040, 1041] rfl
set_option maxRecDepth 100000 in
set_option maxHeartbeats 4000000 in
theorem wl_34 : ∀ w ∈ wsL_law_r34, w ∈ lw_tbl := wl_mem [1042, 1043] rfl
set_option maxRecDepth 100000 in
set_option maxHeartbeats 4000000 in
theorem inX0 : ∀ w ∈ wsX00, w ∈ lw_tbl := wl_mem [247] rfl
set_option maxRecDepth 100000 in
set_option maxHeartbeats 4000000 in
theorem inX1 : ∀ w ∈ wsX10, w ∈ lw_tbl := wl_mem [211, 213, 215, 217, 219] rfl
set_option maxRecDepth 100000 in
set_option maxHeartbeats 4000000 in
theorem inX2 : ∀ w ∈ wsX20, w ∈ lw_tbl := wl_mem [237] rfl
set_option maxRecDepth 100000 in
set_option maxHeartbeats 4000000 in
theorem inX3 : ∀ w ∈ wsX30, w ∈ lw_tbl := wl_mem [268, 270, 272, 274, 276, 278, 280, 282, 284, 286] rfl
set_option maxRecDepth 100000 in
set_option maxHeartbeats 4000000 in
theorem inX4 : ∀ w ∈ wsX40, w ∈ lw_tbl := wl_mem [131, 133, 135, 137, 139, 141, 143, 145, 147, 149, 151, 153, 155, 157, 159, 161] rfl
set_option maxRecDepth 100000 in
set_option maxHeartbeats 4000000 in
theorem inX5 : ∀ w ∈ wsX50, w ∈ lw_tbl := wl_mem [185, 187, 189, 191, 193, 195, 197] rfl
set_option maxRecDepth 100000 in
set_option maxHeartbeats 4000000 in
theorem inX6 : ∀ w ∈ wsX60, w ∈ lw_tbl := wl_mem [294, 296, 298, 300, 302] rfl
set_option maxRecDepth 100000 in
set_option maxHeartbeats 4000000 in
theorem inX7 : ∀ w ∈ wsX70, w ∈ lw_tbl := wl_mem [714, 716, 718, 720, 722, 724, 726, 728, 730, 732, 734, 736, 738, 740, 742, 744, 746, 748, 750, 752, 754, 756, 758, 760, 762, 764, 766, 768, 770, 772, 774] rfl
theorem wsL_law_in : ∀ w ∈ wsL_law, w ∈ lw_tbl := (List.forall_mem_append.mpr ⟨(List.forall_mem_append.mpr ⟨(List.forall_mem_append.mpr ⟨(List.forall_mem_append.mpr ⟨(List.forall_mem_append.mpr ⟨(List.forall_mem_append.mpr ⟨(List.forall_mem_append.mpr ⟨(List.forall_mem_append.mpr ⟨(List.forall_mem_append.mpr ⟨(List.forall_mem_append.mpr ⟨wl_1, (List.forall_mem_append.mpr ⟨wl_2, (List.forall_mem_append.mpr ⟨wl_3, (List.forall_mem_append.mpr ⟨wl_4, (List.forall_mem_append.mpr ⟨wl_5, (List.forall_mem_append.mpr ⟨wl_6, (List.forall_mem_append.mpr ⟨wl_7, (List.forall_mem_append.mpr ⟨wl_8, (List.forall_mem_append.mpr ⟨wl_9, (List.forall_mem_append.mpr ⟨wl_10, (List.forall_mem_append.mpr ⟨wl_11, (List.forall_mem_append.mpr ⟨wl_12, (List.forall_mem_append.mpr ⟨wl_13, (List.forall_mem_append.mpr ⟨wl_14, (List.forall_mem_append.mpr ⟨wl_15, (List.forall_mem_append.mpr ⟨wl_16, (List.forall_mem_append.mpr ⟨wl_17, (List.forall_mem_append.mpr ⟨wl_18, (List.forall_mem_append.mpr ⟨wl_19, (List.forall_mem_append.mpr ⟨wl_20, (List.forall_mem_append.mpr ⟨wl_21, (List.forall_mem_append.mpr ⟨wl_22, (List.forall_mem_append.mpr ⟨wl_23, (List.forall_mem_append.mpr ⟨wl_24, (List.forall_mem_append.mpr ⟨wl_25, (List.forall_mem_append.mpr ⟨wl_26, (List.forall_mem_append.mpr ⟨wl_27, (List.forall_mem_append.mpr ⟨wl_28, (List.forall_mem_append.mpr ⟨wl_29, (List.forall_mem_append.mpr ⟨wl_30, (List.forall_mem_append.mpr ⟨wl_31, (List.forall_mem_append.mpr ⟨wl_32, (List.forall_mem_append.mpr ⟨wl_33, wl_34⟩)⟩)⟩)⟩)⟩)⟩)⟩)⟩)⟩)⟩)⟩)⟩)⟩)⟩)⟩)⟩)⟩)⟩)⟩)⟩)⟩)⟩)⟩)⟩)⟩)⟩)⟩)⟩)⟩)⟩)⟩)⟩)⟩), inX6⟩), inX7⟩), inX4⟩), inX5⟩), inX1⟩), inX3⟩), inX2⟩), inX0⟩), fun _ h => absurd h List.not_mem_nil⟩)
