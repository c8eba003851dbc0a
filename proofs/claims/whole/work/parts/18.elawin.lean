theorem memP {big ws : List Cond} (ps : List Nat) (h : ps.map (fun i => big[i]?) = ws.map some) : ∀ w ∈ ws, w ∈ big := by
  intro w hw
  obtain ⟨k, hk⟩ := List.getElem?_of_mem hw
  have h1 : (ps.map (fun i => big[i]?))[k]? = some (some w) := by rw [h, List.getElem?_map, hk]; rfl
  rw [List.getElem?_map] at h1
  cases hi : ps[k]? with
  | none => rw [hi] at h1; cases h1
  | some i => rw [hi] at h1; exact List.mem_of_getElem? (Option.some.inj h1)
set_option maxRecDepth 100000 in
set_option maxHeartbeats 4000000 in
theorem inr_1 : ∀ w ∈ wsL_law_r1, w ∈ lw_tbl := memP [51, 52, 38, 655, 656, 45, 970, 53, 54, 55, 56, 57, 58, 114, 216, 217, 59, 60, 39, 218, 132, 66, 40, 219] rfl
set_option maxRecDepth 100000 in
set_option maxHeartbeats 4000000 in
theorem inr_2 : ∀ w ∈ wsL_law_r2, w ∈ lw_tbl := memP [134, 135, 41, 220, 221, 166, 167, 42, 222, 176, 177, 43, 223, 196, 197, 44, 224, 225, 253, 226, 227, 62, 63, 64] rfl
set_option maxRecDepth 100000 in
set_option maxHeartbeats 4000000 in
theorem inr_3 : ∀ w ∈ wsL_law_r3, w ∈ lw_tbl := memP [65, 115, 117, 118, 119, 120, 68, 69, 70, 71, 74, 77, 80, 85, 87, 90, 94, 136, 137, 138, 139, 143, 145, 147] rfl
set_option maxRecDepth 100000 in
set_option maxHeartbeats 4000000 in
theorem inr_4 : ∀ w ∈ wsL_law_r4, w ∈ lw_tbl := memP [149, 151, 140, 168, 169, 170, 171, 172, 178, 179, 180, 181, 182, 185, 186, 187, 184, 199, 200, 201, 202, 203, 204, 205] rfl
set_option maxRecDepth 100000 in
set_option maxHeartbeats 4000000 in
theorem inr_5 : ∀ w ∈ wsL_law_r5, w ∈ lw_tbl := memP [657, 658, 659, 660, 664, 665, 666, 667, 668, 669, 671, 677, 679, 680, 681, 683, 684, 662, 663, 254, 255, 256, 257, 734] rfl
set_option maxRecDepth 100000 in
set_option maxHeartbeats 4000000 in
theorem inr_6 : ∀ w ∈ wsL_law_r6, w ∈ lw_tbl := memP [735, 736, 737, 738, 672, 739, 740, 741, 258, 259, 260, 261, 742, 743, 744, 745, 262, 263, 264, 265, 266, 267, 268, 269] rfl
set_option maxRecDepth 100000 in
set_option maxHeartbeats 4000000 in
theorem inr_7 : ∀ w ∈ wsL_law_r7, w ∈ lw_tbl := memP [81, 270, 272, 0, 273, 274, 276, 1, 277, 278, 280, 2, 281, 282, 283, 284, 285, 286, 287, 288, 289, 290, 291, 292] rfl
set_option maxRecDepth 100000 in
set_option maxHeartbeats 4000000 in
theorem inr_8 : ∀ w ∈ wsL_law_r8, w ∈ lw_tbl := memP [293, 294, 295, 296, 297, 298, 300, 3, 301, 303, 304, 305, 306, 307, 308, 309, 311, 4, 312, 313, 314, 315, 316, 317] rfl
set_option maxRecDepth 100000 in
set_option maxHeartbeats 4000000 in
theorem inr_9 : ∀ w ∈ wsL_law_r9, w ∈ lw_tbl := memP [318, 319, 321, 5, 322, 72, 75, 79, 746, 747, 748, 749, 750, 752, 12, 753, 673, 674, 670, 754, 756, 13, 757, 758] rfl
set_option maxRecDepth 100000 in
set_option maxHeartbeats 4000000 in
theorem inr_10 : ∀ w ∈ wsL_law_r10, w ∈ lw_tbl := memP [759, 760, 761, 762, 764, 14, 765, 766, 767, 769, 15, 770, 771, 773, 16, 774, 323, 324, 325, 326, 116, 84, 327, 328] rfl
set_option maxRecDepth 100000 in
set_option maxHeartbeats 4000000 in
theorem inr_11 : ∀ w ∈ wsL_law_r11, w ∈ lw_tbl := memP [329, 330, 331, 333, 332, 46, 334, 335, 336, 337, 86, 78, 338, 339, 340, 341, 775, 776, 777, 778, 661, 675, 342, 343] rfl
set_option maxRecDepth 100000 in
set_option maxHeartbeats 4000000 in
theorem inr_12 : ∀ w ∈ wsL_law_r12, w ∈ lw_tbl := memP [344, 345, 148, 88, 92, 144, 146, 96, 346, 779, 780, 781, 782, 783, 785, 17, 786, 347, 348, 349, 350, 351, 352, 353] rfl
set_option maxRecDepth 100000 in
set_option maxHeartbeats 4000000 in
theorem inr_13 : ∀ w ∈ wsL_law_r13, w ∈ lw_tbl := memP [354, 355, 356, 357, 358, 359, 73, 360, 361, 362, 363, 83, 364, 365, 47, 366, 367, 368, 369, 370, 371, 372, 373, 374] rfl
set_option maxRecDepth 100000 in
set_option maxHeartbeats 4000000 in
theorem inr_14 : ∀ w ∈ wsL_law_r14, w ∈ lw_tbl := memP [375, 376, 377, 378, 379, 380, 381, 382, 93, 383, 787, 788, 789, 790, 791, 793, 18, 794, 795, 797, 19, 798, 799, 801] rfl
set_option maxRecDepth 100000 in
set_option maxHeartbeats 4000000 in
theorem inr_15 : ∀ w ∈ wsL_law_r15, w ∈ lw_tbl := memP [20, 802, 803, 804, 805, 806, 808, 21, 809, 676, 810, 812, 22, 813, 384, 385, 386, 387, 388, 389, 390, 391, 392, 393] rfl
set_option maxRecDepth 100000 in
set_option maxHeartbeats 4000000 in
theorem inr_16 : ∀ w ∈ wsL_law_r16, w ∈ lw_tbl := memP [394, 395, 814, 815, 816, 817, 818, 820, 23, 821, 396, 397, 398, 399, 400, 401, 402, 403, 404, 406, 6, 407, 408, 409] rfl
set_option maxRecDepth 100000 in
set_option maxHeartbeats 4000000 in
theorem inr_17 : ∀ w ∈ wsL_law_r17, w ∈ lw_tbl := memP [411, 7, 412, 89, 413, 415, 8, 416, 417, 419, 9, 420, 421, 422, 423, 424, 76, 425, 426, 427, 428, 822, 823, 824] rfl
set_option maxRecDepth 100000 in
set_option maxHeartbeats 4000000 in
theorem inr_18 : ∀ w ∈ wsL_law_r18, w ∈ lw_tbl := memP [825, 826, 828, 24, 829, 830, 832, 25, 833, 834, 836, 26, 837, 838, 840, 27, 841, 430, 431, 432, 433, 150, 842, 843] rfl
set_option maxRecDepth 100000 in
set_option maxHeartbeats 4000000 in
theorem inr_19 : ∀ w ∈ wsL_law_r19, w ∈ lw_tbl := memP [844, 845, 846, 434, 435, 436, 437, 188, 438, 439, 440, 441, 847, 848, 849, 850, 442, 443, 444, 445, 446, 447, 448, 449] rfl
set_option maxRecDepth 100000 in
set_option maxHeartbeats 4000000 in
theorem inr_20 : ∀ w ∈ wsL_law_r20, w ∈ lw_tbl := memP [141, 450, 451, 452, 453, 454, 455, 456, 457, 458, 459, 460, 461, 851, 852, 853, 854, 855, 857, 28, 858, 859, 861, 29] rfl
set_option maxRecDepth 100000 in
set_option maxHeartbeats 4000000 in
theorem inr_21 : ∀ w ∈ wsL_law_r21, w ∈ lw_tbl := memP [862, 863, 865, 30, 866, 462, 463, 464, 465, 867, 868, 869, 870, 466, 467, 468, 469, 470, 471, 472, 473, 474, 476, 477] rfl
set_option maxRecDepth 100000 in
set_option maxHeartbeats 4000000 in
theorem inr_22 : ∀ w ∈ wsL_law_r22, w ∈ lw_tbl := memP [478, 479, 481, 482, 483, 871, 872, 873, 874, 875, 877, 31, 878, 484, 485, 486, 487, 488, 489, 490, 491, 879, 880, 881] rfl
set_option maxRecDepth 100000 in
set_option maxHeartbeats 4000000 in
theorem inr_23 : ∀ w ∈ wsL_law_r23, w ∈ lw_tbl := memP [882, 492, 493, 494, 495, 496, 497, 498, 499, 500, 501, 883, 884, 885, 886, 502, 503, 504, 505, 506, 507, 508, 509, 510] rfl
set_option maxRecDepth 100000 in
set_option maxHeartbeats 4000000 in
theorem inr_24 : ∀ w ∈ wsL_law_r24, w ∈ lw_tbl := memP [511, 512, 513, 514, 515, 517, 10, 518, 519, 520, 521, 887, 888, 889, 890, 891, 892, 893, 894, 895, 897, 32, 898, 522] rfl
set_option maxRecDepth 100000 in
set_option maxHeartbeats 4000000 in
theorem inr_25 : ∀ w ∈ wsL_law_r25, w ∈ lw_tbl := memP [523, 524, 525, 206, 526, 527, 528, 529, 899, 900, 901, 902, 903, 678, 530, 531, 532, 533, 534, 535, 536, 537, 904, 905] rfl
set_option maxRecDepth 100000 in
set_option maxHeartbeats 4000000 in
theorem inr_26 : ∀ w ∈ wsL_law_r26, w ∈ lw_tbl := memP [906, 907, 538, 539, 540, 541, 542, 543, 544, 545, 546, 548, 11, 549, 142, 550, 552, 553, 554, 555, 556, 557, 558, 559] rfl
set_option maxRecDepth 100000 in
set_option maxHeartbeats 4000000 in
theorem inr_27 : ∀ w ∈ wsL_law_r27, w ∈ lw_tbl := memP [560, 908, 909, 910, 911, 912, 914, 33, 915, 561, 562, 563, 564, 565, 566, 48, 567, 82, 568, 570, 571, 572, 573, 95] rfl
set_option maxRecDepth 100000 in
set_option maxHeartbeats 4000000 in
theorem inr_28 : ∀ w ∈ wsL_law_r28, w ∈ lw_tbl := memP [574, 575, 576, 577, 579, 580, 581, 582, 583, 584, 585, 916, 917, 918, 919, 920, 921, 922, 923, 925, 34, 926, 927, 928] rfl
set_option maxRecDepth 100000 in
set_option maxHeartbeats 4000000 in
theorem inr_29 : ∀ w ∈ wsL_law_r29, w ∈ lw_tbl := memP [929, 586, 587, 588, 589, 590, 591, 49, 592, 593, 594, 595, 596, 597, 598, 91, 599, 600, 601, 602, 603, 604, 605, 606] rfl
set_option maxRecDepth 100000 in
set_option maxHeartbeats 4000000 in
theorem inr_30 : ∀ w ∈ wsL_law_r30, w ∈ lw_tbl := memP [930, 931, 932, 933, 934, 936, 35, 937, 938, 940, 36, 941, 607, 608, 609, 610, 611, 612, 50, 613, 614, 615, 616, 617] rfl
set_option maxRecDepth 100000 in
set_option maxHeartbeats 4000000 in
theorem inr_31 : ∀ w ∈ wsL_law_r31, w ∈ lw_tbl := memP [618, 619, 620, 942, 943, 944, 945, 946, 621, 622, 623, 624, 947, 948, 949, 950, 682, 625, 626, 627, 628, 629, 630, 631] rfl
set_option maxRecDepth 100000 in
set_option maxHeartbeats 4000000 in
theorem inr_32 : ∀ w ∈ wsL_law_r32, w ∈ lw_tbl := memP [632, 633, 634, 635, 636, 637, 638, 639, 640, 641, 951, 952, 953, 954, 955, 956, 957, 642, 643, 644, 645, 152, 958, 959] rfl
set_option maxRecDepth 100000 in
set_option maxHeartbeats 4000000 in
theorem inr_33 : ∀ w ∈ wsL_law_r33, w ∈ lw_tbl := memP [960, 961, 646, 647, 648, 649, 962, 963, 964, 965, 650, 651, 652, 653, 654, 966, 967, 968, 969] rfl
set_option maxRecDepth 100000 in
set_option maxHeartbeats 4000000 in
theorem inc_wsX90 : ∀ w ∈ wsX90, w ∈ lw_tbl := memP [228, 230, 232, 234, 236, 238, 240, 242, 244, 246, 248, 250] rfl
set_option maxRecDepth 100000 in
set_option maxHeartbeats 4000000 in
theorem inc_wsX100 : ∀ w ∈ wsX100, w ∈ lw_tbl := memP [685, 687, 689, 691, 693, 695, 697, 699, 701, 703, 705, 707, 709, 711, 713, 715, 717, 719, 721, 723, 725, 727, 729, 731] rfl
set_option maxRecDepth 100000 in
set_option maxHeartbeats 4000000 in
theorem inc_wsX50 : ∀ w ∈ wsX50, w ∈ lw_tbl := memP [121, 123, 125, 127, 129] rfl
set_option maxRecDepth 100000 in
set_option maxHeartbeats 4000000 in
theorem inc_wsX40 : ∀ w ∈ wsX40, w ∈ lw_tbl := memP [97, 99, 101, 103, 105, 107, 109, 111] rfl
set_option maxRecDepth 100000 in
set_option maxHeartbeats 4000000 in
theorem inc_wsX80 : ∀ w ∈ wsX80, w ∈ lw_tbl := memP [153, 155, 157, 159, 161, 163] rfl
set_option maxRecDepth 100000 in
set_option maxHeartbeats 4000000 in
theorem inc_wsX20 : ∀ w ∈ wsX20, w ∈ lw_tbl := memP [173] rfl
set_option maxRecDepth 100000 in
set_option maxHeartbeats 4000000 in
theorem inc_wsX00 : ∀ w ∈ wsX00, w ∈ lw_tbl := memP [189, 191, 193] rfl
set_option maxRecDepth 100000 in
set_option maxHeartbeats 4000000 in
theorem inc_wsX70 : ∀ w ∈ wsX70, w ∈ lw_tbl := memP [207, 209, 211, 213] rfl
theorem wsL_law_in : ∀ w ∈ wsL_law, w ∈ lw_tbl := (fun w h => (List.mem_append.mp h).elim ((fun w h => (List.mem_append.mp h).elim ((fun w h => (List.mem_append.mp h).elim ((fun w h => (List.mem_append.mp h).elim ((fun w h => (List.mem_append.mp h).elim ((fun w h => (List.mem_append.mp h).elim ((fun w h => (List.mem_append.mp h).elim ((fun w h => (List.mem_append.mp h).elim ((fun w h => (List.mem_append.mp h).elim ((fun w h => (List.mem_append.mp h).elim (inr_1 w) ((fun w h => (List.mem_append.mp h).elim (inr_2 w) ((fun w h => (List.mem_append.mp h).elim (inr_3 w) ((fun w h => (List.mem_append.mp h).elim (inr_4 w) ((fun w h => (List.mem_append.mp h).elim (inr_5 w) ((fun w h => (List.mem_append.mp h).elim (inr_6 w) ((fun w h => (List.mem_append.mp h).elim (inr_7 w) ((fun w h => (List.mem_append.mp h).elim (inr_8 w) ((fun w h => (List.mem_append.mp h).elim (inr_9 w) ((fun w h => (List.mem_append.mp h).elim (inr_10 w) ((fun w h => (List.mem_append.mp h).elim (inr_11 w) ((fun w h => (List.mem_append.mp h).elim (inr_12 w) ((fun w h => (List.mem_append.mp h).elim (inr_13 w) ((fun w h => (List.mem_append.mp h).elim (inr_14 w) ((fun w h => (List.mem_append.mp h).elim (inr_15 w) ((fun w h => (List.mem_append.mp h).elim (inr_16 w) ((fun w h => (List.mem_append.mp h).elim (inr_17 w) ((fun w h => (List.mem_append.mp h).elim (inr_18 w) ((fun w h => (List.mem_append.mp h).elim (inr_19 w) ((fun w h => (List.mem_append.mp h).elim (inr_20 w) ((fun w h => (List.mem_append.mp h).elim (inr_21 w) ((fun w h => (List.mem_append.mp h).elim (inr_22 w) ((fun w h => (List.mem_append.mp h).elim (inr_23 w) ((fun w h => (List.mem_append.mp h).elim (inr_24 w) ((fun w h => (List.mem_append.mp h).elim (inr_25 w) ((fun w h => (List.mem_append.mp h).elim (inr_26 w) ((fun w h => (List.mem_append.mp h).elim (inr_27 w) ((fun w h => (List.mem_append.mp h).elim (inr_28 w) ((fun w h => (List.mem_append.mp h).elim (inr_29 w) ((fun w h => (List.mem_append.mp h).elim (inr_30 w) ((fun w h => (List.mem_append.mp h).elim (inr_31 w) ((fun w h => (List.mem_append.mp h).elim (inr_32 w) (inr_33 w)) w)) w)) w)) w)) w)) w)) w)) w)) w)) w)) w)) w)) w)) w)) w)) w)) w)) w)) w)) w)) w)) w)) w)) w)) w)) w)) w)) w)) w)) w)) w)) w) (inc_wsX90 w)) w) (inc_wsX100 w)) w) (inc_wsX50 w)) w) (inc_wsX40 w)) w) (inc_wsX80 w)) w) (inc_wsX20 w)) w) (inc_wsX00 w)) w) (inc_wsX70 w)) w) ((fun w h => absurd h List.not_mem_nil) w))
