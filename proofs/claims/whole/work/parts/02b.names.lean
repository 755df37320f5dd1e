theorem sub_r {big : List Cond} (ws : List Cond) (ps : List Nat) (hp : ps.map (fun i => big[i]?) = ws.map some) : ∀ w ∈ ws, w ∈ big := by
  intro w hw
  have h1 : some w ∈ ps.map (fun i => big[i]?) := by rw [hp]; exact List.mem_map.mpr ⟨w, hw, rfl⟩
  obtain ⟨i, -, hi⟩ := List.mem_map.mp h1
  exact List.mem_of_getElem? hi
set_option maxRecDepth 100000 in
theorem wsL_law_in_r1 : ∀ w ∈ wsL_law0_r1, w ∈ lw_tbl := sub_r _ [42, 43, 22, 713, 714, 27, 975, 976, 44, 45, 46, 47, 48, 49, 78, 178, 180, 181, 183, 50, 51, 23, 184, 79] rfl
set_option maxRecDepth 100000 in
theorem wsL_law_in_r2 : ∀ w ∈ wsL_law0_r2, w ∈ lw_tbl := sub_r _ [80, 24, 185, 111, 112, 25, 186, 130, 131, 26, 187, 188, 53, 54, 55, 56, 59, 61, 63, 82, 83, 84, 85, 87] rfl
set_option maxRecDepth 100000 in
theorem wsL_law_in_r3 : ∀ w ∈ wsL_law0_r3, w ∈ lw_tbl := sub_r _ [88, 89, 90, 91, 114, 115, 116, 117, 119, 121, 133, 134, 135, 177, 136, 138, 139, 140, 715, 716, 717, 718, 721, 722] rfl
set_option maxRecDepth 100000 in
theorem wsL_law_in_r4 : ∀ w ∈ wsL_law0_r4, w ∈ lw_tbl := sub_r _ [723, 724, 727, 728, 729, 730, 731, 732, 733, 734, 736, 746, 747, 254, 255, 21, 256, 257, 258, 259, 260, 261, 262, 270] rfl
set_option maxRecDepth 100000 in
theorem wsL_law_in_r5 : ∀ w ∈ wsL_law0_r5, w ∈ lw_tbl := sub_r _ [31, 342, 32, 179, 263, 264, 265, 266, 268, 0, 269, 811, 812, 813, 814, 720, 815, 816, 817, 818, 820, 9, 821, 822] rfl
set_option maxRecDepth 100000 in
theorem wsL_law_in_r6 : ∀ w ∈ wsL_law0_r6, w ∈ lw_tbl := sub_r _ [824, 10, 825, 719, 807, 808, 809, 810, 358, 359, 360, 361, 362, 363, 364, 366, 367, 368, 369, 66, 370, 371, 33, 372] rfl
set_option maxRecDepth 100000 in
theorem wsL_law_in_r7 : ∀ w ∈ wsL_law0_r7, w ∈ lw_tbl := sub_r _ [826, 827, 828, 829, 726, 374, 375, 376, 377, 401, 402, 403, 404, 409, 34, 182, 424, 425, 426, 405, 407, 2, 408, 830] rfl
set_option maxRecDepth 100000 in
theorem wsL_law_in_r8 : ∀ w ∈ wsL_law0_r8, w ∈ lw_tbl := sub_r _ [831, 832, 833, 725, 834, 836, 11, 837, 427, 428, 429, 430, 431, 432, 433, 434, 435, 37, 838, 839, 840, 841, 218, 219] rfl
set_option maxRecDepth 100000 in
theorem wsL_law_in_r9 : ∀ w ∈ wsL_law0_r9, w ∈ lw_tbl := sub_r _ [220, 221, 842, 843, 844, 845, 451, 452, 453, 454, 455, 456, 457, 458, 460, 3, 461, 462, 463, 464, 465, 846, 847, 848] rfl
set_option maxRecDepth 100000 in
theorem wsL_law_in_r10 : ∀ w ∈ wsL_law0_r10, w ∈ lw_tbl := sub_r _ [849, 850, 852, 12, 853, 854, 856, 13, 857, 467, 468, 469, 470, 471, 472, 473, 474, 476, 4, 477, 858, 859, 860, 861] rfl
set_option maxRecDepth 100000 in
theorem wsL_law_in_r11 : ∀ w ∈ wsL_law0_r11, w ∈ lw_tbl := sub_r _ [862, 864, 14, 865, 478, 479, 480, 481, 482, 483, 484, 485, 487, 38, 503, 504, 505, 506, 508, 509, 510, 511, 512, 866] rfl
set_option maxRecDepth 100000 in
theorem wsL_law_in_r12 : ∀ w ∈ wsL_law0_r12, w ∈ lw_tbl := sub_r _ [867, 868, 869, 513, 514, 515, 516, 517, 518, 519, 65, 520, 521, 522, 523, 870, 871, 872, 873, 874, 876, 15, 877, 526] rfl
set_option maxRecDepth 100000 in
theorem wsL_law_in_r13 : ∀ w ∈ wsL_law0_r13, w ∈ lw_tbl := sub_r _ [527, 528, 529, 530, 531, 532, 62, 878, 879, 880, 881, 533, 534, 535, 536, 537, 538, 539, 882, 883, 884, 885, 540, 541] rfl
set_option maxRecDepth 100000 in
theorem wsL_law_in_r14 : ∀ w ∈ wsL_law0_r14, w ∈ lw_tbl := sub_r _ [542, 543, 544, 545, 546, 547, 548, 549, 550, 551, 552, 553, 554, 92, 57, 60, 64, 555, 556, 557, 558, 559, 93, 560] rfl
set_option maxRecDepth 100000 in
theorem wsL_law_in_r15 : ∀ w ∈ wsL_law0_r15, w ∈ lw_tbl := sub_r _ [561, 39, 562, 563, 564, 565, 566, 568, 5, 569, 570, 572, 571, 40, 886, 887, 888, 889, 890, 892, 16, 893, 745, 894] rfl
set_option maxRecDepth 100000 in
theorem wsL_law_in_r16 : ∀ w ∈ wsL_law0_r16, w ∈ lw_tbl := sub_r _ [896, 17, 897, 573, 574, 575, 576, 577, 578, 579, 580, 581, 582, 583, 584, 586, 6, 587, 898, 899, 900, 901, 902, 588] rfl
set_option maxRecDepth 100000 in
theorem wsL_law_in_r17 : ∀ w ∈ wsL_law0_r17, w ∈ lw_tbl := sub_r _ [589, 590, 591, 592, 593, 594, 58, 86, 903, 904, 905, 906, 595, 596, 597, 598, 599, 600, 601, 609, 602, 603, 604, 605] rfl
set_option maxRecDepth 100000 in
theorem wsL_law_in_r18 : ∀ w ∈ wsL_law0_r18, w ∈ lw_tbl := sub_r _ [606, 607, 608, 907, 908, 909, 910, 610, 611, 612, 613, 614, 615, 616, 911, 912, 913, 914, 618, 619, 620, 621, 622, 623] rfl
set_option maxRecDepth 100000 in
theorem wsL_law_in_r19 : ∀ w ∈ wsL_law0_r19, w ∈ lw_tbl := sub_r _ [624, 118, 120, 122, 915, 916, 917, 918, 626, 627, 628, 629, 630, 631, 632, 142, 635, 637, 7, 638, 639, 640, 641, 642] rfl
set_option maxRecDepth 100000 in
theorem wsL_law_in_r20 : ∀ w ∈ wsL_law0_r20, w ∈ lw_tbl := sub_r _ [643, 644, 645, 646, 141, 143, 145, 147, 647, 649, 8, 650, 189, 651, 149, 190, 652, 653, 654, 655, 656, 657, 658, 659] rfl
set_option maxRecDepth 100000 in
theorem wsL_law_in_r21 : ∀ w ∈ wsL_law0_r21, w ∈ lw_tbl := sub_r _ [660, 661, 662, 663, 664, 150, 152, 665, 666, 667, 668, 919, 920, 921, 922, 735, 923, 925, 18, 926, 927, 929, 19, 930] rfl
set_option maxRecDepth 100000 in
theorem wsL_law_in_r22 : ∀ w ∈ wsL_law0_r22, w ∈ lw_tbl := sub_r _ [737, 738, 739, 740, 742, 741, 931, 933, 20, 934, 743, 744, 222, 223, 224, 225, 935, 936, 937, 938, 226, 227, 228, 229] rfl
set_option maxRecDepth 100000 in
theorem wsL_law_in_r23 : ∀ w ∈ wsL_law0_r23, w ∈ lw_tbl := sub_r _ [939, 940, 941, 942, 230, 231, 232, 233, 234, 235, 236, 237, 943, 944, 945, 946, 238, 239, 240, 241, 144, 947, 948, 949] rfl
set_option maxRecDepth 100000 in
theorem wsL_law_in_r24 : ∀ w ∈ wsL_law0_r24, w ∈ lw_tbl := sub_r _ [950, 242, 243, 244, 245, 146, 951, 952, 953, 954, 246, 247, 248, 249, 148, 955, 956, 957, 958, 669, 670, 671, 672, 673] rfl
set_option maxRecDepth 100000 in
theorem wsL_law_in_r25 : ∀ w ∈ wsL_law0_r25, w ∈ lw_tbl := sub_r _ [674, 675, 137, 676, 677, 678, 679, 959, 960, 961, 962, 250, 251, 252, 253, 963, 964, 965, 966, 681, 682, 683, 684, 698] rfl
set_option maxRecDepth 100000 in
theorem wsL_law_in_r26 : ∀ w ∈ wsL_law0_r26, w ∈ lw_tbl := sub_r _ [699, 700, 701, 702, 41, 967, 968, 969, 970, 705, 706, 707, 708, 709, 710, 711, 153, 151, 971, 972, 973, 974] rfl
set_option maxRecDepth 100000 in
theorem wsL_law_in_wsX40 : ∀ w ∈ wsX40, w ∈ lw_tbl := sub_r _ [191, 193, 195, 197, 199, 201, 203, 205, 207, 209, 211, 213, 215] rfl
set_option maxRecDepth 100000 in
theorem wsL_law_in_wsX50 : ∀ w ∈ wsX50, w ∈ lw_tbl := sub_r _ [748, 750, 752, 754, 756, 758, 760, 762, 764, 766, 768, 770, 772, 774, 776, 778, 780, 782, 784, 786, 788, 790, 792, 794, 796, 798, 800, 802, 804] rfl
set_option maxRecDepth 100000 in
theorem wsL_law_in_wsX30 : ∀ w ∈ wsX30, w ∈ lw_tbl := sub_r _ [67, 69, 71, 73, 75] rfl
set_option maxRecDepth 100000 in
theorem wsL_law_in_wsX10 : ∀ w ∈ wsX10, w ∈ lw_tbl := sub_r _ [94, 96, 98, 100, 102, 104, 106, 108] rfl
set_option maxRecDepth 100000 in
theorem wsL_law_in_wsX00 : ∀ w ∈ wsX00, w ∈ lw_tbl := sub_r _ [123, 125, 127] rfl
set_option maxRecDepth 100000 in
theorem wsL_law_in_wsX20 : ∀ w ∈ wsX20, w ∈ lw_tbl := sub_r _ [154, 156, 158, 160, 162, 164, 166, 168, 170, 172, 174] rfl
theorem wsL_law_in0 : ∀ w ∈ wsL_law0, w ∈ lw_tbl := fun w => (fun h => (List.mem_append.mp h).elim ((fun h => (List.mem_append.mp h).elim ((fun h => (List.mem_append.mp h).elim ((fun h => (List.mem_append.mp h).elim ((fun h => (List.mem_append.mp h).elim ((fun h => (List.mem_append.mp h).elim ((fun h => (List.mem_append.mp h).elim ((fun h => (List.mem_append.mp h).elim (wsL_law_in_r1 w) ((fun h => (List.mem_append.mp h).elim (wsL_law_in_r2 w) ((fun h => (List.mem_append.mp h).elim (wsL_law_in_r3 w) ((fun h => (List.mem_append.mp h).elim (wsL_law_in_r4 w) ((fun h => (List.mem_append.mp h).elim (wsL_law_in_r5 w) ((fun h => (List.mem_append.mp h).elim (wsL_law_in_r6 w) ((fun h => (List.mem_append.mp h).elim (wsL_law_in_r7 w) ((fun h => (List.mem_append.mp h).elim (wsL_law_in_r8 w) ((fun h => (List.mem_append.mp h).elim (wsL_law_in_r9 w) ((fun h => (List.mem_append.mp h).elim (wsL_law_in_r10 w) ((fun h => (List.mem_append.mp h).elim (wsL_law_in_r11 w) ((fun h => (List.mem_append.mp h).elim (wsL_law_in_r12 w) ((fun h => (List.mem_append.mp h).elim (wsL_law_in_r13 w) ((fun h => (List.mem_append.mp h).elim (wsL_law_in_r14 w) ((fun h => (List.mem_append.mp h).elim (wsL_law_in_r15 w) ((fun h => (List.mem_append.mp h).elim (wsL_law_in_r16 w) ((fun h => (List.mem_append.mp h).elim (wsL_law_in_r17 w) ((fun h => (List.mem_append.mp h).elim (wsL_law_in_r18 w) ((fun h => (List.mem_append.mp h).elim (wsL_law_in_r19 w) ((fun h => (List.mem_append.mp h).elim (wsL_law_in_r20 w) ((fun h => (List.mem_append.mp h).elim (wsL_law_in_r21 w) ((fun h => (List.mem_append.mp h).elim (wsL_law_in_r22 w) ((fun h => (List.mem_append.mp h).elim (wsL_law_in_r23 w) ((fun h => (List.mem_append.mp h).elim (wsL_law_in_r24 w) ((fun h => (List.mem_append.mp h).elim (wsL_law_in_r25 w) (wsL_law_in_r26 w))))))))))))))))))))))))))))))))))))))))))))))))))) (wsL_law_in_wsX40 w))) (wsL_law_in_wsX50 w))) (wsL_law_in_wsX30 w))) (wsL_law_in_wsX10 w))) (wsL_law_in_wsX00 w))) (wsL_law_in_wsX20 w))) (fun h => absurd h List.not_mem_nil))
