theorem sub_r {big : List Cond} (ws : List Cond) (ps : List Nat) (hp : ps.map (fun i => big[i]?) = ws.map some) : ∀ w ∈ ws, w ∈ big := by
  intro w hw
  have h1 : some w ∈ ps.map (fun i => big[i]?) := by rw [hp]; exact List.mem_map.mpr ⟨w, hw, rfl⟩
  obtain ⟨i, -, hi⟩ := List.mem_map.mp h1
  exact List.mem_of_getElem? hi
set_option maxRecDepth 100000 in
theorem wsL_law_in_r1 : ∀ w ∈ wsL_law0_r1, w ∈ lw_tbl := sub_r _ [28, 29, 10, 301, 302, 15, 30, 31, 32, 33, 34, 35, 63, 163, 165, 166, 168, 36, 37, 11, 169, 64, 65, 12] rfl
set_option maxRecDepth 100000 in
theorem wsL_law_in_r2 : ∀ w ∈ wsL_law0_r2, w ∈ lw_tbl := sub_r _ [170, 96, 97, 13, 171, 115, 116, 14, 172, 173, 39, 40, 41, 42, 44, 46, 48, 67, 68, 69, 70, 72, 73, 74] rfl
set_option maxRecDepth 100000 in
theorem wsL_law_in_r3 : ∀ w ∈ wsL_law0_r3, w ∈ lw_tbl := sub_r _ [75, 76, 99, 100, 101, 102, 104, 106, 118, 119, 120, 162, 121, 123, 124, 125, 304, 305, 306, 307, 309, 311, 313, 315] rfl
set_option maxRecDepth 100000 in
theorem wsL_law_in_r4 : ∀ w ∈ wsL_law0_r4, w ∈ lw_tbl := sub_r _ [319, 321, 325, 327, 329, 331, 333, 400, 401, 9, 402, 403, 404, 405, 406, 407, 203, 204, 205, 206, 214, 19, 285, 20] rfl
set_option maxRecDepth 100000 in
theorem wsL_law_in_r5 : ∀ w ∈ wsL_law0_r5, w ∈ lw_tbl := sub_r _ [164, 207, 208, 209, 210, 212, 0, 213, 612, 613, 614, 527, 528, 21, 529, 646, 647, 648, 666, 541, 542, 615, 616, 617] rfl
set_option maxRecDepth 100000 in
theorem wsL_law_in_r6 : ∀ w ∈ wsL_law0_r6, w ∈ lw_tbl := sub_r _ [618, 499, 22, 620, 23, 459, 461, 2, 462, 636, 637, 638, 639, 51, 641, 642, 643, 644, 645, 649, 650, 651, 652, 167] rfl
set_option maxRecDepth 100000 in
theorem wsL_law_in_r7 : ∀ w ∈ wsL_law0_r7, w ∈ lw_tbl := sub_r _ [655, 656, 657, 658, 659, 661, 662, 663, 664, 103, 105, 107, 667, 668, 669, 670, 672, 673, 674, 675, 676, 678, 679, 680] rfl
set_option maxRecDepth 100000 in
theorem wsL_law_in_r8 : ∀ w ∈ wsL_law0_r8, w ∈ lw_tbl := sub_r _ [681, 335, 351, 324, 317, 347, 349, 682, 684, 6, 685, 687, 343, 341, 337, 339, 345, 688, 686, 424, 425, 426, 689, 521] rfl
set_option maxRecDepth 100000 in
theorem wsL_law_in_r9 : ∀ w ∈ wsL_law0_r9, w ∈ lw_tbl := sub_r _ [522, 523, 525, 526, 690, 562, 563, 564, 691, 692, 693, 694, 127, 697, 699, 7, 700, 71, 701, 702, 703, 704, 705, 706] rfl
set_option maxRecDepth 100000 in
theorem wsL_law_in_r10 : ∀ w ∈ wsL_law0_r10, w ∈ lw_tbl := sub_r _ [707, 708, 126, 128, 130, 132, 583, 585, 5, 586, 709, 711, 8, 712, 174, 713, 134, 175, 714, 715, 716, 717, 718, 719] rfl
set_option maxRecDepth 100000 in
theorem wsL_law_in_r11 : ∀ w ∈ wsL_law0_r11, w ∈ lw_tbl := sub_r _ [535, 536, 537, 538, 539, 540, 77, 43, 45, 49, 543, 496, 497, 498, 544, 545, 546, 547, 78, 548, 549, 24, 550, 551] rfl
set_option maxRecDepth 100000 in
theorem wsL_law_in_r12 : ∀ w ∈ wsL_law0_r12, w ∈ lw_tbl := sub_r _ [552, 553, 554, 556, 4, 557, 558, 560, 559, 25, 720, 721, 722, 723, 724, 725, 726, 135, 137, 727, 728, 729, 730, 408] rfl
set_option maxRecDepth 100000 in
theorem wsL_law_in_r13 : ∀ w ∈ wsL_law0_r13, w ∈ lw_tbl := sub_r _ [409, 410, 411, 412, 413, 414, 415, 416, 417, 418, 419, 420, 421, 422, 423, 427, 428, 429, 430, 431, 432, 433, 434, 435] rfl
set_option maxRecDepth 100000 in
theorem wsL_law_in_r14 : ∀ w ∈ wsL_law0_r14, w ∈ lw_tbl := sub_r _ [436, 437, 438, 129, 439, 440, 441, 442, 131, 443, 444, 445, 446, 133, 447, 448, 449, 450, 451, 452, 453, 454, 455, 456] rfl
set_option maxRecDepth 100000 in
theorem wsL_law_in_r15 : ∀ w ∈ wsL_law0_r15, w ∈ lw_tbl := sub_r _ [457, 458, 471, 26, 463, 465, 3, 466, 467, 468, 469, 470, 487, 488, 489, 490, 515, 491, 492, 493, 494, 50, 495, 516] rfl
set_option maxRecDepth 100000 in
theorem wsL_law_in_r16 : ∀ w ∈ wsL_law0_r16, w ∈ lw_tbl := sub_r _ [517, 518, 519, 47, 520, 530, 531, 532, 533, 561, 565, 566, 567, 568, 122, 569, 570, 571, 572, 574, 575, 576, 577, 579] rfl
set_option maxRecDepth 100000 in
theorem wsL_law_in_r17 : ∀ w ∈ wsL_law0_r17, w ∈ lw_tbl := sub_r _ [580, 581, 582, 587, 588, 589, 590, 591, 27, 607, 608, 609, 610, 138, 136] rfl
set_option maxRecDepth 100000 in
theorem wsL_law_in_wsX40 : ∀ w ∈ wsX40, w ∈ lw_tbl := sub_r _ [176, 178, 180, 182, 184, 186, 188, 190, 192, 194, 196, 198, 200] rfl
set_option maxRecDepth 100000 in
theorem wsL_law_in_wsX50 : ∀ w ∈ wsX50, w ∈ lw_tbl := sub_r _ [353, 355, 357, 359, 361, 363, 365, 367, 369, 371, 373, 375, 377, 379, 381, 383, 385, 387, 389, 391, 393, 395, 397] rfl
set_option maxRecDepth 100000 in
theorem wsL_law_in_wsX30 : ∀ w ∈ wsX30, w ∈ lw_tbl := sub_r _ [52, 54, 56, 58, 60] rfl
set_option maxRecDepth 100000 in
theorem wsL_law_in_wsX10 : ∀ w ∈ wsX10, w ∈ lw_tbl := sub_r _ [79, 81, 83, 85, 87, 89, 91, 93] rfl
set_option maxRecDepth 100000 in
theorem wsL_law_in_wsX00 : ∀ w ∈ wsX00, w ∈ lw_tbl := sub_r _ [108, 110, 112] rfl
set_option maxRecDepth 100000 in
theorem wsL_law_in_wsX20 : ∀ w ∈ wsX20, w ∈ lw_tbl := sub_r _ [139, 141, 143, 145, 147, 149, 151, 153, 155, 157, 159] rfl
theorem wsL_law_in0 : ∀ w ∈ wsL_law0, w ∈ lw_tbl := fun w => (fun h => (List.mem_append.mp h).elim ((fun h => (List.mem_append.mp h).elim ((fun h => (List.mem_append.mp h).elim ((fun h => (List.mem_append.mp h).elim ((fun h => (List.mem_append.mp h).elim ((fun h => (List.mem_append.mp h).elim ((fun h => (List.mem_append.mp h).elim ((fun h => (List.mem_append.mp h).elim (wsL_law_in_r1 w) ((fun h => (List.mem_append.mp h).elim (wsL_law_in_r2 w) ((fun h => (List.mem_append.mp h).elim (wsL_law_in_r3 w) ((fun h => (List.mem_append.mp h).elim (wsL_law_in_r4 w) ((fun h => (List.mem_append.mp h).elim (wsL_law_in_r5 w) ((fun h => (List.mem_append.mp h).elim (wsL_law_in_r6 w) ((fun h => (List.mem_append.mp h).elim (wsL_law_in_r7 w) ((fun h => (List.mem_append.mp h).elim (wsL_law_in_r8 w) ((fun h => (List.mem_append.mp h).elim (wsL_law_in_r9 w) ((fun h => (List.mem_append.mp h).elim (wsL_law_in_r10 w) ((fun h => (List.mem_append.mp h).elim (wsL_law_in_r11 w) ((fun h => (List.mem_append.mp h).elim (wsL_law_in_r12 w) ((fun h => (List.mem_append.mp h).elim (wsL_law_in_r13 w) ((fun h => (List.mem_append.mp h).elim (wsL_law_in_r14 w) ((fun h => (List.mem_append.mp h).elim (wsL_law_in_r15 w) ((fun h => (List.mem_append.mp h).elim (wsL_law_in_r16 w) (wsL_law_in_r17 w))))))))))))))))))))))))))))))))) (wsL_law_in_wsX40 w))) (wsL_law_in_wsX50 w))) (wsL_law_in_wsX30 w))) (wsL_law_in_wsX10 w))) (wsL_law_in_wsX00 w))) (wsL_law_in_wsX20 w))) (fun h => absurd h List.not_mem_nil))
