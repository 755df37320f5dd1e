theorem goodIn_c {big a : List Cond} {c : Cond} (hc : GoodIn big [c]) (ha : GoodIn big a) : GoodIn big (c :: a) := fun w h => (List.mem_cons.mp h).elim (fun e => hc w (by rw [e]; exact List.mem_cons_self)) (ha w)
set_option maxRecDepth 100000 in
theorem gr_L_acts_c : GoodIn wsL_law [.code yL_acts cL_acts 6 (some .boolean)] := goodIn_sub (sub_r _ [106] rfl) (by decide +kernel)
set_option maxRecDepth 100000 in
theorem gr_L_acts_1 : GoodIn wsL_law wsL_acts_r1 := goodIn_sub (sub_r _ [107, 108, 109, 110, 111, 112, 113, 114, 115, 116, 84, 85, 81, 86, 87, 117, 118, 119, 2, 120, 121, 122, 92, 93] rfl) (by decide +kernel)
set_option maxRecDepth 100000 in
theorem gr_L_acts_2 : GoodIn wsL_law wsL_acts_r2 := goodIn_sub (sub_r _ [123, 124, 94, 95, 14, 20, 125, 126, 127, 128, 96, 97, 98, 99, 129, 130, 131, 19, 132, 133, 134, 135, 136, 137] rfl) (by decide +kernel)
set_option maxRecDepth 100000 in
theorem gr_L_acts_3 : GoodIn wsL_law wsL_acts_r3 := goodIn_sub (sub_r _ [37, 38, 39, 40, 138, 139, 140, 141, 142, 15, 143, 13, 144, 16, 145, 146, 147, 148, 33, 149, 150, 151, 152, 28] rfl) (by decide +kernel)
set_option maxRecDepth 100000 in
theorem gr_L_acts_4 : GoodIn wsL_law wsL_acts_r4 := goodIn_sub (sub_r _ [153, 154, 155, 156, 157, 158, 159, 160, 161, 162, 163, 164, 165, 166, 167, 5, 168, 169, 170, 73, 171, 72, 172, 71] rfl) (by decide +kernel)
set_option maxRecDepth 100000 in
theorem gr_L_acts_5 : GoodIn wsL_law wsL_acts_r5 := goodIn_sub (sub_r _ [70, 173, 174, 175, 176, 177, 178, 67, 75, 179, 180, 181, 182, 183, 184, 76, 77, 185, 78, 186, 187, 188, 189, 190] rfl) (by decide +kernel)
set_option maxRecDepth 100000 in
theorem gr_L_acts_6 : GoodIn wsL_law wsL_acts_r6 := goodIn_sub (sub_r _ [191, 192, 193, 12, 68, 69, 194, 195, 196, 197, 198, 199, 200, 201, 202, 203, 32, 204, 205, 206, 207, 208, 24, 209] rfl) (by decide +kernel)
set_option maxRecDepth 100000 in
theorem gr_L_acts_7 : GoodIn wsL_law wsL_acts_r7 := goodIn_sub (sub_r _ [210, 211, 212, 31, 213, 214, 215, 216, 217, 218, 60, 61, 62, 63, 219, 220, 221, 222, 223, 224, 225, 226, 227, 228] rfl) (by decide +kernel)
set_option maxRecDepth 100000 in
theorem gr_L_acts_8 : GoodIn wsL_law wsL_acts_r8 := goodIn_sub (sub_r _ [229, 230, 231, 232, 233, 234, 235, 236, 237, 27, 238, 53, 239, 54, 55, 240, 241, 242, 23, 243, 244, 245, 246, 247] rfl) (by decide +kernel)
set_option maxRecDepth 100000 in
theorem gr_L_acts_9 : GoodIn wsL_law wsL_acts_r9 := goodIn_sub (sub_r _ [46, 248, 47, 249, 48, 250, 251, 252, 253, 254, 255, 256, 257, 258, 44, 259, 260, 261, 262, 263, 264, 265, 45, 266] rfl) (by decide +kernel)
set_option maxRecDepth 100000 in
theorem gr_L_acts_10 : GoodIn wsL_law wsL_acts_r10 := goodIn_sub (sub_r _ [267, 268, 269, 270, 271, 272, 273, 274, 275, 276, 277, 278, 279, 280, 281, 282, 283, 284, 285, 286] rfl) (by decide +kernel)
set_option maxRecDepth 100000 in
theorem gr_L_acts_X5 : GoodIn wsL_law wsX50 := goodIn_sub (sub_r _ [412, 413, 414, 415, 416, 417, 418, 419, 420, 421, 422, 423, 424, 425, 426, 427, 428, 429, 430, 431, 432, 433, 434] rfl) (by decide +kernel)
set_option maxRecDepth 100000 in
theorem gr_L_acts_X4 : GoodIn wsL_law wsX40 := goodIn_sub (sub_r _ [399, 400, 401, 402, 403, 404, 405, 406, 407, 408, 409, 410, 411] rfl) (by decide +kernel)
set_option maxRecDepth 100000 in
theorem gr_L_acts_X3 : GoodIn wsL_law wsX30 := goodIn_sub (sub_r _ [435, 436, 437, 438, 439] rfl) (by decide +kernel)
set_option maxRecDepth 100000 in
theorem gr_L_acts_X0 : GoodIn wsL_law wsX00 := goodIn_sub (sub_r _ [448, 449, 450] rfl) (by decide +kernel)
set_option maxRecDepth 100000 in
theorem gr_L_acts_X2 : GoodIn wsL_law wsX20 := goodIn_sub (sub_r _ [451, 452, 453, 454, 455, 456, 457, 458, 459, 460, 461] rfl) (by decide +kernel)
set_option maxRecDepth 100000 in
theorem gr_L_acts_X1 : GoodIn wsL_law wsX10 := goodIn_sub (sub_r _ [440, 441, 442, 443, 444, 445, 446, 447] rfl) (by decide +kernel)
set_option maxRecDepth 100000 in
theorem gr_L_agrees_c : GoodIn wsL_law [.code yL_agrees cL_agrees 4 (some .boolean)] := goodIn_sub (sub_r _ [289] rfl) (by decide +kernel)
set_option maxRecDepth 100000 in
theorem gr_L_agrees_1 : GoodIn wsL_law wsL_agrees_r1 := goodIn_sub (sub_r _ [290, 291, 292, 2, 293, 32, 204, 294, 295, 296, 297, 143, 298, 299, 300, 301, 230, 302, 187, 188, 5, 189, 182, 183] rfl) (by decide +kernel)
set_option maxRecDepth 100000 in
theorem gr_L_agrees_2 : GoodIn wsL_law wsL_agrees_r2 := goodIn_sub (sub_r _ [181, 303, 304, 305, 306, 307, 308, 309, 31, 310, 218, 61, 62, 63, 311, 312, 313, 314, 315, 316, 317, 318, 319, 320] rfl) (by decide +kernel)
set_option maxRecDepth 100000 in
theorem gr_L_agrees_3 : GoodIn wsL_law wsL_agrees_r3 := goodIn_sub (sub_r _ [321, 322, 323, 324, 325, 326, 327, 328, 329, 233, 330, 331, 81, 332, 333, 334, 335, 336, 337, 338, 339, 15, 13, 16] rfl) (by decide +kernel)
set_option maxRecDepth 100000 in
theorem gr_L_agrees_4 : GoodIn wsL_law wsL_agrees_r4 := goodIn_sub (sub_r _ [125, 126, 127, 128, 96, 340, 341, 342, 343, 20, 344, 345, 346, 19, 347, 133, 37, 40, 348, 349, 350, 351, 352, 172] rfl) (by decide +kernel)
set_option maxRecDepth 100000 in
theorem gr_L_agrees_5 : GoodIn wsL_law wsL_agrees_r5 := goodIn_sub (sub_r _ [68, 70, 74, 73, 353, 354, 355, 356, 121, 122, 357, 358, 251, 252, 253, 359, 360, 361, 362, 363, 364, 191, 192, 193] rfl) (by decide +kernel)
set_option maxRecDepth 100000 in
theorem gr_L_agrees_6 : GoodIn wsL_law wsL_agrees_r6 := goodIn_sub (sub_r _ [12, 69, 72, 194, 195, 107, 108, 109, 110, 365, 366, 367, 368, 24, 14, 240, 241, 242, 23, 243, 244, 245, 115, 116] rfl) (by decide +kernel)
set_option maxRecDepth 100000 in
theorem gr_L_agrees_7 : GoodIn wsL_law wsL_agrees_r7 := goodIn_sub (sub_r _ [246, 247, 46, 248, 47, 249, 48, 250, 254, 255, 256, 257, 258, 44, 259, 260, 261, 262, 263, 264, 265, 45, 266, 267] rfl) (by decide +kernel)
set_option maxRecDepth 100000 in
theorem gr_L_agrees_8 : GoodIn wsL_law wsL_agrees_r8 := goodIn_sub (sub_r _ [268, 269, 270, 271, 272, 273, 369, 197, 198, 199, 370, 371, 372, 373, 374, 375, 376, 377, 378, 379, 380, 381, 382, 383] rfl) (by decide +kernel)
set_option maxRecDepth 100000 in
theorem gr_L_agrees_9 : GoodIn wsL_law wsL_agrees_r9 := goodIn_sub (sub_r _ [384, 385, 386, 222, 223, 224, 225, 387, 388, 389, 390, 391, 392, 232, 393, 394, 395, 396, 397, 398] rfl) (by decide +kernel)
set_option maxRecDepth 100000 in
theorem gr_L_agrees_X5 : GoodIn wsL_law wsX50 := goodIn_sub (sub_r _ [412, 413, 414, 415, 416, 417, 418, 419, 420, 421, 422, 423, 424, 425, 426, 427, 428, 429, 430, 431, 432, 433, 434] rfl) (by decide +kernel)
set_option maxRecDepth 100000 in
theorem gr_L_agrees_X4 : GoodIn wsL_law wsX40 := goodIn_sub (sub_r _ [399, 400, 401, 402, 403, 404, 405, 406, 407, 408, 409, 410, 411] rfl) (by decide +kernel)
set_option maxRecDepth 100000 in
theorem gr_L_agrees_X2 : GoodIn wsL_law wsX20 := goodIn_sub (sub_r _ [451, 452, 453, 454, 455, 456, 457, 458, 459, 460, 461] rfl) (by decide +kernel)
set_option maxRecDepth 100000 in
theorem gr_L_agrees_X3 : GoodIn wsL_law wsX30 := goodIn_sub (sub_r _ [435, 436, 437, 438, 439] rfl) (by decide +kernel)
set_option maxRecDepth 100000 in
theorem gr_L_agrees_X1 : GoodIn wsL_law wsX10 := goodIn_sub (sub_r _ [440, 441, 442, 443, 444, 445, 446, 447] rfl) (by decide +kernel)
