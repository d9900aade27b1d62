theorem mem_pl {big : List Cond} (ws : List Cond) (ps : List Nat) (hp : ws = ps.filterMap (fun i => big[i]?)) : ∀ w ∈ ws, w ∈ big := by
  intro w hw
  rw [hp] at hw
  obtain ⟨i, -, hi⟩ := List.mem_filterMap.mp hw
  exact List.mem_of_getElem? hi
theorem mem_ap {big a b : List Cond} (ha : ∀ w ∈ a, w ∈ big) (hb : ∀ w ∈ b, w ∈ big) : ∀ w ∈ a ++ b, w ∈ big := fun w h => (List.mem_append.mp h).elim (ha w) (hb w)
set_option maxRecDepth 20000 in
theorem inT_wsL_law_r1 : ∀ w ∈ wsL_law_r1, w ∈ lw_tbl := mem_pl _ [28, 29, 23, 349, 350, 26, 30, 31, 32, 33, 34, 35, 36, 87, 38, 88, 40, 24, 58, 25, 42, 43, 44, 57] (by decide +kernel)
set_option maxRecDepth 20000 in
theorem inT_wsL_law_r2 : ∀ w ∈ wsL_law_r2, w ∈ lw_tbl := mem_pl _ [45, 60, 61, 62, 68, 351, 352, 353, 354, 355, 356, 358, 359, 360, 361, 362, 363, 364, 365, 109, 110, 111, 112, 113] (by decide +kernel)
set_option maxRecDepth 20000 in
theorem inT_wsL_law_r3 : ∀ w ∈ wsL_law_r3, w ∈ lw_tbl := mem_pl _ [115, 0, 116, 117, 118, 119, 120, 121, 122, 123, 46, 124, 126, 1, 127, 89, 128, 129, 130, 131, 132, 134, 2, 135] (by decide +kernel)
set_option maxRecDepth 20000 in
theorem inT_wsL_law_r4 : ∀ w ∈ wsL_law_r4, w ∈ lw_tbl := mem_pl _ [49, 389, 390, 391, 392, 393, 394, 395, 396, 397, 398, 399, 400, 401, 402, 404, 10, 405, 357, 406, 408, 11, 409, 410] (by decide +kernel)
set_option maxRecDepth 20000 in
theorem inT_wsL_law_r5 : ∀ w ∈ wsL_law_r5, w ∈ lw_tbl := mem_pl _ [412, 12, 413, 414, 416, 13, 417, 136, 137, 138, 139, 140, 141, 142, 143, 145, 3, 146, 147, 149, 4, 150, 90, 91] (by decide +kernel)
set_option maxRecDepth 20000 in
theorem inT_wsL_law_r6 : ∀ w ∈ wsL_law_r6, w ∈ lw_tbl := mem_pl _ [92, 93, 151, 152, 153, 154, 418, 419, 420, 421, 422, 424, 14, 425, 155, 156, 157, 158, 159, 160, 161, 162, 163, 164] (by decide +kernel)
set_option maxRecDepth 20000 in
theorem inT_wsL_law_r7 : ∀ w ∈ wsL_law_r7, w ∈ lw_tbl := mem_pl _ [165, 166, 426, 427, 428, 429, 430, 432, 15, 433, 167, 168, 169, 170, 171, 172, 173, 174, 434, 435, 436, 437, 175, 176] (by decide +kernel)
set_option maxRecDepth 20000 in
theorem inT_wsL_law_r8 : ∀ w ∈ wsL_law_r8, w ∈ lw_tbl := mem_pl _ [177, 178, 179, 180, 181, 182, 438, 439, 440, 441, 183, 184, 185, 186, 187, 188, 189, 190, 442, 443, 444, 445, 191, 192] (by decide +kernel)
set_option maxRecDepth 20000 in
theorem inT_wsL_law_r9 : ∀ w ∈ wsL_law_r9, w ∈ lw_tbl := mem_pl _ [193, 194, 446, 447, 448, 449, 195, 196, 197, 198, 199, 200, 201, 202, 450, 451, 452, 453, 454, 456, 16, 457, 203, 204] (by decide +kernel)
set_option maxRecDepth 20000 in
theorem inT_wsL_law_r10 : ∀ w ∈ wsL_law_r10, w ∈ lw_tbl := mem_pl _ [205, 206, 207, 208, 209, 458, 459, 460, 461, 210, 211, 212, 213, 462, 463, 464, 465, 214, 215, 216, 217, 218, 219, 220] (by decide +kernel)
set_option maxRecDepth 20000 in
theorem inT_wsL_law_r11 : ∀ w ∈ wsL_law_r11, w ∈ lw_tbl := mem_pl _ [221, 466, 467, 468, 469, 470, 471, 472, 222, 223, 224, 225, 226, 473, 474, 475, 476, 227, 228, 229, 230, 231, 232, 233] (by decide +kernel)
set_option maxRecDepth 20000 in
theorem inT_wsL_law_r12 : ∀ w ∈ wsL_law_r12, w ∈ lw_tbl := mem_pl _ [234, 63, 235, 236, 237, 238, 477, 478, 479, 480, 481, 483, 17, 484, 239, 240, 241, 242, 243, 244, 245, 246, 247, 485] (by decide +kernel)
set_option maxRecDepth 20000 in
theorem inT_wsL_law_r13 : ∀ w ∈ wsL_law_r13, w ∈ lw_tbl := mem_pl _ [486, 487, 488, 248, 249, 250, 251, 252, 253, 254, 255, 256, 257, 27, 258, 489, 490, 491, 492, 259, 260, 261, 262, 263] (by decide +kernel)
set_option maxRecDepth 20000 in
theorem inT_wsL_law_r14 : ∀ w ∈ wsL_law_r14, w ∈ lw_tbl := mem_pl _ [264, 265, 266, 493, 494, 495, 496, 267, 268, 269, 270, 497, 498, 499, 500, 271, 272, 273, 274, 275, 276, 277, 278, 279] (by decide +kernel)
set_option maxRecDepth 20000 in
theorem inT_wsL_law_r15 : ∀ w ∈ wsL_law_r15, w ∈ lw_tbl := mem_pl _ [501, 502, 503, 504, 505, 280, 281, 282, 283, 284, 286, 5, 287, 288, 289, 290, 291, 65, 67, 72, 506, 507, 508, 509] (by decide +kernel)
set_option maxRecDepth 20000 in
theorem inT_wsL_law_r16 : ∀ w ∈ wsL_law_r16, w ∈ lw_tbl := mem_pl _ [510, 511, 512, 292, 293, 294, 295, 296, 298, 6, 299, 300, 301, 302, 303, 304, 305, 306, 307, 308, 70, 513, 514, 515] (by decide +kernel)
set_option maxRecDepth 20000 in
theorem inT_wsL_law_r17 : ∀ w ∈ wsL_law_r17, w ∈ lw_tbl := mem_pl _ [516, 517, 519, 18, 520, 521, 523, 19, 524, 309, 310, 311, 312, 525, 526, 527, 528, 313, 314, 315, 316, 529, 530, 531] (by decide +kernel)
set_option maxRecDepth 20000 in
theorem inT_wsL_law_r18 : ∀ w ∈ wsL_law_r18, w ∈ lw_tbl := mem_pl _ [532, 317, 318, 319, 320, 321, 323, 7, 324, 533, 534, 535, 536, 537, 539, 20, 540, 325, 326, 327, 328, 541, 542, 543] (by decide +kernel)
set_option maxRecDepth 20000 in
theorem inT_wsL_law_r19 : ∀ w ∈ wsL_law_r19, w ∈ lw_tbl := mem_pl _ [544, 329, 330, 331, 332, 545, 546, 547, 548, 333, 334, 335, 336, 549, 550, 551, 552, 337, 338, 339, 340, 341, 343, 8] (by decide +kernel)
set_option maxRecDepth 20000 in
theorem inT_wsL_law_r20 : ∀ w ∈ wsL_law_r20, w ∈ lw_tbl := mem_pl _ [344, 345, 347, 9, 348, 553, 554, 555, 556, 557, 559, 21, 560] (by decide +kernel)
set_option maxRecDepth 20000 in
theorem inT_wsX00 : ∀ w ∈ wsX00, w ∈ lw_tbl := mem_pl _ [74, 76, 78, 80, 82, 84] (by decide +kernel)
set_option maxRecDepth 20000 in
theorem inT_wsX10 : ∀ w ∈ wsX10, w ∈ lw_tbl := mem_pl _ [50, 52, 54] (by decide +kernel)
set_option maxRecDepth 20000 in
theorem inT_wsX20 : ∀ w ∈ wsX20, w ∈ lw_tbl := mem_pl _ [94, 96, 98, 100, 102, 104, 106] (by decide +kernel)
set_option maxRecDepth 20000 in
theorem inT_wsX30 : ∀ w ∈ wsX30, w ∈ lw_tbl := mem_pl _ [366, 368, 370, 372, 374, 376, 378, 380, 382, 384, 386] (by decide +kernel)
theorem wsL_law_in : ∀ w ∈ wsL_law, w ∈ lw_tbl := (mem_ap (mem_ap (mem_ap (mem_ap (mem_ap (mem_ap inT_wsL_law_r1 (mem_ap inT_wsL_law_r2 (mem_ap inT_wsL_law_r3 (mem_ap inT_wsL_law_r4 (mem_ap inT_wsL_law_r5 (mem_ap inT_wsL_law_r6 (mem_ap inT_wsL_law_r7 (mem_ap inT_wsL_law_r8 (mem_ap inT_wsL_law_r9 (mem_ap inT_wsL_law_r10 (mem_ap inT_wsL_law_r11 (mem_ap inT_wsL_law_r12 (mem_ap inT_wsL_law_r13 (mem_ap inT_wsL_law_r14 (mem_ap inT_wsL_law_r15 (mem_ap inT_wsL_law_r16 (mem_ap inT_wsL_law_r17 (mem_ap inT_wsL_law_r18 (mem_ap inT_wsL_law_r19 inT_wsL_law_r20))))))))))))))))))) inT_wsX20) inT_wsX30) inT_wsX10) inT_wsX00) (fun _ h => by cases h))
theorem inlX0 : ∀ w ∈ wsX00, w ∈ wsL_law := fun _ h => List.mem_append_left _ (List.mem_append_right _ h)
theorem inX0 : ∀ w ∈ wsX00, w ∈ lw_tbl := fun w h => wsL_law_in w (inlX0 w h)
theorem inlX1 : ∀ w ∈ wsX10, w ∈ wsL_law := fun _ h => List.mem_append_left _ (List.mem_append_left _ (List.mem_append_right _ h))
theorem inX1 : ∀ w ∈ wsX10, w ∈ lw_tbl := fun w h => wsL_law_in w (inlX1 w h)
theorem inlX2 : ∀ w ∈ wsX20, w ∈ wsL_law := fun _ h => List.mem_append_left _ (List.mem_append_left _ (List.mem_append_left _ (List.mem_append_left _ (List.mem_append_right _ h))))
theorem inX2 : ∀ w ∈ wsX20, w ∈ lw_tbl := fun w h => wsL_law_in w (inlX2 w h)
theorem inlX3 : ∀ w ∈ wsX30, w ∈ wsL_law := fun _ h => List.mem_append_left _ (List.mem_append_left _ (List.mem_append_left _ (List.mem_append_right _ h)))
theorem inX3 : ∀ w ∈ wsX30, w ∈ lw_tbl := fun w h => wsL_law_in w (inlX3 w h)
