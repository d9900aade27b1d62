theorem mem_pl {big : List Cond} (ws : List Cond) (ps : List Nat) (hp : ws = ps.filterMap (fun i => big[i]?)) : ∀ w ∈ ws, w ∈ big := by
  intro w hw
  rw [hp] at hw
  obtain ⟨i, -, hi⟩ := List.mem_filterMap.mp hw
  exact List.mem_of_getElem? hi
theorem mem_ap {big a b : List Cond} (ha : ∀ w ∈ a, w ∈ big) (hb : ∀ w ∈ b, w ∈ big) : ∀ w ∈ a ++ b, w ∈ big := fun w h => (List.mem_append.mp h).elim (ha w) (hb w)
set_option maxRecDepth 20000 in
theorem inT_wsL_law_r1 : ∀ w ∈ wsL_law_r1, w ∈ lw_tbl := mem_pl _ [28, 29, 23, 350, 351, 26, 30, 31, 32, 33, 34, 35, 36, 89, 38, 90, 40, 24, 59, 25, 42, 43, 44, 58] (by decide +kernel)
set_option maxRecDepth 20000 in
theorem inT_wsL_law_r2 : ∀ w ∈ wsL_law_r2, w ∈ lw_tbl := mem_pl _ [45, 61, 62, 63, 70, 352, 353, 354, 355, 356, 357, 359, 360, 361, 362, 363, 364, 365, 366, 111, 112, 113, 114, 115] (by decide +kernel)
set_option maxRecDepth 20000 in
theorem inT_wsL_law_r3 : ∀ w ∈ wsL_law_r3, w ∈ lw_tbl := mem_pl _ [117, 0, 118, 119, 120, 121, 122, 123, 124, 125, 46, 126, 128, 1, 129, 91, 130, 131, 132, 133, 134, 136, 2, 137] (by decide +kernel)
set_option maxRecDepth 20000 in
theorem inT_wsL_law_r4 : ∀ w ∈ wsL_law_r4, w ∈ lw_tbl := mem_pl _ [49, 390, 391, 392, 393, 394, 395, 396, 397, 398, 399, 400, 401, 402, 403, 405, 10, 406, 358, 407, 409, 11, 410, 411] (by decide +kernel)
set_option maxRecDepth 20000 in
theorem inT_wsL_law_r5 : ∀ w ∈ wsL_law_r5, w ∈ lw_tbl := mem_pl _ [413, 12, 414, 415, 417, 13, 418, 138, 139, 140, 141, 142, 143, 144, 145, 147, 3, 148, 149, 151, 4, 152, 92, 93] (by decide +kernel)
set_option maxRecDepth 20000 in
theorem inT_wsL_law_r6 : ∀ w ∈ wsL_law_r6, w ∈ lw_tbl := mem_pl _ [94, 95, 153, 154, 155, 156, 419, 420, 421, 422, 423, 425, 14, 426, 157, 158, 159, 160, 161, 162, 163, 164, 165, 166] (by decide +kernel)
set_option maxRecDepth 20000 in
theorem inT_wsL_law_r7 : ∀ w ∈ wsL_law_r7, w ∈ lw_tbl := mem_pl _ [167, 168, 427, 428, 429, 430, 431, 433, 15, 434, 169, 170, 171, 172, 173, 174, 175, 176, 435, 436, 437, 438, 177, 178] (by decide +kernel)
set_option maxRecDepth 20000 in
theorem inT_wsL_law_r8 : ∀ w ∈ wsL_law_r8, w ∈ lw_tbl := mem_pl _ [179, 180, 181, 182, 183, 184, 439, 440, 441, 442, 185, 186, 187, 188, 189, 190, 191, 192, 443, 444, 445, 446, 193, 194] (by decide +kernel)
set_option maxRecDepth 20000 in
theorem inT_wsL_law_r9 : ∀ w ∈ wsL_law_r9, w ∈ lw_tbl := mem_pl _ [195, 196, 447, 448, 449, 450, 197, 198, 199, 200, 201, 202, 203, 204, 451, 452, 453, 454, 455, 457, 16, 458, 205, 206] (by decide +kernel)
set_option maxRecDepth 20000 in
theorem inT_wsL_law_r10 : ∀ w ∈ wsL_law_r10, w ∈ lw_tbl := mem_pl _ [207, 208, 209, 210, 211, 459, 460, 461, 462, 212, 213, 214, 215, 463, 464, 465, 466, 216, 217, 218, 219, 220, 221, 222] (by decide +kernel)
set_option maxRecDepth 20000 in
theorem inT_wsL_law_r11 : ∀ w ∈ wsL_law_r11, w ∈ lw_tbl := mem_pl _ [223, 467, 468, 469, 470, 471, 472, 473, 224, 225, 226, 227, 228, 474, 475, 476, 477, 229, 230, 231, 232, 233, 234, 235] (by decide +kernel)
set_option maxRecDepth 20000 in
theorem inT_wsL_law_r12 : ∀ w ∈ wsL_law_r12, w ∈ lw_tbl := mem_pl _ [236, 64, 237, 238, 239, 240, 478, 479, 480, 481, 482, 484, 17, 485, 241, 242, 243, 244, 245, 246, 247, 248, 249, 486] (by decide +kernel)
set_option maxRecDepth 20000 in
theorem inT_wsL_law_r13 : ∀ w ∈ wsL_law_r13, w ∈ lw_tbl := mem_pl _ [487, 488, 489, 250, 251, 252, 253, 254, 255, 256, 257, 258, 259, 27, 260, 490, 491, 492, 493, 261, 262, 263, 264, 265] (by decide +kernel)
set_option maxRecDepth 20000 in
theorem inT_wsL_law_r14 : ∀ w ∈ wsL_law_r14, w ∈ lw_tbl := mem_pl _ [266, 267, 268, 494, 495, 496, 497, 269, 270, 271, 272, 498, 499, 500, 501, 273, 274, 275, 276, 277, 278, 279, 280, 281] (by decide +kernel)
set_option maxRecDepth 20000 in
theorem inT_wsL_law_r15 : ∀ w ∈ wsL_law_r15, w ∈ lw_tbl := mem_pl _ [502, 503, 504, 505, 506, 282, 283, 284, 285, 286, 288, 5, 289, 290, 291, 292, 293, 66, 68, 74, 507, 508, 509, 510] (by decide +kernel)
set_option maxRecDepth 20000 in
theorem inT_wsL_law_r16 : ∀ w ∈ wsL_law_r16, w ∈ lw_tbl := mem_pl _ [511, 512, 513, 294, 295, 296, 297, 298, 300, 6, 301, 302, 303, 304, 305, 72, 514, 515, 516, 517, 518, 520, 18, 521] (by decide +kernel)
set_option maxRecDepth 20000 in
theorem inT_wsL_law_r17 : ∀ w ∈ wsL_law_r17, w ∈ lw_tbl := mem_pl _ [522, 524, 19, 525, 306, 307, 308, 309, 526, 527, 528, 529, 310, 311, 312, 313, 530, 531, 532, 533, 314, 315, 316, 317] (by decide +kernel)
set_option maxRecDepth 20000 in
theorem inT_wsL_law_r18 : ∀ w ∈ wsL_law_r18, w ∈ lw_tbl := mem_pl _ [318, 320, 7, 321, 534, 535, 536, 537, 538, 540, 20, 541, 322, 323, 324, 325, 542, 543, 544, 545, 326, 327, 328, 329] (by decide +kernel)
set_option maxRecDepth 20000 in
theorem inT_wsL_law_r19 : ∀ w ∈ wsL_law_r19, w ∈ lw_tbl := mem_pl _ [546, 547, 548, 549, 330, 331, 332, 333, 334, 335, 336, 337, 550, 551, 552, 553, 338, 339, 340, 341, 342, 344, 8, 345] (by decide +kernel)
set_option maxRecDepth 20000 in
theorem inT_wsL_law_r20 : ∀ w ∈ wsL_law_r20, w ∈ lw_tbl := mem_pl _ [346, 348, 9, 349, 554, 555, 556, 557, 558, 560, 21, 561] (by decide +kernel)
set_option maxRecDepth 20000 in
theorem inT_wsX00 : ∀ w ∈ wsX00, w ∈ lw_tbl := mem_pl _ [76, 78, 80, 82, 84, 86] (by decide +kernel)
set_option maxRecDepth 20000 in
theorem inT_wsX10 : ∀ w ∈ wsX10, w ∈ lw_tbl := mem_pl _ [51, 53, 55] (by decide +kernel)
set_option maxRecDepth 20000 in
theorem inT_wsX20 : ∀ w ∈ wsX20, w ∈ lw_tbl := mem_pl _ [96, 98, 100, 102, 104, 106, 108] (by decide +kernel)
set_option maxRecDepth 20000 in
theorem inT_wsX30 : ∀ w ∈ wsX30, w ∈ lw_tbl := mem_pl _ [367, 369, 371, 373, 375, 377, 379, 381, 383, 385, 387] (by decide +kernel)
theorem wsL_law_in : ∀ w ∈ wsL_law, w ∈ lw_tbl := (mem_ap (mem_ap (mem_ap (mem_ap (mem_ap (mem_ap inT_wsL_law_r1 (mem_ap inT_wsL_law_r2 (mem_ap inT_wsL_law_r3 (mem_ap inT_wsL_law_r4 (mem_ap inT_wsL_law_r5 (mem_ap inT_wsL_law_r6 (mem_ap inT_wsL_law_r7 (mem_ap inT_wsL_law_r8 (mem_ap inT_wsL_law_r9 (mem_ap inT_wsL_law_r10 (mem_ap inT_wsL_law_r11 (mem_ap inT_wsL_law_r12 (mem_ap inT_wsL_law_r13 (mem_ap inT_wsL_law_r14 (mem_ap inT_wsL_law_r15 (mem_ap inT_wsL_law_r16 (mem_ap inT_wsL_law_r17 (mem_ap inT_wsL_law_r18 (mem_ap inT_wsL_law_r19 inT_wsL_law_r20))))))))))))))))))) inT_wsX20) inT_wsX30) inT_wsX10) inT_wsX00) (fun _ h => by cases h))
theorem inlX0 : ∀ w ∈ wsX00, w ∈ wsL_law := fun _ h => List.mem_append_left _ (List.mem_append_right _ h)
theorem inX0 : ∀ w ∈ wsX00, w ∈ lw_tbl := fun w h => wsL_law_in w (inlX0 w h)
theorem inlX1 : ∀ w ∈ wsX10, w ∈ wsL_law := fun _ h => List.mem_append_left _ (List.mem_append_left _ (List.mem_append_right _ h))
theorem inX1 : ∀ w ∈ wsX10, w ∈ lw_tbl := fun w h => wsL_law_in w (inlX1 w h)
theorem inlX2 : ∀ w ∈ wsX20, w ∈ wsL_law := fun _ h => List.mem_append_left _ (List.mem_append_left _ (List.mem_append_left _ (List.mem_append_left _ (List.mem_append_right _ h))))
theorem inX2 : ∀ w ∈ wsX20, w ∈ lw_tbl := fun w h => wsL_law_in w (inlX2 w h)
theorem inlX3 : ∀ w ∈ wsX30, w ∈ wsL_law := fun _ h => List.mem_append_left _ (List.mem_append_left _ (List.mem_append_left _ (List.mem_append_right _ h)))
theorem inX3 : ∀ w ∈ wsX30, w ∈ lw_tbl := fun w h => wsL_law_in w (inlX3 w h)
