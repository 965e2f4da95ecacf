theorem mem_r {ws : List Cond} (ps : List Nat) (hp : ws = ps.filterMap (fun i => lw_tbl[i]?)) : ∀ w ∈ ws, w ∈ lw_tbl := by
  intro w hw
  rw [hp] at hw
  obtain ⟨i, -, hi⟩ := List.mem_filterMap.mp hw
  exact List.mem_of_getElem? hi
theorem lin_wsL_law_r1 : ∀ w ∈ wsL_law_r1, w ∈ lw_tbl := mem_r [20, 21, 13, 22, 23, 24, 25, 26, 27, 28, 29, 14, 132, 133, 79, 80, 15, 134, 99, 100, 16, 135, 30, 31] (by decide +kernel)
theorem lin_wsL_law_r2 : ∀ w ∈ wsL_law_r2, w ∈ lw_tbl := mem_r [32, 33, 34, 78, 36, 38, 40, 42, 44, 81, 82, 83, 84, 85, 88, 87, 102, 103, 104, 131, 105, 106, 328, 329] (by decide +kernel)
theorem lin_wsL_law_r3 : ∀ w ∈ wsL_law_r3, w ∈ lw_tbl := mem_r [330, 331, 332, 333, 334, 335, 90, 89, 153, 154, 155, 156, 46, 48, 50, 52, 55, 157, 158, 159, 160, 161, 17, 162] (by decide +kernel)
theorem lin_wsL_law_r4 : ∀ w ∈ wsL_law_r4, w ∈ lw_tbl := mem_r [163, 165, 164, 18, 319, 320, 321, 322, 323, 324, 325, 326, 327, 281, 282, 283, 348, 349, 350, 351, 317, 352, 353, 354] (by decide +kernel)
theorem lin_wsL_law_r5 : ∀ w ∈ wsL_law_r5, w ∈ lw_tbl := mem_r [355, 110, 112, 114, 109, 107, 356, 358, 9, 359, 360, 361, 362, 363, 365, 10, 366, 367, 368, 369, 370, 372, 11, 373] (by decide +kernel)
theorem lin_wsL_law_r6 : ∀ w ∈ wsL_law_r6, w ∈ lw_tbl := mem_r [374, 213, 214, 215, 170, 171, 172, 173, 217, 218, 219, 220, 221, 222, 223, 224, 19, 225, 226, 228, 2, 229, 375, 235] (by decide +kernel)
theorem lin_wsL_law_r7 : ∀ w ∈ wsL_law_r7, w ∈ lw_tbl := mem_r [236, 237, 376, 264, 265, 266, 267, 268, 269, 270, 271, 272, 274, 4, 275, 204, 206, 1, 207, 276, 278, 5, 279, 280] (by decide +kernel)
theorem lin_wsL_law_r8 : ∀ w ∈ wsL_law_r8, w ∈ lw_tbl := mem_r [284, 285, 286, 287, 288, 290, 6, 291, 292, 294, 7, 295, 296, 298, 8, 299, 250, 252, 3, 253, 377, 187, 188, 189] (by decide +kernel)
theorem lin_wsL_law_r9 : ∀ w ∈ wsL_law_r9, w ∈ lw_tbl := mem_r [190, 378, 379, 380, 381, 149, 150, 151, 152, 174, 176, 0, 177, 178, 179, 180, 181, 313, 314, 315, 316, 318, 399, 400] (by decide +kernel)
theorem lin_wsL_law_r10 : ∀ w ∈ wsL_law_r10, w ∈ lw_tbl := mem_r [12, 401, 402, 425, 390, 391, 392, 393, 394, 395, 396, 397, 398, 195, 196, 197, 198, 199, 200, 201, 202, 203, 191, 192] (by decide +kernel)
theorem lin_wsL_law_r11 : ∀ w ∈ wsL_law_r11, w ∈ lw_tbl := mem_r [193, 194, 254, 255, 256, 257, 258, 247, 248, 249, 145, 146, 147, 148, 166, 167, 168, 169, 182, 183, 184, 185, 186, 403] (by decide +kernel)
theorem lin_wsL_law_r12 : ∀ w ∈ wsL_law_r12, w ∈ lw_tbl := mem_r [404, 405, 406, 407, 408, 409, 410, 208, 209, 210, 211, 212, 230, 231, 232, 233, 234, 238, 239, 240, 241, 242, 243, 244] (by decide +kernel)
theorem lin_wsL_law_r13 : ∀ w ∈ wsL_law_r13, w ∈ lw_tbl := mem_r [245, 246, 259, 260, 261, 262, 263, 300, 301, 302, 303, 304, 305, 306, 307, 308, 309, 310, 311, 312, 411, 412, 413, 414] (by decide +kernel)
theorem lin_wsL_law_r14 : ∀ w ∈ wsL_law_r14, w ∈ lw_tbl := mem_r [415, 416, 417, 418, 419, 420, 421, 422, 423, 424, 336, 337, 338, 339, 340, 341, 342, 343, 382, 383, 384, 385, 386, 387] (by decide +kernel)
theorem lin_wsL_law_r15 : ∀ w ∈ wsL_law_r15, w ∈ lw_tbl := mem_r [388, 389, 344, 345, 346, 347, 426, 427, 428, 429, 430, 431, 432, 433, 434] (by decide +kernel)
theorem inX0 : ∀ w ∈ wsX00, w ∈ lw_tbl := mem_r [57, 59, 61, 63, 65, 67, 69, 71, 73, 75] (by decide +kernel)
theorem inX1 : ∀ w ∈ wsX10, w ∈ lw_tbl := mem_r [92, 94, 96] (by decide +kernel)
theorem inX2 : ∀ w ∈ wsX20, w ∈ lw_tbl := mem_r [116, 118, 120, 122, 124, 126, 128] (by decide +kernel)
theorem inX3 : ∀ w ∈ wsX30, w ∈ lw_tbl := mem_r [136, 138, 140, 142] (by decide +kernel)
theorem fm_app {a b : List Cond} (ha : ∀ w ∈ a, w ∈ lw_tbl) (hb : ∀ w ∈ b, w ∈ lw_tbl) : ∀ w ∈ a ++ b, w ∈ lw_tbl := fun w h => (List.mem_append.mp h).elim (ha w) (hb w)
theorem fm_nil : ∀ w ∈ ([] : List Cond), w ∈ lw_tbl := fun w h => absurd h List.not_mem_nil
theorem wsL_law_in : ∀ w ∈ wsL_law, w ∈ lw_tbl := (fm_app (fm_app (fm_app (fm_app (fm_app (fm_app lin_wsL_law_r1 (fm_app lin_wsL_law_r2 (fm_app lin_wsL_law_r3 (fm_app lin_wsL_law_r4 (fm_app lin_wsL_law_r5 (fm_app lin_wsL_law_r6 (fm_app lin_wsL_law_r7 (fm_app lin_wsL_law_r8 (fm_app lin_wsL_law_r9 (fm_app lin_wsL_law_r10 (fm_app lin_wsL_law_r11 (fm_app lin_wsL_law_r12 (fm_app lin_wsL_law_r13 (fm_app lin_wsL_law_r14 lin_wsL_law_r15)))))))))))))) inX3) inX0) inX1) inX2) fm_nil)
