theorem zin_r {big : List Cond} (ws : List Cond) (ps : List Nat) (hp : ws = ps.filterMap (fun i => big[i]?)) : ∀ w ∈ ws, w ∈ big := by
  intro w hw
  rw [hp] at hw
  obtain ⟨i, -, hi⟩ := List.mem_filterMap.mp hw
  first | exact List.mem_of_getElem? hi | exact List.getElem?_mem hi
theorem zin_a {big a b : List Cond} (ha : ∀ w ∈ a, w ∈ big) (hb : ∀ w ∈ b, w ∈ big) : ∀ w ∈ a ++ b, w ∈ big := fun w h => (List.mem_append.mp h).elim (ha w) (hb w)
theorem zin_n {big : List Cond} : ∀ w ∈ ([] : List Cond), w ∈ big := fun w h => absurd h List.not_mem_nil
set_option maxRecDepth 20000 in
theorem zi_wsL_law_r1 : ∀ w ∈ wsL_law_r1, w ∈ lw_tbl := zin_r _ [13, 14, 4, 15, 16, 17, 18, 19, 20, 21, 22, 5, 165, 166, 130, 131, 8, 167, 150, 151, 9, 168, 169, 184] (by decide +kernel)
set_option maxRecDepth 20000 in
theorem zi_wsL_law_r2 : ∀ w ∈ wsL_law_r2, w ∈ lw_tbl := zin_r _ [170, 24, 25, 26, 52, 77, 27, 28, 6, 79, 53, 54, 7, 81, 30, 31, 32, 33, 36, 56, 57, 58, 59, 61] (by decide +kernel)
set_option maxRecDepth 20000 in
theorem zi_wsL_law_r3 : ∀ w ∈ wsL_law_r3, w ∈ lw_tbl := zin_r _ [63, 65, 133, 134, 135, 136, 139, 153, 154, 155, 164, 156, 185, 186, 3, 187, 188, 189, 190, 191, 192, 193, 194, 195] rfl
set_option maxRecDepth 20000 in
theorem zi_wsL_law_r4 : ∀ w ∈ wsL_law_r4, w ∈ lw_tbl := zin_r _ [196, 197, 198, 199, 78, 80, 40, 84, 86, 88, 90, 92, 94, 96, 98, 100, 102, 42, 82, 158, 142, 200, 201, 202] (by decide +kernel)
set_option maxRecDepth 20000 in
theorem zi_wsL_law_r5 : ∀ w ∈ wsL_law_r5, w ∈ lw_tbl := zin_r _ [203, 204, 205, 206, 207, 208, 209, 210, 211, 212, 10, 213, 214, 215, 216, 217, 218, 219, 220, 221, 222, 223, 224, 225] (by decide +kernel)
set_option maxRecDepth 20000 in
theorem zi_wsL_law_r6 : ∀ w ∈ wsL_law_r6, w ∈ lw_tbl := zin_r _ [227, 229, 230, 231, 232, 140, 141, 250, 251, 12, 252, 233, 234, 235, 236, 237, 239, 238, 11, 83, 85, 87, 89, 91] (by decide +kernel)
set_option maxRecDepth 20000 in
theorem zi_wsL_law_r7 : ∀ w ∈ wsL_law_r7, w ∈ lw_tbl := zin_r _ [93, 95, 97, 99, 101, 240, 241, 242, 243, 244, 38, 41, 245, 246, 247, 248, 249, 253, 254, 255, 256, 257, 258, 259] (by decide +kernel)
set_option maxRecDepth 20000 in
theorem zi_wsL_law_r8 : ∀ w ∈ wsL_law_r8, w ∈ lw_tbl := zin_r _ [260, 261, 262, 263, 60, 62, 64, 67, 264, 265, 266, 267, 268, 269, 270, 271, 272, 273, 274, 275, 276, 277, 278, 279] (by decide +kernel)
set_option maxRecDepth 20000 in
theorem zi_wsL_law_r9 : ∀ w ∈ wsL_law_r9, w ∈ lw_tbl := zin_r _ [280, 281, 282, 283, 284, 285, 286, 287, 288, 289, 290, 291, 292, 293, 294, 295, 296, 297, 298, 299, 300, 301, 302, 303] (by decide +kernel)
set_option maxRecDepth 20000 in
theorem zi_wsL_law_r10 : ∀ w ∈ wsL_law_r10, w ∈ lw_tbl := zin_r _ [304, 305, 306, 307, 308, 309, 318, 331, 332, 310, 311, 312, 313, 314, 315, 316, 317, 157, 319, 320, 321, 322, 323, 324] (by decide +kernel)
set_option maxRecDepth 20000 in
theorem zi_wsL_law_r11 : ∀ w ∈ wsL_law_r11, w ∈ lw_tbl := zin_r _ [325, 326, 327, 328, 329, 330, 333, 334, 335, 336, 337, 338, 339, 340, 341, 342, 343, 344, 345, 346, 348, 349, 350, 351] (by decide +kernel)
set_option maxRecDepth 20000 in
theorem zi_wsL_law_r12 : ∀ w ∈ wsL_law_r12, w ∈ lw_tbl := zin_r _ [353, 354, 355, 356, 357, 358, 359, 360, 361, 362, 363, 364, 365, 366, 367, 368, 369, 370, 371, 39, 35, 372, 373, 374] (by decide +kernel)
set_option maxRecDepth 20000 in
theorem zi_wsL_law_r13 : ∀ w ∈ wsL_law_r13, w ∈ lw_tbl := zin_r _ [375, 376, 377, 378, 379, 380, 381, 382, 383, 384, 66, 385, 386, 387, 388, 389, 390, 391, 392, 393, 394, 395, 396, 397] (by decide +kernel)
set_option maxRecDepth 20000 in
theorem zi_wsL_law_r14 : ∀ w ∈ wsL_law_r14, w ∈ lw_tbl := zin_r _ [398, 399, 400, 401, 402, 37, 403, 404, 405, 406, 407, 408, 34, 409, 410, 411, 412, 12, 413, 414, 415, 416, 417, 418] (by decide +kernel)
set_option maxRecDepth 20000 in
theorem zi_wsL_law_r15 : ∀ w ∈ wsL_law_r15, w ∈ lw_tbl := zin_r _ [452, 453, 454, 426, 427, 428, 429, 430, 432, 0, 433, 434, 435, 437, 1, 438, 422, 423, 424, 425, 419, 420, 421, 439] rfl
set_option maxRecDepth 20000 in
theorem zi_wsL_law_r16 : ∀ w ∈ wsL_law_r16, w ∈ lw_tbl := zin_r _ [440, 441, 442, 443, 444, 445, 446, 447, 448, 450, 2, 451] (by decide +kernel)
set_option maxRecDepth 20000 in
theorem zi_wsX00 : ∀ w ∈ wsX00, w ∈ lw_tbl := zin_r _ [103, 105, 107, 109, 111, 113, 115, 117, 119, 121, 123, 125, 127] (by decide +kernel)
set_option maxRecDepth 20000 in
theorem zi_wsX10 : ∀ w ∈ wsX10, w ∈ lw_tbl := zin_r _ [43, 45, 47, 49] (by decide +kernel)
set_option maxRecDepth 20000 in
theorem zi_wsX20 : ∀ w ∈ wsX20, w ∈ lw_tbl := zin_r _ [143, 145, 147] (by decide +kernel)
set_option maxRecDepth 20000 in
theorem zi_wsX30 : ∀ w ∈ wsX30, w ∈ lw_tbl := zin_r _ [159, 161] (by decide +kernel)
set_option maxRecDepth 20000 in
theorem zi_wsX40 : ∀ w ∈ wsX40, w ∈ lw_tbl := zin_r _ [68, 70, 72, 74] (by decide +kernel)
set_option maxRecDepth 20000 in
theorem zi_wsX50 : ∀ w ∈ wsX50, w ∈ lw_tbl := zin_r _ [171, 173, 175, 177, 179, 181] (by decide +kernel)
set_option maxRecDepth 20000 in
theorem zi_wsX60 : ∀ w ∈ wsX60, w ∈ lw_tbl := zin_r _ [] (by decide +kernel)
theorem wsL_law_in : ∀ w ∈ wsL_law, w ∈ lw_tbl := (zin_a (zin_a (zin_a (zin_a (zin_a (zin_a (zin_a (zin_a zi_wsL_law_r1 (zin_a zi_wsL_law_r2 (zin_a zi_wsL_law_r3 (zin_a zi_wsL_law_r4 (zin_a zi_wsL_law_r5 (zin_a zi_wsL_law_r6 (zin_a zi_wsL_law_r7 (zin_a zi_wsL_law_r8 (zin_a zi_wsL_law_r9 (zin_a zi_wsL_law_r10 (zin_a zi_wsL_law_r11 (zin_a zi_wsL_law_r12 (zin_a zi_wsL_law_r13 (zin_a zi_wsL_law_r14 (zin_a zi_wsL_law_r15 zi_wsL_law_r16))))))))))))))) zi_wsX50) zi_wsX00) zi_wsX20) zi_wsX30) zi_wsX10) zi_wsX40) zin_n)
theorem inlX0 : ∀ w ∈ wsX00, w ∈ wsL_law := fun _ h => List.mem_append_left _ (List.mem_append_left _ (List.mem_append_left _ (List.mem_append_left _ (List.mem_append_left _ (List.mem_append_right _ h)))))
theorem inX0 : ∀ w ∈ wsX00, w ∈ lw_tbl := fun w h => wsL_law_in w (inlX0 w h)
theorem inlX1 : ∀ w ∈ wsX10, w ∈ wsL_law := fun _ h => List.mem_append_left _ (List.mem_append_left _ (List.mem_append_right _ h))
theorem inX1 : ∀ w ∈ wsX10, w ∈ lw_tbl := fun w h => wsL_law_in w (inlX1 w h)
theorem inlX2 : ∀ w ∈ wsX20, w ∈ wsL_law := fun _ h => List.mem_append_left _ (List.mem_append_left _ (List.mem_append_left _ (List.mem_append_left _ (List.mem_append_right _ h))))
theorem inX2 : ∀ w ∈ wsX20, w ∈ lw_tbl := fun w h => wsL_law_in w (inlX2 w h)
theorem inlX3 : ∀ w ∈ wsX30, w ∈ wsL_law := fun _ h => List.mem_append_left _ (List.mem_append_left _ (List.mem_append_left _ (List.mem_append_right _ h)))
theorem inX3 : ∀ w ∈ wsX30, w ∈ lw_tbl := fun w h => wsL_law_in w (inlX3 w h)
theorem inlX4 : ∀ w ∈ wsX40, w ∈ wsL_law := fun _ h => List.mem_append_left _ (List.mem_append_right _ h)
theorem inX4 : ∀ w ∈ wsX40, w ∈ lw_tbl := fun w h => wsL_law_in w (inlX4 w h)
theorem inlX5 : ∀ w ∈ wsX50, w ∈ wsL_law := fun _ h => List.mem_append_left _ (List.mem_append_left _ (List.mem_append_left _ (List.mem_append_left _ (List.mem_append_left _ (List.mem_append_left _ (List.mem_append_right _ h))))))
theorem inX5 : ∀ w ∈ wsX50, w ∈ lw_tbl := fun w h => wsL_law_in w (inlX5 w h)
theorem inX6 : ∀ w ∈ wsX60, w ∈ lw_tbl := by decide +kernel
theorem inJ6 : ∀ w ∈ wsJ60, w ∈ lw_tbl := by decide +kernel
theorem inJ9 : ∀ w ∈ wsJ90, w ∈ lw_tbl := by decide +kernel
theorem inJ10 : ∀ w ∈ wsJ100, w ∈ lw_tbl := by decide +kernel
