theorem zin_r {big : List Cond} (ws : List Cond) (ps : List Nat) (hp : ws = ps.filterMap (fun i => big[i]?)) : ∀ w ∈ ws, w ∈ big := by
  intro w hw
  rw [hp] at hw
  obtain ⟨i, -, hi⟩ := List.mem_filterMap.mp hw
  first | exact List.mem_of_getElem? hi | exact List.getElem?_mem hi
theorem zin_a {big a b : List Cond} (ha : ∀ w ∈ a, w ∈ big) (hb : ∀ w ∈ b, w ∈ big) : ∀ w ∈ a ++ b, w ∈ big := fun w h => (List.mem_append.mp h).elim (ha w) (hb w)
theorem zin_n {big : List Cond} : ∀ w ∈ ([] : List Cond), w ∈ big := fun w h => absurd h List.not_mem_nil
set_option maxRecDepth 20000 in
theorem zi_wsL_law_r1 : ∀ w ∈ wsL_law_r1, w ∈ lw_tbl := zin_r _ [33, 34, 23, 461, 462, 29, 705, 35, 36, 37, 38, 39, 40, 41, 42, 24, 185, 186, 150, 151, 27, 187, 170, 171] (by decide +kernel)
set_option maxRecDepth 20000 in
theorem zi_wsL_law_r2 : ∀ w ∈ wsL_law_r2, w ∈ lw_tbl := zin_r _ [28, 188, 189, 204, 190, 44, 45, 46, 72, 97, 47, 48, 25, 99, 73, 74, 26, 101, 50, 51, 52, 53, 56, 76] (by decide +kernel)
set_option maxRecDepth 20000 in
theorem zi_wsL_law_r3 : ∀ w ∈ wsL_law_r3, w ∈ lw_tbl := zin_r _ [77, 78, 79, 81, 83, 85, 153, 154, 155, 156, 159, 173, 174, 175, 184, 176, 463, 464, 465, 466, 467, 468, 469, 471] (by decide +kernel)
set_option maxRecDepth 20000 in
theorem zi_wsL_law_r4 : ∀ w ∈ wsL_law_r4, w ∈ lw_tbl := zin_r _ [472, 473, 476, 477, 205, 206, 207, 208, 209, 211, 98, 213, 214, 215, 216, 160, 161, 234, 235, 31, 236, 217, 218, 219] (by decide +kernel)
set_option maxRecDepth 20000 in
theorem zi_wsL_law_r5 : ∀ w ∈ wsL_law_r5, w ∈ lw_tbl := zin_r _ [220, 221, 223, 222, 30, 103, 105, 107, 109, 111, 113, 115, 117, 119, 121, 224, 225, 226, 227, 228, 58, 61, 229, 230] (by decide +kernel)
set_option maxRecDepth 20000 in
theorem zi_wsL_law_r6 : ∀ w ∈ wsL_law_r6, w ∈ lw_tbl := zin_r _ [231, 232, 233, 504, 505, 506, 507, 508, 509, 510, 511, 515, 516, 517, 512, 513, 514, 518, 520, 3, 521, 470, 237, 238] (by decide +kernel)
set_option maxRecDepth 20000 in
theorem zi_wsL_law_r7 : ∀ w ∈ wsL_law_r7, w ∈ lw_tbl := zin_r _ [239, 240, 100, 54, 241, 242, 243, 244, 245, 246, 247, 248, 249, 250, 251, 252, 253, 254, 255, 256, 257, 258, 259, 260] (by decide +kernel)
set_option maxRecDepth 20000 in
theorem zi_wsL_law_r8 : ∀ w ∈ wsL_law_r8, w ∈ lw_tbl := zin_r _ [32, 261, 262, 263, 264, 522, 523, 524, 525, 526, 527, 528, 529, 530, 531, 532, 533, 534, 535, 536, 537, 539, 4, 540] (by decide +kernel)
set_option maxRecDepth 20000 in
theorem zi_wsL_law_r9 : ∀ w ∈ wsL_law_r9, w ∈ lw_tbl := zin_r _ [541, 543, 5, 544, 265, 266, 267, 268, 106, 545, 546, 547, 548, 549, 269, 270, 271, 272, 102, 80, 550, 551, 552, 553] (by decide +kernel)
set_option maxRecDepth 20000 in
theorem zi_wsL_law_r10 : ∀ w ∈ wsL_law_r10, w ∈ lw_tbl := zin_r _ [273, 274, 275, 276, 104, 114, 277, 278, 279, 280, 281, 282, 283, 284, 285, 59, 55, 286, 287, 288, 289, 290, 291, 292] (by decide +kernel)
set_option maxRecDepth 20000 in
theorem zi_wsL_law_r11 : ∀ w ∈ wsL_law_r11, w ∈ lw_tbl := zin_r _ [293, 294, 295, 296, 297, 298, 86, 299, 300, 301, 302, 303, 304, 305, 306, 307, 308, 309, 310, 311, 312, 313, 314, 315] (by decide +kernel)
set_option maxRecDepth 20000 in
theorem zi_wsL_law_r12 : ∀ w ∈ wsL_law_r12, w ∈ lw_tbl := zin_r _ [316, 317, 318, 319, 320, 321, 554, 555, 556, 557, 558, 559, 560, 562, 6, 563, 564, 566, 7, 567, 568, 570, 8, 571] (by decide +kernel)
set_option maxRecDepth 20000 in
theorem zi_wsL_law_r13 : ∀ w ∈ wsL_law_r13, w ∈ lw_tbl := zin_r _ [572, 574, 9, 575, 576, 578, 10, 579, 580, 582, 11, 583, 584, 586, 12, 587, 322, 323, 324, 325, 60, 326, 588, 589] (by decide +kernel)
set_option maxRecDepth 20000 in
theorem zi_wsL_law_r14 : ∀ w ∈ wsL_law_r14, w ∈ lw_tbl := zin_r _ [590, 591, 327, 328, 329, 330, 108, 331, 592, 593, 594, 595, 332, 333, 334, 335, 336, 337, 338, 339, 177, 340, 341, 342] (by decide +kernel)
set_option maxRecDepth 20000 in
theorem zi_wsL_law_r15 : ∀ w ∈ wsL_law_r15, w ∈ lw_tbl := zin_r _ [343, 344, 345, 347, 348, 349, 350, 352, 353, 354, 355, 356, 357, 358, 359, 360, 361, 685, 686, 687, 688, 478, 474, 689] (by decide +kernel)
set_option maxRecDepth 20000 in
theorem zi_wsL_law_r16 : ∀ w ∈ wsL_law_r16, w ∈ lw_tbl := zin_r _ [670, 671, 672, 475, 673, 675, 19, 676, 677, 679, 20, 680, 681, 683, 21, 684, 620, 622, 15, 623, 362, 363, 364, 365] (by decide +kernel)
set_option maxRecDepth 20000 in
theorem zi_wsL_law_r17 : ∀ w ∈ wsL_law_r17, w ∈ lw_tbl := zin_r _ [366, 367, 368, 369, 370, 371, 31, 372, 596, 597, 598, 599, 600, 602, 13, 603, 373, 374, 375, 376, 57, 377, 604, 605] (by decide +kernel)
set_option maxRecDepth 20000 in
theorem zi_wsL_law_r18 : ∀ w ∈ wsL_law_r18, w ∈ lw_tbl := zin_r _ [606, 607, 378, 379, 380, 381, 82, 84, 87, 382, 383, 384, 385, 608, 609, 610, 611, 612, 614, 14, 615, 386, 387, 388] (by decide +kernel)
set_option maxRecDepth 20000 in
theorem zi_wsL_law_r19 : ∀ w ∈ wsL_law_r19, w ∈ lw_tbl := zin_r _ [389, 110, 112, 116, 118, 120, 122, 62, 178, 162, 390, 391, 392, 393, 616, 617, 618, 619, 628, 624, 626, 16, 627, 394] (by decide +kernel)
set_option maxRecDepth 20000 in
theorem zi_wsL_law_r20 : ∀ w ∈ wsL_law_r20, w ∈ lw_tbl := zin_r _ [395, 396, 397, 398, 629, 630, 631, 632, 633, 635, 17, 636, 637, 639, 18, 640, 399, 400, 401, 402, 641, 642, 643, 644] (by decide +kernel)
set_option maxRecDepth 20000 in
theorem zi_wsL_law_r21 : ∀ w ∈ wsL_law_r21, w ∈ lw_tbl := zin_r _ [645, 403, 404, 405, 406, 407, 408, 410, 0, 411, 646, 647, 648, 649, 650, 412, 413, 414, 415, 416, 418, 1, 419, 420] (by decide +kernel)
set_option maxRecDepth 20000 in
theorem zi_wsL_law_r22 : ∀ w ∈ wsL_law_r22, w ∈ lw_tbl := zin_r _ [421, 423, 2, 424, 651, 652, 653, 654, 425, 426, 427, 428, 429, 430, 431, 432, 433, 434, 435, 436, 655, 656, 657, 658] (by decide +kernel)
set_option maxRecDepth 20000 in
theorem zi_wsL_law_r23 : ∀ w ∈ wsL_law_r23, w ∈ lw_tbl := zin_r _ [662, 659, 660, 661, 663, 664, 437, 438, 439, 440, 665, 666, 667, 668, 441, 442, 443, 444, 669, 445, 446, 447, 448, 449] (by decide +kernel)
set_option maxRecDepth 20000 in
theorem zi_wsL_law_r24 : ∀ w ∈ wsL_law_r24, w ∈ lw_tbl := zin_r _ [450, 451, 452, 690, 691, 692, 693, 453, 454, 455, 456, 694, 695, 696, 697, 698, 699, 700, 457, 458, 459, 460, 701, 702] (by decide +kernel)
set_option maxRecDepth 20000 in
theorem zi_wsL_law_r25 : ∀ w ∈ wsL_law_r25, w ∈ lw_tbl := zin_r _ [703, 704] (by decide +kernel)
set_option maxRecDepth 20000 in
theorem zi_wsX00 : ∀ w ∈ wsX00, w ∈ lw_tbl := zin_r _ [123, 125, 127, 129, 131, 133, 135, 137, 139, 141, 143, 145, 147] (by decide +kernel)
set_option maxRecDepth 20000 in
theorem zi_wsX10 : ∀ w ∈ wsX10, w ∈ lw_tbl := zin_r _ [63, 65, 67, 69] (by decide +kernel)
set_option maxRecDepth 20000 in
theorem zi_wsX20 : ∀ w ∈ wsX20, w ∈ lw_tbl := zin_r _ [163, 165, 167] (by decide +kernel)
set_option maxRecDepth 20000 in
theorem zi_wsX30 : ∀ w ∈ wsX30, w ∈ lw_tbl := zin_r _ [179, 181] (by decide +kernel)
set_option maxRecDepth 20000 in
theorem zi_wsX40 : ∀ w ∈ wsX40, w ∈ lw_tbl := zin_r _ [88, 90, 92, 94] (by decide +kernel)
set_option maxRecDepth 20000 in
theorem zi_wsX50 : ∀ w ∈ wsX50, w ∈ lw_tbl := zin_r _ [191, 193, 195, 197, 199, 201] (by decide +kernel)
set_option maxRecDepth 20000 in
theorem zi_wsX60 : ∀ w ∈ wsX60, w ∈ lw_tbl := zin_r _ [479, 481, 483, 485, 487, 489, 491, 493, 495, 497, 499, 501] (by decide +kernel)
theorem wsL_law_in : ∀ w ∈ wsL_law, w ∈ lw_tbl := (zin_a (zin_a (zin_a (zin_a (zin_a (zin_a (zin_a (zin_a (zin_a zi_wsL_law_r1 (zin_a zi_wsL_law_r2 (zin_a zi_wsL_law_r3 (zin_a zi_wsL_law_r4 (zin_a zi_wsL_law_r5 (zin_a zi_wsL_law_r6 (zin_a zi_wsL_law_r7 (zin_a zi_wsL_law_r8 (zin_a zi_wsL_law_r9 (zin_a zi_wsL_law_r10 (zin_a zi_wsL_law_r11 (zin_a zi_wsL_law_r12 (zin_a zi_wsL_law_r13 (zin_a zi_wsL_law_r14 (zin_a zi_wsL_law_r15 (zin_a zi_wsL_law_r16 (zin_a zi_wsL_law_r17 (zin_a zi_wsL_law_r18 (zin_a zi_wsL_law_r19 (zin_a zi_wsL_law_r20 (zin_a zi_wsL_law_r21 (zin_a zi_wsL_law_r22 (zin_a zi_wsL_law_r23 (zin_a zi_wsL_law_r24 zi_wsL_law_r25)))))))))))))))))))))))) zi_wsX50) zi_wsX60) zi_wsX00) zi_wsX20) zi_wsX30) zi_wsX10) zi_wsX40) zin_n)
theorem inlX0 : ∀ w ∈ wsX00, w ∈ wsL_law := fun _ h => List.mem_append_left _ (List.mem_append_left _ (List.mem_append_left _ (List.mem_append_left _ (List.mem_append_left _ (List.mem_append_right _ h)))))
theorem inX0 : ∀ w ∈ wsX00, w ∈ lw_tbl := fun w h => wsL_law_in w (inlX0 w h)
theorem inlX1 : ∀ w ∈ wsX10, w ∈ wsL_law := fun _ h => List.mem_append_left _ (List.mem_append_left _ (List.mem_append_right _ h))
theorem inX1 : ∀ w ∈ wsX10, w ∈ lw_tbl := fun w h => wsL_law_in w (inlX1 w h)
theorem inlX2 : ∀ w ∈ wsX20, w ∈ wsL_law := fun _ h => List.mem_append_left _ (List.mem_append_left _ (List.mem_append_left _ (List.mem_append_left _ (List.mem_append_right _ h))))
theorem inX2 : ∀ w ∈ wsX20, w ∈ lw_tbl := fun w h => wsL_law_in w (inlX2 w h)
theorem inlX3 : ∀ w ∈ wsX30, w ∈ wsL_law := fun _ h => List.mem_append_left _ (List.mem_append_left _ (List.mem_append_left _ (List.mem_append_right _ h)))
theorem inX3 : ∀ w ∈ wsX30, w ∈ lw_tbl := fun w h => wsL_law_in w (inlX3 w h)
theorem inlX4 : ∀ w ∈ wsX40, w ∈ wsL_law := fun _ h => List.mem_append_left _ (List.mem_append_right _ h)
theorem inX4 : ∀ w ∈ wsX40, w ∈ lw_tbl := fun w h => wsL_law_in w (inlX4 w h)
theorem inlX5 : ∀ w ∈ wsX50, w ∈ wsL_law := fun _ h => List.mem_append_left _ (List.mem_append_left _ (List.mem_append_left _ (List.mem_append_left _ (List.mem_append_left _ (List.mem_append_left _ (List.mem_append_left _ (List.mem_append_right _ h)))))))
theorem inX5 : ∀ w ∈ wsX50, w ∈ lw_tbl := fun w h => wsL_law_in w (inlX5 w h)
theorem inlX6 : ∀ w ∈ wsX60, w ∈ wsL_law := fun _ h => List.mem_append_left _ (List.mem_append_left _ (List.mem_append_left _ (List.mem_append_left _ (List.mem_append_left _ (List.mem_append_left _ (List.mem_append_right _ h))))))
theorem inX6 : ∀ w ∈ wsX60, w ∈ lw_tbl := fun w h => wsL_law_in w (inlX6 w h)
theorem inJ6 : ∀ w ∈ wsJ60, w ∈ lw_tbl := by decide +kernel
theorem inJ9 : ∀ w ∈ wsJ90, w ∈ lw_tbl := by decide +kernel
theorem inJ10 : ∀ w ∈ wsJ100, w ∈ lw_tbl := by decide +kernel
