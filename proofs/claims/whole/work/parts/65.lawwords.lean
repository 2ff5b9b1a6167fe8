/-! the words of the law among the tables, by their places -/
set_option maxRecDepth 20000 in
theorem lwi_r1 : ∀ w ∈ wsL_law0_r1, w ∈ lw_tbl := fun w h => (goodIn_c wsL_law0_r1 [39, 42] [35, 36, 23, 488, 489, 29, 113, 704, 37, 38, 40, 41, 43, 44, 24, 207, 114, 115, 27, 208, 139, 140] rfl (by decide +kernel) (by decide +kernel) w h).1
set_option maxRecDepth 20000 in
theorem lwi_r2 : ∀ w ∈ wsL_law0_r2, w ∈ lw_tbl := fun w h => (goodIn_c wsL_law0_r2 [47, 52] [28, 209, 45, 46, 48, 112, 64, 67, 71, 75, 78, 81, 84, 87, 49, 50, 51, 58, 60, 59, 26, 90] rfl (by decide +kernel) (by decide +kernel) w h).1
set_option maxRecDepth 20000 in
theorem lwi_r3 : ∀ w ∈ wsL_law0_r3, w ∈ lw_tbl := fun w h => (goodIn_c wsL_law0_r3 [55, 63, 118, 143] [53, 54, 25, 61, 62, 116, 117, 119, 121, 124, 120, 141, 142, 144, 153, 155, 157, 159, 160, 167] rfl (by decide +kernel) (by decide +kernel) w h).1
set_option maxRecDepth 20000 in
theorem lwi_r4 : ∀ w ∈ wsL_law0_r4, w ∈ lw_tbl := fun w h => (goodIn_c wsL_law0_r4 [492] [168, 169, 145, 146, 490, 491, 493, 502, 503, 504, 506, 507, 508, 509, 511, 512, 520, 521, 522, 523, 524, 525, 584] rfl (by decide +kernel) (by decide +kernel) w h).1
set_option maxRecDepth 20000 in
theorem lwi_r5 : ∀ w ∈ wsL_law0_r5, w ∈ lw_tbl := fun w h => (goodIn_c wsL_law0_r5 [497, 501, 220] [526, 527, 494, 495, 496, 528, 505, 498, 499, 500, 513, 514, 515, 510, 516, 517, 518, 519, 217, 218, 219] rfl (by decide +kernel) (by decide +kernel) w h).1
set_option maxRecDepth 20000 in
theorem lwi_r6 : ∀ w ∈ wsL_law0_r6, w ∈ lw_tbl := fun w h => (goodIn_c wsL_law0_r6 [224, 227, 594, 233] [228, 65, 68, 72, 76, 221, 223, 0, 148, 225, 226, 591, 592, 593, 230, 231, 232, 79, 595, 596] rfl (by decide +kernel) (by decide +kernel) w h).1
set_option maxRecDepth 20000 in
theorem lwi_r7 : ∀ w ∈ wsL_law0_r7, w ∈ lw_tbl := fun w h => (goodIn_c wsL_law0_r7 [598, 237, 602, 241, 606, 245] [597, 234, 235, 236, 82, 599, 600, 601, 238, 239, 240, 92, 603, 604, 605, 242, 243, 244] rfl (by decide +kernel) (by decide +kernel) w h).1
set_option maxRecDepth 20000 in
theorem lwi_r8 : ∀ w ∈ wsL_law0_r8, w ∈ lw_tbl := fun w h => (goodIn_c wsL_law0_r8 [248, 610, 252, 256] [86, 122, 89, 125, 246, 247, 607, 608, 609, 249, 250, 251, 150, 253, 254, 255, 147, 91, 166, 149] rfl (by decide +kernel) (by decide +kernel) w h).1
set_option maxRecDepth 20000 in
theorem lwi_r9 : ∀ w ∈ wsL_law0_r9, w ∈ lw_tbl := fun w h => (goodIn_c wsL_law0_r9 [260, 264, 269, 272, 275] [257, 258, 259, 66, 127, 261, 263, 1, 164, 69, 128, 151, 266, 268, 2, 80, 271, 274, 276] rfl (by decide +kernel) (by decide +kernel) w h).1
set_option maxRecDepth 20000 in
theorem lwi_r10 : ∀ w ∈ wsL_law0_r10, w ∈ lw_tbl := fun w h => (goodIn_c wsL_law0_r10 [279, 285, 282, 288, 292, 295, 299] [278, 3, 74, 283, 284, 30, 83, 281, 287, 289, 290, 291, 294, 296, 298, 4, 300] rfl (by decide +kernel) (by decide +kernel) w h).1
set_option maxRecDepth 20000 in
theorem lwi_r11 : ∀ w ∈ wsL_law0_r11, w ∈ lw_tbl := fun w h => (goodIn_c wsL_law0_r11 [303, 307, 311, 315, 319] [301, 302, 304, 306, 5, 308, 310, 6, 312, 314, 7, 161, 162, 126, 163, 123, 316, 317, 318] rfl (by decide +kernel) (by decide +kernel) w h).1
set_option maxRecDepth 20000 in
theorem lwi_r12 : ∀ w ∈ wsL_law0_r12, w ∈ lw_tbl := fun w h => (goodIn_c wsL_law0_r12 [324, 331, 335, 340] [73, 77, 320, 321, 322, 323, 70, 325, 326, 328, 330, 8, 332, 333, 334, 336, 337, 339, 9, 611] rfl (by decide +kernel) (by decide +kernel) w h).1
set_option maxRecDepth 20000 in
theorem lwi_r13 : ∀ w ∈ wsL_law0_r13, w ∈ lw_tbl := fun w h => (goodIn_c wsL_law0_r13 [614, 618, 621, 625, 629, 632] [612, 613, 615, 617, 11, 619, 620, 622, 624, 12, 626, 628, 13, 630, 631, 633, 635, 14] rfl (by decide +kernel) (by decide +kernel) w h).1
set_option maxRecDepth 20000 in
theorem lwi_r14 : ∀ w ∈ wsL_law0_r14, w ∈ lw_tbl := fun w h => (goodIn_c wsL_law0_r14 [636, 640, 643, 647, 651, 655] [637, 639, 15, 641, 642, 644, 646, 16, 666, 648, 650, 17, 652, 654, 18, 656, 658, 19] rfl (by decide +kernel) (by decide +kernel) w h).1
set_option maxRecDepth 20000 in
theorem lwi_r15 : ∀ w ∈ wsL_law0_r15, w ∈ lw_tbl := fun w h => (goodIn_c wsL_law0_r15 [659, 662, 665, 670, 344, 348] [660, 661, 663, 664, 667, 669, 20, 671, 341, 342, 343, 345, 346, 347, 85, 349, 88, 350] rfl (by decide +kernel) (by decide +kernel) w h).1
set_option maxRecDepth 20000 in
theorem lwi_r16 : ∀ w ∈ wsL_law0_r16, w ∈ lw_tbl := fun w h => (goodIn_c wsL_law0_r16 [353, 359, 364, 368] [351, 352, 354, 355, 590, 356, 357, 358, 360, 589, 361, 362, 363, 152, 154, 165, 129, 365, 366, 367] rfl (by decide +kernel) (by decide +kernel) w h).1
set_option maxRecDepth 20000 in
theorem lwi_r17 : ∀ w ∈ wsL_law0_r17, w ∈ lw_tbl := fun w h => (goodIn_c wsL_law0_r17 [675, 679, 397, 467] [672, 673, 674, 676, 678, 21, 390, 391, 22, 392, 393, 394, 395, 396, 398, 34, 464, 465, 466, 680] rfl (by decide +kernel) (by decide +kernel) w h).1
set_option maxRecDepth 20000 in
theorem lwi_r18 : ∀ w ∈ wsL_law0_r18, w ∈ lw_tbl := fun w h => (goodIn_c wsL_law0_r18 [683, 588, 474, 479, 687] [681, 682, 585, 586, 587, 468, 469, 470, 471, 472, 473, 476, 477, 478, 684, 685, 686, 480, 481] rfl (by decide +kernel) (by decide +kernel) w h).1
set_option maxRecDepth 20000 in
theorem lwi_r19 : ∀ w ∈ wsL_law0_r19, w ∈ lw_tbl := fun w h => (goodIn_c wsL_law0_r19 [486, 691, 372, 377, 695] [482, 483, 484, 485, 688, 689, 690, 369, 370, 371, 373, 374, 375, 376, 692, 693, 694, 378, 379] rfl (by decide +kernel) (by decide +kernel) w h).1
set_option maxRecDepth 20000 in
theorem lwi_r20 : ∀ w ∈ wsL_law0_r20, w ∈ lw_tbl := fun w h => (goodIn_c wsL_law0_r20 [381, 699, 385, 389, 703] [380, 158, 156, 696, 697, 698, 382, 383, 384, 386, 387, 388, 700, 701, 702] rfl (by decide +kernel) (by decide +kernel) w h).1
set_option maxRecDepth 20000 in
theorem lwi_X3 : ∀ w ∈ wsX30, w ∈ lw_tbl := fun w h => (goodIn_r wsX30 [210, 212, 214] (by decide +kernel) (by decide +kernel) w h).1
set_option maxRecDepth 20000 in
theorem lwi_X4 : ∀ w ∈ wsX40, w ∈ lw_tbl := fun w h => (goodIn_r wsX40 [529, 531, 533, 535, 537, 539, 541, 543, 545, 547, 549, 551, 553, 555, 557, 559, 561, 563, 565, 567, 569, 571, 573, 575, 577, 579, 581] (by decide +kernel) (by decide +kernel) w h).1
set_option maxRecDepth 20000 in
theorem lwi_X2 : ∀ w ∈ wsX20, w ∈ lw_tbl := fun w h => (goodIn_r wsX20 [93, 95, 97, 99, 101, 103, 105, 107, 109] (by decide +kernel) (by decide +kernel) w h).1
set_option maxRecDepth 20000 in
theorem lwi_X1 : ∀ w ∈ wsX10, w ∈ lw_tbl := fun w h => (goodIn_r wsX10 [130, 132, 134, 136] (by decide +kernel) (by decide +kernel) w h).1
set_option maxRecDepth 20000 in
theorem lwi_X0 : ∀ w ∈ wsX00, w ∈ lw_tbl := fun w h => (goodIn_r wsX00 [170, 172, 174, 176, 178, 180, 182, 184, 186, 188, 190, 192, 194, 196, 198, 200, 202, 204] (by decide +kernel) (by decide +kernel) w h).1
theorem lwi_app {a b : List Cond} (ha : ∀ w ∈ a, w ∈ lw_tbl) (hb : ∀ w ∈ b, w ∈ lw_tbl) : ∀ w ∈ a ++ b, w ∈ lw_tbl := fun w h => (List.mem_append.mp h).elim (ha w) (hb w)
theorem wsL_law_in0 : ∀ w ∈ wsL_law0, w ∈ lw_tbl := lwi_app (lwi_app (lwi_app (lwi_app (lwi_app (lwi_app (lwi_app lwi_r1 (lwi_app lwi_r2 (lwi_app lwi_r3 (lwi_app lwi_r4 (lwi_app lwi_r5 (lwi_app lwi_r6 (lwi_app lwi_r7 (lwi_app lwi_r8 (lwi_app lwi_r9 (lwi_app lwi_r10 (lwi_app lwi_r11 (lwi_app lwi_r12 (lwi_app lwi_r13 (lwi_app lwi_r14 (lwi_app lwi_r15 (lwi_app lwi_r16 (lwi_app lwi_r17 (lwi_app lwi_r18 (lwi_app lwi_r19 lwi_r20))))))))))))))))))) lwi_X3) lwi_X4) lwi_X2) lwi_X1) lwi_X0) (fun _ h => absurd h List.not_mem_nil)
set_option maxRecDepth 20000 in
theorem vnW_in : ∀ w ∈ vnW, w ∈ lw_tbl := fun w h => (goodIn_r vnW [31, 420, 429, 431, 434, 436, 421, 422, 41, 42, 423, 428, 432, 452, 410, 453, 412, 454, 414, 424, 426, 416, 448, 449, 451, 416, 439, 440, 441, 442, 442, 443, 444, 445, 445, 446, 447, 448, 438, 399, 407, 408, 409, 411, 413, 415, 419, 418, 417] (by decide +kernel) vnW_good w h).1
def wsN_law : List Cond := wsL_law0 ++ vnW
theorem wsN_law_in : ∀ w ∈ wsN_law, w ∈ lw_tbl := fun w h => (List.mem_append.mp h).elim (fun h => wsL_law_in0 w h) (fun h => vnW_in w h)
theorem inlX0 : ∀ w ∈ wsX00, w ∈ wsN_law := fun _ h => List.mem_append_left _ (List.mem_append_left _ (List.mem_append_right _ h))
theorem inX0 : ∀ w ∈ wsX00, w ∈ lw_tbl := fun w h => wsN_law_in w (inlX0 w h)
theorem inlX1 : ∀ w ∈ wsX10, w ∈ wsN_law := fun _ h => List.mem_append_left _ (List.mem_append_left _ (List.mem_append_left _ (List.mem_append_right _ h)))
theorem inX1 : ∀ w ∈ wsX10, w ∈ lw_tbl := fun w h => wsN_law_in w (inlX1 w h)
theorem inlX2 : ∀ w ∈ wsX20, w ∈ wsN_law := fun _ h => List.mem_append_left _ (List.mem_append_left _ (List.mem_append_left _ (List.mem_append_left _ (List.mem_append_right _ h))))
theorem inX2 : ∀ w ∈ wsX20, w ∈ lw_tbl := fun w h => wsN_law_in w (inlX2 w h)
theorem inlX3 : ∀ w ∈ wsX30, w ∈ wsN_law := fun _ h => List.mem_append_left _ (List.mem_append_left _ (List.mem_append_left _ (List.mem_append_left _ (List.mem_append_left _ (List.mem_append_left _ (List.mem_append_right _ h))))))
theorem inX3 : ∀ w ∈ wsX30, w ∈ lw_tbl := fun w h => wsN_law_in w (inlX3 w h)
theorem inlX4 : ∀ w ∈ wsX40, w ∈ wsN_law := fun _ h => List.mem_append_left _ (List.mem_append_left _ (List.mem_append_left _ (List.mem_append_left _ (List.mem_append_left _ (List.mem_append_right _ h)))))
theorem inX4 : ∀ w ∈ wsX40, w ∈ lw_tbl := fun w h => wsN_law_in w (inlX4 w h)
set_option maxRecDepth 20000 in
theorem nggL_register_X3_register : GoodIn wnL_register wnX3_register := goodIn_ca (goodIn_r _ [6, 7, 8, 9, 10, 11, 5, 12, 13, 14, 15, 16, 17, 18, 19, 20, 21, 22, 23, 24, 25, 26, 27, 28, 29, 30, 31, 32, 33, 34, 35, 36, 37, 38, 39, 40, 41, 42, 43, 44, 45, 46, 47] (by decide +kernel) (by decide +kernel)) (goodIn_sub (fun _ h => List.mem_cons_of_mem _ (List.mem_append_right _ h)) (by decide +kernel))
set_option maxRecDepth 20000 in
theorem ngL_register_X3_register : GoodIn wnL_register (wsV RL 7 RX3 yX3_register wnX3_register) := goodIn_app (goodIn_of _ (by decide +kernel)) nggL_register_X3_register
set_option maxRecDepth 20000 in
theorem nggL_memory_X3_memory : GoodIn wnL_memory wnX3_memory := goodIn_ca (goodIn_r _ [6, 7, 8, 9, 10, 11, 5, 12, 13, 14, 15, 16, 17, 18, 19, 20, 21, 22, 23, 24, 25, 26, 27, 28, 29, 30, 31, 32, 33, 34, 35, 36, 37, 38, 39, 40, 41, 42, 43, 44, 45, 46, 47, 48] (by decide +kernel) (by decide +kernel)) (goodIn_sub (fun _ h => List.mem_cons_of_mem _ (List.mem_append_right _ h)) (by decide +kernel))
set_option maxRecDepth 20000 in
theorem ngL_memory_X3_memory : GoodIn wnL_memory (wsV RL 15 RX3 yX3_memory wnX3_memory) := goodIn_app (goodIn_of _ (by decide +kernel)) nggL_memory_X3_memory
set_option maxRecDepth 20000 in
theorem nggL_plain_X3_plain : GoodIn wnL_plain wnX3_plain := goodIn_ca (goodIn_r _ [6, 7, 8, 9, 10, 11, 12, 13, 5, 14, 15, 16, 17, 18, 19, 20, 21, 22, 23, 24] (by decide +kernel) (by decide +kernel)) (goodIn_sub (fun _ h => List.mem_cons_of_mem _ (List.mem_append_right _ h)) (by decide +kernel))
set_option maxRecDepth 20000 in
theorem ngL_plain_X3_plain : GoodIn wnL_plain (wsV RL 18 RX3 yX3_plain wnX3_plain) := goodIn_app (goodIn_of _ (by decide +kernel)) nggL_plain_X3_plain
set_option maxRecDepth 20000 in
theorem nggL_law_X3_init : GoodIn wsN_law wsX3_init := goodIn_c _ [10, 13, 28, 42, 51, 54, 57, 64] [11, 12, 14, 15, 16, 17, 18, 19, 20, 21, 22, 23, 24, 25, 26, 27, 29, 30, 31, 32, 33, 34, 35, 36, 6, 37, 38, 39, 40, 41, 43, 44, 45, 46, 47, 48, 49, 50, 52, 53, 55, 56, 58, 59, 60, 61, 62, 63, 65, 66, 67, 68, 69, 70, 71, 72, 73, 74, 75, 506, 507, 508, 509, 510, 511, 512, 513, 514, 476, 477, 478, 515, 516, 517, 518, 519, 520, 521, 522, 523, 524, 525, 526, 527, 528, 529, 530, 531, 532, 533, 534, 535, 536] rfl (by decide +kernel) (by decide +kernel)
set_option maxRecDepth 20000 in
theorem ngL_law_X3_init : GoodIn wsN_law (wsX3_init) := nggL_law_X3_init
set_option maxRecDepth 20000 in
theorem nggL_law_X4_init : GoodIn wsN_law wsX4_init := goodIn_c _ [78, 13, 101, 107] [79, 12, 30, 80, 81, 82, 6, 83, 84, 85, 86, 87, 88, 89, 90, 91, 92, 93, 94, 95, 96, 97, 98, 99, 100, 5, 102, 103, 104, 105, 106, 108, 109, 110, 111, 112, 113, 114, 115, 479, 480, 481, 482, 483, 484, 485, 486, 487, 488, 489, 490, 491, 492, 493, 494, 495, 496, 497, 498, 499, 500, 501, 502, 503, 504, 505] rfl (by decide +kernel) (by decide +kernel)
set_option maxRecDepth 20000 in
theorem ngL_law_X4_init : GoodIn wsN_law (wsX4_init) := nggL_law_X4_init
set_option maxRecDepth 20000 in
theorem nggL_law_X3_put : GoodIn wsN_law wsX3_put := goodIn_c _ [119, 128, 132] [120, 17, 121, 122, 123, 124, 125, 126, 127, 2, 25, 129, 130, 131, 476, 477, 478, 506, 507, 508, 509, 510, 511, 512, 513, 514, 519, 520, 521, 522, 523, 524, 525, 526, 527, 528, 529, 530, 531, 532, 533, 534, 535, 536] rfl (by decide +kernel) (by decide +kernel)
set_option maxRecDepth 20000 in
theorem ngL_law_X3_put : GoodIn wsN_law (wsV RL 26 RX3 yX3_put wsX3_put) := goodIn_app (goodIn_of _ (by decide +kernel)) nggL_law_X3_put
set_option maxRecDepth 20000 in
theorem nggL_law_X4_put : GoodIn wsN_law wsX4_put := goodIn_c _ [136] [102, 108, 80, 479, 480, 481, 482, 483, 484, 485, 486, 487, 488, 489, 490, 491, 492, 493, 494, 495, 496, 497, 498, 499, 500, 501, 502, 503, 504, 505] rfl (by decide +kernel) (by decide +kernel)
set_option maxRecDepth 20000 in
theorem ngL_law_X4_put : GoodIn wsN_law (wsV RL 30 RX4 yX4_put wsX4_put) := goodIn_app (goodIn_of _ (by decide +kernel)) nggL_law_X4_put
set_option maxRecDepth 20000 in
theorem nggL_law_X3_units : GoodIn wsN_law wsX3_units := goodIn_c _ [140, 128, 132] [17, 141, 125, 126, 127, 2, 25, 129, 130, 131, 476, 477, 478, 506, 507, 508, 509, 510, 511, 512, 513, 514, 519, 520, 521, 522, 523, 524, 525, 526, 527, 528, 529, 530, 531, 532, 533, 534, 535, 536] rfl (by decide +kernel) (by decide +kernel)
set_option maxRecDepth 20000 in
theorem ngL_law_X3_units : GoodIn wsN_law (wsV RL 31 RX3 yX3_units wsX3_units) := goodIn_app (goodIn_of _ (by decide +kernel)) nggL_law_X3_units
set_option maxRecDepth 20000 in
theorem nggL_law_X4_units : GoodIn wsN_law wsX4_units := goodIn_c _ [145] [102, 108, 81, 479, 480, 481, 482, 483, 484, 485, 486, 487, 488, 489, 490, 491, 492, 493, 494, 495, 496, 497, 498, 499, 500, 501, 502, 503, 504, 505] rfl (by decide +kernel) (by decide +kernel)
set_option maxRecDepth 20000 in
theorem ngL_law_X4_units : GoodIn wsN_law (wsV RL 35 RX4 yX4_units wsX4_units) := goodIn_app (goodIn_of _ (by decide +kernel)) nggL_law_X4_units
set_option maxRecDepth 20000 in
theorem nggL_law_X3_latency : GoodIn wsN_law wsX3_latency := goodIn_c _ [149, 128, 132] [17, 150, 125, 126, 127, 2, 25, 129, 130, 131, 476, 477, 478, 506, 507, 508, 509, 510, 511, 512, 513, 514, 519, 520, 521, 522, 523, 524, 525, 526, 527, 528, 529, 530, 531, 532, 533, 534, 535, 536] rfl (by decide +kernel) (by decide +kernel)
set_option maxRecDepth 20000 in
theorem ngL_law_X3_latency : GoodIn wsN_law (wsV RL 36 RX3 yX3_latency wsX3_latency) := goodIn_app (goodIn_of _ (by decide +kernel)) nggL_law_X3_latency
set_option maxRecDepth 20000 in
theorem nggL_law_X4_latency : GoodIn wsN_law wsX4_latency := goodIn_c _ [154] [102, 108, 82, 479, 480, 481, 482, 483, 484, 485, 486, 487, 488, 489, 490, 491, 492, 493, 494, 495, 496, 497, 498, 499, 500, 501, 502, 503, 504, 505] rfl (by decide +kernel) (by decide +kernel)
set_option maxRecDepth 20000 in
theorem ngL_law_X4_latency : GoodIn wsN_law (wsV RL 39 RX4 yX4_latency wsX4_latency) := goodIn_app (goodIn_of _ (by decide +kernel)) nggL_law_X4_latency
set_option maxRecDepth 20000 in
theorem nggL_law_X3_width : GoodIn wsN_law wsX3_width := goodIn_c _ [158, 128] [17, 159, 125, 126, 127, 2, 25, 129, 476, 477, 478, 506, 507, 508, 509, 510, 511, 512, 513, 514, 519, 520, 521, 522, 523, 524, 525, 526, 527, 528, 529, 530, 531, 532, 533, 534, 535, 536] rfl (by decide +kernel) (by decide +kernel)
set_option maxRecDepth 20000 in
theorem ngL_law_X3_width : GoodIn wsN_law (wsV RL 40 RX3 yX3_width wsX3_width) := goodIn_app (goodIn_of _ (by decide +kernel)) nggL_law_X3_width
set_option maxRecDepth 20000 in
theorem nggL_law_X4_width : GoodIn wsN_law wsX4_width := goodIn_c _ [163] [102, 108, 103, 479, 480, 481, 482, 483, 484, 485, 486, 487, 488, 489, 490, 491, 492, 493, 494, 495, 496, 497, 498, 499, 500, 501, 502, 503, 504, 505] rfl (by decide +kernel) (by decide +kernel)
set_option maxRecDepth 20000 in
theorem ngL_law_X4_width : GoodIn wsN_law (wsV RL 44 RX4 yX4_width wsX4_width) := goodIn_app (goodIn_of _ (by decide +kernel)) nggL_law_X4_width
set_option maxRecDepth 20000 in
theorem nggL_law_X3_set : GoodIn wsN_law wsX3_set := goodIn_c _ [167, 128, 174, 132] [17, 168, 21, 169, 170, 171, 125, 126, 127, 2, 25, 129, 172, 173, 130, 131, 476, 477, 478, 506, 507, 508, 509, 510, 511, 512, 513, 514, 515, 516, 517, 518, 519, 520, 521, 522, 523, 524, 525, 526, 527, 528, 529, 530, 531, 532, 533, 534, 535, 536] rfl (by decide +kernel) (by decide +kernel)
set_option maxRecDepth 20000 in
theorem ngL_law_X3_set : GoodIn wsN_law (wsV RL 47 RX3 yX3_set wsX3_set) := goodIn_app (goodIn_of _ (by decide +kernel)) nggL_law_X3_set
set_option maxRecDepth 20000 in
theorem nggL_law_X4_set : GoodIn wsN_law wsX4_set := goodIn_c _ [178] [102, 108, 83, 87, 85, 84, 88, 86, 479, 480, 481, 482, 483, 484, 485, 486, 487, 488, 489, 490, 491, 492, 493, 494, 495, 496, 497, 498, 499, 500, 501, 502, 503, 504, 505] rfl (by decide +kernel) (by decide +kernel)
set_option maxRecDepth 20000 in
theorem ngL_law_X4_set : GoodIn wsN_law (wsV RL 51 RX4 yX4_set wsX4_set) := goodIn_app (goodIn_of _ (by decide +kernel)) nggL_law_X4_set
set_option maxRecDepth 20000 in
theorem nggL_law_X3_run : GoodIn wsN_law wsX3_run := goodIn_c _ [182, 187, 195, 201, 209, 212, 214, 218, 223, 226, 228, 232, 234, 238, 242, 246, 250, 254, 263, 270, 277, 281, 286] [25, 183, 184, 185, 186, 24, 188, 74, 189, 75, 190, 191, 66, 192, 193, 194, 20, 61, 196, 197, 198, 199, 200, 202, 68, 203, 204, 205, 206, 207, 208, 210, 72, 211, 2, 213, 215, 216, 217, 219, 220, 221, 222, 224, 70, 71, 225, 227, 229, 230, 231, 16, 34, 233, 235, 236, 237, 239, 44, 45, 46, 73, 240, 241, 243, 244, 245, 247, 248, 249, 251, 252, 253, 255, 256, 257, 258, 67, 69, 259, 260, 261, 262, 59, 264, 265, 266, 267, 268, 269, 271, 60, 272, 273, 274, 275, 276, 278, 279, 280, 282, 283, 284, 285, 476, 477, 478, 519, 520, 521, 522, 523, 524, 525, 526, 527, 528, 529, 530, 531, 532, 533, 534, 535, 536, 506, 507, 508, 509, 510, 511, 512, 513, 514, 515, 516, 517, 518] rfl (by decide +kernel) (by decide +kernel)
set_option maxRecDepth 20000 in
theorem ngL_law_X3_run : GoodIn wsN_law (wsV RL 52 RX3 yX3_run wsX3_run) := goodIn_app (goodIn_of _ (by decide +kernel)) nggL_law_X3_run
set_option maxRecDepth 20000 in
theorem nggL_law_X4_run : GoodIn wsN_law wsX4_run := goodIn_c _ [290, 294, 297, 301, 305, 308, 312, 316, 319, 323, 328, 332, 336, 339, 342, 346] [102, 109, 108, 112, 115, 96, 93, 291, 292, 293, 5, 80, 111, 295, 296, 298, 299, 300, 114, 302, 303, 304, 110, 113, 103, 306, 307, 309, 310, 311, 81, 313, 314, 315, 90, 317, 318, 320, 321, 322, 89, 82, 92, 85, 324, 97, 94, 91, 86, 325, 326, 327, 329, 330, 331, 333, 334, 335, 88, 87, 337, 338, 340, 341, 343, 344, 345, 347, 479, 480, 481, 482, 483, 484, 485, 486, 487, 488, 489, 490, 491, 492, 493, 494, 495, 496, 497, 498, 499, 500, 501, 502, 503, 504, 505] rfl (by decide +kernel) (by decide +kernel)
set_option maxRecDepth 20000 in
theorem ngL_law_X4_run : GoodIn wsN_law (wsV RL 56 RX4 yX4_run wsX4_run) := goodIn_app (goodIn_of _ (by decide +kernel)) nggL_law_X4_run
set_option maxRecDepth 20000 in
theorem nggL_law_X3_again : GoodIn wsN_law wsX3_again := goodIn_c _ [351, 355, 362, 51, 54] [21, 25, 352, 353, 354, 20, 61, 356, 59, 357, 44, 45, 46, 358, 60, 197, 359, 360, 361, 24, 188, 191, 205, 66, 67, 68, 69, 70, 255, 256, 258, 202, 190, 72, 73, 363, 49, 50, 364, 53, 476, 477, 478, 515, 516, 517, 518, 506, 507, 508, 509, 510, 511, 512, 513, 514, 519, 520, 521, 522, 523, 524, 525, 526, 527, 528, 529, 530, 531, 532, 533, 534, 535, 536] rfl (by decide +kernel) (by decide +kernel)
set_option maxRecDepth 20000 in
theorem ngL_law_X3_again : GoodIn wsN_law (wsV RL 57 RX3 yX3_again wsX3_again) := goodIn_app (goodIn_of _ (by decide +kernel)) nggL_law_X3_again
set_option maxRecDepth 20000 in
theorem nggL_law_X4_again : GoodIn wsN_law wsX4_again := goodIn_c _ [107] [102, 108, 109, 110, 111, 112, 113, 114, 115, 89, 85, 83, 87, 90, 91, 92, 86, 84, 88, 96, 93, 479, 480, 481, 482, 483, 484, 485, 486, 487, 488, 489, 490, 491, 492, 493, 494, 495, 496, 497, 498, 499, 500, 501, 502, 503, 504, 505] rfl (by decide +kernel) (by decide +kernel)
set_option maxRecDepth 20000 in
theorem ngL_law_X4_again : GoodIn wsN_law (wsV RL 60 RX4 yX4_again wsX4_again) := goodIn_app (goodIn_of _ (by decide +kernel)) nggL_law_X4_again
set_option maxRecDepth 20000 in
theorem nggL_law_X3_clear : GoodIn wsN_law wsX3_clear := goodIn_c _ [369, 42, 51, 54, 355, 362] [17, 21, 25, 370, 40, 41, 16, 31, 32, 33, 34, 35, 36, 43, 44, 45, 46, 37, 38, 47, 48, 49, 50, 52, 53, 352, 353, 354, 20, 61, 356, 59, 357, 358, 60, 197, 359, 360, 361, 24, 188, 191, 205, 66, 67, 68, 69, 70, 255, 256, 258, 202, 190, 72, 73, 363, 364, 476, 477, 478, 506, 507, 508, 509, 510, 511, 512, 513, 514, 515, 516, 517, 518, 519, 520, 521, 522, 523, 524, 525, 526, 527, 528, 529, 530, 531, 532, 533, 534, 535, 536] rfl (by decide +kernel) (by decide +kernel)
set_option maxRecDepth 20000 in
theorem ngL_law_X3_clear : GoodIn wsN_law (wsV RL 61 RX3 yX3_clear wsX3_clear) := goodIn_app (goodIn_of _ (by decide +kernel)) nggL_law_X3_clear
set_option maxRecDepth 20000 in
theorem nggL_law_X4_clear : GoodIn wsN_law wsX4_clear := goodIn_c _ [101, 107] [102, 80, 81, 82, 103, 83, 84, 104, 105, 106, 5, 108, 109, 110, 111, 112, 113, 114, 115, 89, 85, 87, 90, 91, 92, 86, 88, 96, 93, 479, 480, 481, 482, 483, 484, 485, 486, 487, 488, 489, 490, 491, 492, 493, 494, 495, 496, 497, 498, 499, 500, 501, 502, 503, 504, 505] rfl (by decide +kernel) (by decide +kernel)
set_option maxRecDepth 20000 in
theorem ngL_law_X4_clear : GoodIn wsN_law (wsV RL 64 RX4 yX4_clear wsX4_clear) := goodIn_app (goodIn_of _ (by decide +kernel)) nggL_law_X4_clear
set_option maxRecDepth 20000 in
theorem nggL_law_X3_count : GoodIn wsN_law wsX3_count := goodIn_c _ [375, 383] [25, 129, 183, 376, 377, 378, 21, 379, 380, 381, 382, 24, 72, 188, 476, 477, 478, 519, 520, 521, 522, 523, 524, 525, 526, 527, 528, 529, 530, 531, 532, 533, 534, 535, 536, 515, 516, 517, 518] rfl (by decide +kernel) (by decide +kernel)
set_option maxRecDepth 20000 in
theorem ngL_law_X3_count : GoodIn wsN_law (wsV RL 65 RX3 yX3_count wsX3_count) := goodIn_app (goodIn_of _ (by decide +kernel)) nggL_law_X3_count
set_option maxRecDepth 20000 in
theorem nggL_law_X4_count : GoodIn wsN_law wsX4_count := goodIn_c _ [387, 391, 294, 332, 305, 308, 312, 297, 316, 319] [102, 108, 109, 110, 89, 114, 111, 388, 389, 390, 5, 96, 291, 292, 293, 80, 329, 330, 331, 302, 303, 304, 113, 103, 112, 306, 307, 309, 310, 311, 93, 81, 295, 296, 313, 314, 315, 90, 317, 318, 479, 480, 481, 482, 483, 484, 485, 486, 487, 488, 489, 490, 491, 492, 493, 494, 495, 496, 497, 498, 499, 500, 501, 502, 503, 504, 505] rfl (by decide +kernel) (by decide +kernel)
set_option maxRecDepth 20000 in
theorem ngL_law_X4_count : GoodIn wsN_law (wsV RL 68 RX4 yX4_count wsX4_count) := goodIn_app (goodIn_of _ (by decide +kernel)) nggL_law_X4_count
set_option maxRecDepth 20000 in
theorem nggL_law_L_register : GoodIn wsN_law wnL_register := goodIn_ca (goodIn_r _ [395, 396, 397, 398, 399, 2, 400, 401, 402, 25, 130, 131, 132, 403, 404, 405, 24, 406, 68, 188, 69, 75, 259, 476, 477, 478, 519, 520, 521, 522, 523, 524, 525, 526, 527, 528, 529, 530, 531, 532, 533, 534, 535, 536, 515, 516, 517, 518] (by decide +kernel) (by decide +kernel)) (goodIn_sub (fun _ h => List.mem_append_right _ h) (by decide +kernel))
set_option maxRecDepth 20000 in
theorem ngL_law_L_register : GoodIn wsN_law (va_wsS RL 69 yL_register wnL_register) := goodIn_app (goodIn_of _ (by decide +kernel)) nggL_law_L_register
set_option maxRecDepth 20000 in
theorem nggL_law_X4_register : GoodIn wsN_law wsX4_register := goodIn_c _ [410] [102, 87, 479, 480, 481, 482, 483, 484, 485, 486, 487, 488, 489, 490, 491, 492, 493, 494, 495, 496, 497, 498, 499, 500, 501, 502, 503, 504, 505] rfl (by decide +kernel) (by decide +kernel)
set_option maxRecDepth 20000 in
theorem ngL_law_X4_register : GoodIn wsN_law (wsV RL 74 RX4 yX4_register wsX4_register) := goodIn_app (goodIn_of _ (by decide +kernel)) nggL_law_X4_register
set_option maxRecDepth 20000 in
theorem nggL_law_X4_thrown : GoodIn wsN_law wsX4_thrown := goodIn_c _ [414] [102, 479, 480, 481, 482, 483, 484, 485, 486, 487, 488, 489, 490, 491, 492, 493, 494, 495, 496, 497, 498, 499, 500, 501, 502, 503, 504, 505] rfl (by decide +kernel) (by decide +kernel)
set_option maxRecDepth 20000 in
theorem ngL_law_X4_thrown : GoodIn wsN_law (wsV RL 75 RX4 yX4_thrown wsX4_thrown) := goodIn_app (goodIn_of _ (by decide +kernel)) nggL_law_X4_thrown
set_option maxRecDepth 20000 in
theorem nggL_law_L_memory : GoodIn wsN_law wnL_memory := goodIn_ca (goodIn_r _ [417, 396, 418, 419, 420, 2, 421, 401, 402, 25, 130, 131, 132, 422, 423, 424, 24, 425, 255, 256, 188, 258, 75, 257, 476, 477, 478, 519, 520, 521, 522, 523, 524, 525, 526, 527, 528, 529, 530, 531, 532, 533, 534, 535, 536, 515, 516, 517, 518] (by decide +kernel) (by decide +kernel)) (goodIn_sub (fun _ h => List.mem_append_right _ h) (by decide +kernel))
set_option maxRecDepth 20000 in
theorem ngL_law_L_memory : GoodIn wsN_law (va_wsS RL 79 yL_memory wnL_memory) := goodIn_app (goodIn_of _ (by decide +kernel)) nggL_law_L_memory
set_option maxRecDepth 20000 in
theorem nggL_law_X4_memory : GoodIn wsN_law wsX4_memory := goodIn_c _ [429] [102, 88, 479, 480, 481, 482, 483, 484, 485, 486, 487, 488, 489, 490, 491, 492, 493, 494, 495, 496, 497, 498, 499, 500, 501, 502, 503, 504, 505] rfl (by decide +kernel) (by decide +kernel)
set_option maxRecDepth 20000 in
theorem ngL_law_X4_memory : GoodIn wsN_law (wsV RL 81 RX4 yX4_memory wsX4_memory) := goodIn_app (goodIn_of _ (by decide +kernel)) nggL_law_X4_memory
set_option maxRecDepth 20000 in
theorem nggL_law_L_plain : GoodIn wsN_law wnL_plain := goodIn_ca (goodIn_r _ [432, 396, 433, 434, 435, 2, 436, 401, 402, 21, 169, 171, 172, 173, 174, 130, 131, 132, 476, 477, 478, 515, 516, 517, 518] (by decide +kernel) (by decide +kernel)) (goodIn_sub (fun _ h => List.mem_append_right _ h) (by decide +kernel))
set_option maxRecDepth 20000 in
theorem ngL_law_L_plain : GoodIn wsN_law (va_wsS RL 82 yL_plain wnL_plain) := goodIn_app (goodIn_of _ (by decide +kernel)) nggL_law_L_plain
set_option maxRecDepth 20000 in
theorem nggL_law_X4_plain : GoodIn wsN_law wsX4_plain := goodIn_c _ [440] [102, 85, 86, 479, 480, 481, 482, 483, 484, 485, 486, 487, 488, 489, 490, 491, 492, 493, 494, 495, 496, 497, 498, 499, 500, 501, 502, 503, 504, 505] rfl (by decide +kernel) (by decide +kernel)
set_option maxRecDepth 20000 in
theorem ngL_law_X4_plain : GoodIn wsN_law (wsV RL 85 RX4 yX4_plain wsX4_plain) := goodIn_app (goodIn_of _ (by decide +kernel)) nggL_law_X4_plain
set_option maxRecDepth 20000 in
theorem nggL_law_X3_unit : GoodIn wsN_law wsX3_unit := goodIn_c _ [444, 132, 212, 449] [17, 141, 25, 130, 131, 2, 445, 211, 446, 447, 448, 24, 72, 188, 476, 477, 478, 506, 507, 508, 509, 510, 511, 512, 513, 514, 519, 520, 521, 522, 523, 524, 525, 526, 527, 528, 529, 530, 531, 532, 533, 534, 535, 536] rfl (by decide +kernel) (by decide +kernel)
set_option maxRecDepth 20000 in
theorem ngL_law_X3_unit : GoodIn wsN_law (wsV RL 86 RX3 yX3_unit wsX3_unit) := goodIn_app (goodIn_of _ (by decide +kernel)) nggL_law_X3_unit
set_option maxRecDepth 20000 in
theorem nggL_law_X4_unit : GoodIn wsN_law wsX4_unit := goodIn_c _ [453] [102, 81, 96, 93, 108, 479, 480, 481, 482, 483, 484, 485, 486, 487, 488, 489, 490, 491, 492, 493, 494, 495, 496, 497, 498, 499, 500, 501, 502, 503, 504, 505] rfl (by decide +kernel) (by decide +kernel)
set_option maxRecDepth 20000 in
theorem ngL_law_X4_unit : GoodIn wsN_law (wsV RL 90 RX4 yX4_unit wsX4_unit) := goodIn_app (goodIn_of _ (by decide +kernel)) nggL_law_X4_unit
set_option maxRecDepth 20000 in
theorem nggL_law_X3_pending : GoodIn wsN_law wsX3_pending := goodIn_c _ [457, 132] [25, 458, 129, 459, 130, 131, 2, 476, 477, 478, 519, 520, 521, 522, 523, 524, 525, 526, 527, 528, 529, 530, 531, 532, 533, 534, 535, 536] rfl (by decide +kernel) (by decide +kernel)
set_option maxRecDepth 20000 in
theorem ngL_law_X3_pending : GoodIn wsN_law (wsV RL 91 RX3 yX3_pending wsX3_pending) := goodIn_app (goodIn_of _ (by decide +kernel)) nggL_law_X3_pending
set_option maxRecDepth 20000 in
theorem nggL_law_X4_pending : GoodIn wsN_law wsX4_pending := goodIn_c _ [463] [102, 90, 108, 91, 479, 480, 481, 482, 483, 484, 485, 486, 487, 488, 489, 490, 491, 492, 493, 494, 495, 496, 497, 498, 499, 500, 501, 502, 503, 504, 505] rfl (by decide +kernel) (by decide +kernel)
set_option maxRecDepth 20000 in
theorem ngL_law_X4_pending : GoodIn wsN_law (wsV RL 94 RX4 yX4_pending wsX4_pending) := goodIn_app (goodIn_of _ (by decide +kernel)) nggL_law_X4_pending
set_option maxRecDepth 20000 in
theorem nggL_law_X3_latest : GoodIn wsN_law wsX3_latest := goodIn_c _ [467, 132, 471, 242] [25, 376, 130, 131, 2, 468, 469, 470, 24, 73, 188, 240, 241, 476, 477, 478, 519, 520, 521, 522, 523, 524, 525, 526, 527, 528, 529, 530, 531, 532, 533, 534, 535, 536] rfl (by decide +kernel) (by decide +kernel)
set_option maxRecDepth 20000 in
theorem ngL_law_X3_latest : GoodIn wsN_law (wsV RL 95 RX3 yX3_latest wsX3_latest) := goodIn_app (goodIn_of _ (by decide +kernel)) nggL_law_X3_latest
set_option maxRecDepth 20000 in
theorem nggL_law_X4_latest : GoodIn wsN_law wsX4_latest := goodIn_c _ [475] [102, 110, 97, 108, 479, 480, 481, 482, 483, 484, 485, 486, 487, 488, 489, 490, 491, 492, 493, 494, 495, 496, 497, 498, 499, 500, 501, 502, 503, 504, 505] rfl (by decide +kernel) (by decide +kernel)
set_option maxRecDepth 20000 in
theorem ngL_law_X4_latest : GoodIn wsN_law (wsV RL 99 RX4 yX4_latest wsX4_latest) := goodIn_app (goodIn_of _ (by decide +kernel)) nggL_law_X4_latest


