theorem goodIn_cons {big a : List Cond} {c : Cond} (ha : GoodIn big [c]) (hb : GoodIn big a) : GoodIn big (c :: a) := fun w h => (List.mem_cons.mp h).elim (fun e => ha w (by rw [e]; exact List.mem_cons_self)) (hb w)
def wsL_law : List Cond := wsL_law0 ++ (vx_atS RX5 69 "java/lang/IllegalArgumentException" ["java/lang/RuntimeException", "java/lang/Exception"]).filter goodWord ++ (vx_atS RX5 54 "java/lang/IllegalStateException" ["java/lang/RuntimeException", "java/lang/Exception"]).filter goodWord ++ (vx_atS RX5 168 "java/lang/IndexOutOfBoundsException" ["java/lang/RuntimeException", "java/lang/Exception"]).filter goodWord
theorem in_places {big : List Cond} (ws : List Cond) (ps : List Nat) (hp : ws = ps.filterMap (fun i => big[i]?)) : ∀ w ∈ ws, w ∈ big := by
  intro w hw
  rw [hp] at hw
  obtain ⟨i, -, hi⟩ := List.mem_filterMap.mp hw
  exact List.mem_of_getElem? hi
set_option maxRecDepth 20000 in
theorem wsL_law_c1 : ∀ w ∈ wsL_law0_r1, w ∈ lw_tbl := in_places _ [47, 48, 33, 98, 49, 50, 51, 52, 53, 54, 55, 56, 34, 169, 99, 100, 35, 170, 112, 113, 36, 171, 137, 138] (by decide +kernel)
set_option maxRecDepth 20000 in
theorem wsL_law_c2 : ∀ w ∈ wsL_law0_r2, w ∈ lw_tbl := in_places _ [37, 172, 150, 151, 38, 173, 58, 59, 60, 67, 68, 69, 70, 71, 72, 101, 102, 103, 104, 106, 105, 114, 115, 116] (by decide +kernel)
set_option maxRecDepth 20000 in
theorem wsL_law_c3 : ∀ w ∈ wsL_law0_r3, w ∈ lw_tbl := in_places _ [117, 119, 120, 121, 122, 123, 118, 139, 140, 141, 142, 144, 143, 152, 153, 154, 155, 157, 158, 159, 156, 201, 202, 32] (by decide +kernel)
set_option maxRecDepth 20000 in
theorem wsL_law_c4 : ∀ w ∈ wsL_law0_r4, w ∈ lw_tbl := in_places _ [203, 204, 205, 193, 194, 195, 196, 197, 198, 199, 200, 62, 185, 186, 187, 188, 189, 190, 191, 192, 61, 206, 207, 208] (by decide +kernel)
set_option maxRecDepth 20000 in
theorem wsL_law_c5 : ∀ w ∈ wsL_law0_r5, w ∈ lw_tbl := in_places _ [344, 345, 346, 209, 210, 211, 212, 213, 214, 215, 216, 63, 217, 218, 219, 220, 221, 222, 223, 224, 225, 226, 299, 43] (by decide +kernel)
set_option maxRecDepth 20000 in
theorem wsL_law_c6 : ∀ w ∈ wsL_law0_r6, w ∈ lw_tbl := in_places _ [317, 44, 227, 229, 0, 230, 231, 42, 333, 334, 335, 336, 337, 339, 2, 340, 342, 343, 347, 348, 349, 350, 351, 352] (by decide +kernel)
set_option maxRecDepth 20000 in
theorem wsL_law_c7 : ∀ w ∈ wsL_law0_r7, w ∈ lw_tbl := in_places _ [353, 354, 356, 3, 357, 360, 361, 362, 363, 366, 367, 368, 369, 370, 371, 372, 373, 374, 375, 376, 377, 378, 379, 380] (by decide +kernel)
set_option maxRecDepth 20000 in
theorem wsL_law_c8 : ∀ w ∈ wsL_law0_r8, w ∈ lw_tbl := in_places _ [64, 382, 383, 385, 386, 387, 388, 389, 390, 391, 392, 393, 394, 396, 4, 397, 399, 400, 401, 402, 66, 403, 404, 405] (by decide +kernel)
set_option maxRecDepth 20000 in
theorem wsL_law_c9 : ∀ w ∈ wsL_law0_r9, w ∈ lw_tbl := in_places _ [406, 407, 408, 409, 410, 411, 412, 413, 415, 416, 417, 418, 65, 419, 420, 421, 422, 423, 424, 425, 426, 428, 5, 429] (by decide +kernel)
set_option maxRecDepth 20000 in
theorem wsL_law_c10 : ∀ w ∈ wsL_law0_r10, w ∈ lw_tbl := in_places _ [430, 431, 432, 433, 434, 435, 436, 437, 438, 439, 440, 441, 442, 443, 444, 445, 446, 447, 448, 449, 450, 451, 452, 453] (by decide +kernel)
set_option maxRecDepth 20000 in
theorem wsL_law_c11 : ∀ w ∈ wsL_law0_r11, w ∈ lw_tbl := in_places _ [454, 455, 456, 457, 458, 460, 6, 461, 462, 463, 464, 45, 465, 466, 467, 469, 7, 470, 471, 472, 473, 474, 476, 477] (by decide +kernel)
set_option maxRecDepth 20000 in
theorem wsL_law_c12 : ∀ w ∈ wsL_law0_r12, w ∈ lw_tbl := in_places _ [478, 479, 480, 481, 482, 483, 484, 485, 486, 487, 488, 489, 490, 491, 492, 493, 494, 496, 8, 497, 498, 499, 501, 502] (by decide +kernel)
set_option maxRecDepth 20000 in
theorem wsL_law_c13 : ∀ w ∈ wsL_law0_r13, w ∈ lw_tbl := in_places _ [503, 504, 505, 507, 9, 508, 513, 514, 46, 515, 516, 517, 518, 509, 511, 10, 512, 519, 520, 521, 522, 523, 524, 525] (by decide +kernel)
set_option maxRecDepth 20000 in
theorem wsL_law_c14 : ∀ w ∈ wsL_law0_r14, w ∈ lw_tbl := in_places _ [526, 528, 11, 529, 530, 531, 532, 533, 535, 537, 12, 538, 539, 540, 541, 542, 543, 544, 545, 546, 547, 549, 550, 551] (by decide +kernel)
set_option maxRecDepth 20000 in
theorem wsL_law_c15 : ∀ w ∈ wsL_law0_r15, w ∈ lw_tbl := in_places _ [552, 553, 554, 555, 556, 557, 559, 560, 561, 562, 563, 564, 565, 566, 567, 568, 569, 570, 571, 572, 573, 574, 575, 576] (by decide +kernel)
set_option maxRecDepth 20000 in
theorem wsL_law_c16 : ∀ w ∈ wsL_law0_r16, w ∈ lw_tbl := in_places _ [577, 578, 579, 580, 581, 582, 583, 584, 585, 586, 587, 588, 589, 590, 591, 592, 593, 594, 595, 596, 598, 13, 599, 600] (by decide +kernel)
set_option maxRecDepth 20000 in
theorem wsL_law_c17 : ∀ w ∈ wsL_law0_r17, w ∈ lw_tbl := in_places _ [601, 603, 14, 604, 605, 607, 15, 608, 609, 611, 16, 612, 613, 615, 17, 616, 617, 618, 619, 620, 621, 622, 623, 624] (by decide +kernel)
set_option maxRecDepth 20000 in
theorem wsL_law_c18 : ∀ w ∈ wsL_law0_r18, w ∈ lw_tbl := in_places _ [625, 626, 627, 628, 630, 18, 631, 632, 633, 634, 635, 636, 637, 638, 639, 640, 641, 642, 643, 644, 645, 646, 647, 648] (by decide +kernel)
set_option maxRecDepth 20000 in
theorem wsL_law_c19 : ∀ w ∈ wsL_law0_r19, w ∈ lw_tbl := in_places _ [649, 650, 651, 658, 652, 654, 19, 655, 656, 659, 660, 661, 662, 663, 664, 665, 666, 668, 20, 669, 675, 670, 671, 672] (by decide +kernel)
set_option maxRecDepth 20000 in
theorem wsL_law_c20 : ∀ w ∈ wsL_law0_r20, w ∈ lw_tbl := in_places _ [673, 674, 676, 677, 678, 679, 680, 681, 682, 683, 684, 685, 686, 687, 689, 21, 690, 691, 693, 22, 694, 695, 697, 23] (by decide +kernel)
set_option maxRecDepth 20000 in
theorem wsL_law_c21 : ∀ w ∈ wsL_law0_r21, w ∈ lw_tbl := in_places _ [698, 699, 701, 24, 702, 703, 705, 25, 706, 708, 709, 710, 711, 712, 713, 714, 716, 718, 719, 720, 721, 733, 741, 722] (by decide +kernel)
set_option maxRecDepth 20000 in
theorem wsL_law_c22 : ∀ w ∈ wsL_law0_r22, w ∈ lw_tbl := in_places _ [724, 26, 725, 726, 728, 729, 731, 27, 732, 734, 735, 736, 737, 739, 28, 740, 742, 743, 745, 29, 746, 747, 749, 30] (by decide +kernel)
set_option maxRecDepth 20000 in
theorem wsL_law_c23 : ∀ w ∈ wsL_law0_r23, w ∈ lw_tbl := in_places _ [750, 751, 753, 31, 754, 755, 756, 757, 758, 759, 760, 761, 763, 764, 765, 766, 767, 768, 769, 770, 771, 772, 773, 774] (by decide +kernel)
set_option maxRecDepth 20000 in
theorem wsL_law_c24 : ∀ w ∈ wsL_law0_r24, w ∈ lw_tbl := in_places _ [775, 776, 777, 778, 779, 780, 781, 782, 783, 784, 785, 786, 796, 797, 798, 787, 788, 789, 790, 791, 792, 793, 794, 795] (by decide +kernel)
set_option maxRecDepth 20000 in
theorem wsL_law_y5 : ∀ w ∈ wsX50, w ∈ lw_tbl := by decide +kernel
set_option maxRecDepth 20000 in
theorem wsL_law_y2 : ∀ w ∈ wsX20, w ∈ lw_tbl := by decide +kernel
set_option maxRecDepth 20000 in
theorem wsL_law_y3 : ∀ w ∈ wsX30, w ∈ lw_tbl := by decide +kernel
set_option maxRecDepth 20000 in
theorem wsL_law_y0 : ∀ w ∈ wsX00, w ∈ lw_tbl := by decide +kernel
set_option maxRecDepth 20000 in
theorem wsL_law_y1 : ∀ w ∈ wsX10, w ∈ lw_tbl := by decide +kernel
set_option maxRecDepth 20000 in
theorem wsL_law_y4 : ∀ w ∈ wsX40, w ∈ lw_tbl := by decide +kernel
theorem wsL_law_in0 : ∀ w ∈ wsL_law0, w ∈ lw_tbl := fun w => (fun h => (List.mem_append.mp h).elim (fun h => (List.mem_append.mp h).elim (fun h => (List.mem_append.mp h).elim (fun h => (List.mem_append.mp h).elim (fun h => (List.mem_append.mp h).elim (fun h => (List.mem_append.mp h).elim (fun h => (List.mem_append.mp h).elim (fun h => (List.mem_append.mp h).elim (wsL_law_c1 w) (fun h => (List.mem_append.mp h).elim (wsL_law_c2 w) (fun h => (List.mem_append.mp h).elim (wsL_law_c3 w) (fun h => (List.mem_append.mp h).elim (wsL_law_c4 w) (fun h => (List.mem_append.mp h).elim (wsL_law_c5 w) (fun h => (List.mem_append.mp h).elim (wsL_law_c6 w) (fun h => (List.mem_append.mp h).elim (wsL_law_c7 w) (fun h => (List.mem_append.mp h).elim (wsL_law_c8 w) (fun h => (List.mem_append.mp h).elim (wsL_law_c9 w) (fun h => (List.mem_append.mp h).elim (wsL_law_c10 w) (fun h => (List.mem_append.mp h).elim (wsL_law_c11 w) (fun h => (List.mem_append.mp h).elim (wsL_law_c12 w) (fun h => (List.mem_append.mp h).elim (wsL_law_c13 w) (fun h => (List.mem_append.mp h).elim (wsL_law_c14 w) (fun h => (List.mem_append.mp h).elim (wsL_law_c15 w) (fun h => (List.mem_append.mp h).elim (wsL_law_c16 w) (fun h => (List.mem_append.mp h).elim (wsL_law_c17 w) (fun h => (List.mem_append.mp h).elim (wsL_law_c18 w) (fun h => (List.mem_append.mp h).elim (wsL_law_c19 w) (fun h => (List.mem_append.mp h).elim (wsL_law_c20 w) (fun h => (List.mem_append.mp h).elim (wsL_law_c21 w) (fun h => (List.mem_append.mp h).elim (wsL_law_c22 w) (fun h => (List.mem_append.mp h).elim (wsL_law_c23 w) (wsL_law_c24 w)))))))))))))))))))))))) (wsL_law_y5 w)) (wsL_law_y2 w)) (wsL_law_y3 w)) (wsL_law_y0 w)) (wsL_law_y1 w)) (wsL_law_y4 w)) (fun h => absurd h List.not_mem_nil))
theorem wsL_law_x0 : ∀ w ∈ (vx_atS RX5 69 "java/lang/IllegalArgumentException" ["java/lang/RuntimeException", "java/lang/Exception"]).filter goodWord, w ∈ lw_tbl := by decide +kernel
theorem wsL_law_x1 : ∀ w ∈ (vx_atS RX5 54 "java/lang/IllegalStateException" ["java/lang/RuntimeException", "java/lang/Exception"]).filter goodWord, w ∈ lw_tbl := by decide +kernel
theorem wsL_law_x2 : ∀ w ∈ (vx_atS RX5 168 "java/lang/IndexOutOfBoundsException" ["java/lang/RuntimeException", "java/lang/Exception"]).filter goodWord, w ∈ lw_tbl := by decide +kernel
theorem wsL_law_in : ∀ w ∈ wsL_law, w ∈ lw_tbl := fun w h => (List.mem_append.mp h).elim (fun h => (List.mem_append.mp h).elim (fun h => (List.mem_append.mp h).elim (fun h => wsL_law_in0 w h) (fun h => wsL_law_x0 w h)) (fun h => wsL_law_x1 w h)) (fun h => wsL_law_x2 w h)
theorem inlX0 : ∀ w ∈ wsX00, w ∈ wsL_law := fun _ h => List.mem_append_left _ (List.mem_append_left _ (List.mem_append_left _ (List.mem_append_left _ (List.mem_append_left _ (List.mem_append_left _ (List.mem_append_right _ h))))))
theorem inX0 : ∀ w ∈ wsX00, w ∈ lw_tbl := fun w h => wsL_law_in w (inlX0 w h)
theorem inlX1 : ∀ w ∈ wsX10, w ∈ wsL_law := fun _ h => List.mem_append_left _ (List.mem_append_left _ (List.mem_append_left _ (List.mem_append_left _ (List.mem_append_left _ (List.mem_append_right _ h)))))
theorem inX1 : ∀ w ∈ wsX10, w ∈ lw_tbl := fun w h => wsL_law_in w (inlX1 w h)
theorem inlX2 : ∀ w ∈ wsX20, w ∈ wsL_law := fun _ h => List.mem_append_left _ (List.mem_append_left _ (List.mem_append_left _ (List.mem_append_left _ (List.mem_append_left _ (List.mem_append_left _ (List.mem_append_left _ (List.mem_append_left _ (List.mem_append_right _ h))))))))
theorem inX2 : ∀ w ∈ wsX20, w ∈ lw_tbl := fun w h => wsL_law_in w (inlX2 w h)
theorem inlX3 : ∀ w ∈ wsX30, w ∈ wsL_law := fun _ h => List.mem_append_left _ (List.mem_append_left _ (List.mem_append_left _ (List.mem_append_left _ (List.mem_append_left _ (List.mem_append_left _ (List.mem_append_left _ (List.mem_append_right _ h)))))))
theorem inX3 : ∀ w ∈ wsX30, w ∈ lw_tbl := fun w h => wsL_law_in w (inlX3 w h)
theorem inlX4 : ∀ w ∈ wsX40, w ∈ wsL_law := fun _ h => List.mem_append_left _ (List.mem_append_left _ (List.mem_append_left _ (List.mem_append_left _ (List.mem_append_right _ h))))
theorem inX4 : ∀ w ∈ wsX40, w ∈ lw_tbl := fun w h => wsL_law_in w (inlX4 w h)
theorem inlX5 : ∀ w ∈ wsX50, w ∈ wsL_law := fun _ h => List.mem_append_left _ (List.mem_append_left _ (List.mem_append_left _ (List.mem_append_left _ (List.mem_append_left _ (List.mem_append_left _ (List.mem_append_left _ (List.mem_append_left _ (List.mem_append_left _ (List.mem_append_right _ h)))))))))
theorem inX5 : ∀ w ∈ wsX50, w ∈ lw_tbl := fun w h => wsL_law_in w (inlX5 w h)
theorem inX6 : ∀ w ∈ wsX60, w ∈ lw_tbl := by decide +kernel
theorem inJ6 : ∀ w ∈ wsJ60, w ∈ lw_tbl := by decide +kernel
theorem inJ9 : ∀ w ∈ wsJ90, w ∈ lw_tbl := by decide +kernel
theorem inJ0 : ∀ w ∈ wsJ00, w ∈ lw_tbl := by decide +kernel
set_option maxRecDepth 20000 in
theorem ggL_law_X5_init : GoodIn wsL_law wsX5_init := goodIn_r _ [6, 7, 8, 9, 10, 11, 12, 13, 14, 15, 16, 17, 18, 19, 20, 21, 22, 23, 24, 25, 26, 27, 28, 29, 30, 31, 32, 3, 33, 34, 35, 36, 37, 38, 39, 40, 41, 42, 43, 44, 45, 46, 47, 48, 49, 50, 51, 52, 53, 54, 55, 56, 57, 58, 59, 60, 61, 62, 63, 64, 65, 66, 67, 68, 581, 582, 583, 584, 585, 586, 587, 588, 589, 590, 591, 592, 576, 577, 578, 579, 580, 593, 594, 595, 596, 597, 598, 599, 600, 601, 602, 603, 604, 605, 606] (by decide +kernel) (by decide +kernel)
set_option maxRecDepth 20000 in
theorem gL_law_X5_init : GoodIn wsL_law (wsX5_init) := ggL_law_X5_init
set_option maxRecDepth 20000 in
theorem ggL_law_L_drawn : GoodIn wsL_law wsL_drawn := goodIn_r _ [72, 73, 74] (by decide +kernel) (by decide +kernel)
set_option maxRecDepth 20000 in
theorem gL_law_L_drawn : GoodIn wsL_law (va_wsS RL 160 yL_drawn wsL_drawn) := goodIn_app (goodIn_of _ (by decide +kernel)) ggL_law_L_drawn
set_option maxRecDepth 20000 in
theorem ggL_law_X5_pipes : GoodIn wsL_law wsX5_pipes := goodIn_r _ [78, 13, 79, 80, 81, 12, 82, 83, 576, 577, 578, 579, 580, 581, 582, 583, 584, 585, 586, 587, 588, 589, 590, 591, 592] (by decide +kernel) (by decide +kernel)
set_option maxRecDepth 20000 in
theorem gL_law_X5_pipes : GoodIn wsL_law (wsV RL 84 RX5 yX5_pipes wsX5_pipes) := goodIn_app (goodIn_of _ (by decide +kernel)) ggL_law_X5_pipes
set_option maxRecDepth 20000 in
theorem ggL_law_X5_nodes : GoodIn wsL_law wsX5_nodes := goodIn_r _ [87, 13, 88, 89, 90, 12, 91, 92, 576, 577, 578, 579, 580, 581, 582, 583, 584, 585, 586, 587, 588, 589, 590, 591, 592] (by decide +kernel) (by decide +kernel)
set_option maxRecDepth 20000 in
theorem gL_law_X5_nodes : GoodIn wsL_law (wsV RL 80 RX5 yX5_nodes wsX5_nodes) := goodIn_app (goodIn_of _ (by decide +kernel)) ggL_law_X5_nodes
set_option maxRecDepth 20000 in
theorem sw_refuses_h : GoodIn wsL_law [.code yL_refuses cL_refuses 9 (some .boolean)] := goodIn_r _ [95] (by decide +kernel) (by decide +kernel)
set_option maxRecDepth 20000 in
theorem sw_wsL_refuses_r1 : GoodIn wsL_law wsL_refuses_r1 := goodIn_r _ [96, 97, 98, 84, 85, 86, 2, 87, 13, 88, 89, 90, 12, 91, 92, 75, 76, 77, 78, 79, 80, 81, 82, 83] (by decide +kernel) (by decide +kernel)
set_option maxRecDepth 20000 in
theorem sw_wsL_refuses_r2 : GoodIn wsL_law wsL_refuses_r2 := goodIn_r _ [99, 100, 101, 102, 103, 104, 105, 106, 107, 108, 109, 71, 110, 111, 112, 113, 114, 115, 116, 117, 118, 119, 120, 121] (by decide +kernel) (by decide +kernel)
set_option maxRecDepth 20000 in
theorem sw_wsL_refuses_r3 : GoodIn wsL_law wsL_refuses_r3 := goodIn_r _ [122, 123, 124, 125, 126, 127, 128, 129, 130, 131, 33, 34, 132, 133, 134, 135, 35, 37, 136, 137, 138, 139, 140, 141] (by decide +kernel) (by decide +kernel)
set_option maxRecDepth 20000 in
theorem sw_wsL_refuses_r4 : GoodIn wsL_law wsL_refuses_r4 := goodIn_r _ [142, 143, 144, 145, 146, 147, 148, 149, 150, 151, 152, 36, 153, 154, 155, 156, 38, 157, 158, 159, 160, 161, 162, 163] (by decide +kernel) (by decide +kernel)
set_option maxRecDepth 20000 in
theorem sw_wsL_refuses_r5 : GoodIn wsL_law wsL_refuses_r5 := goodIn_r _ [164, 165, 166, 167, 168, 169, 170, 171, 172, 173, 174, 175, 176, 177, 178, 179, 180, 181, 182, 183, 184, 185, 186, 187] (by decide +kernel) (by decide +kernel)
set_option maxRecDepth 20000 in
theorem sw_wsL_refuses_r6 : GoodIn wsL_law wsL_refuses_r6 := goodIn_r _ [188, 189, 190, 191, 192, 193, 194, 195, 196, 197, 198, 199, 200, 201, 202, 203, 204, 205, 206, 207, 208, 209, 210, 211] (by decide +kernel) (by decide +kernel)
set_option maxRecDepth 20000 in
theorem sw_wsL_refuses_r7 : GoodIn wsL_law wsL_refuses_r7 := goodIn_r _ [212, 213, 214, 215, 216, 217, 218, 219, 220, 221, 222, 223, 224, 225, 226, 227, 228, 229, 230, 231, 232, 233, 234, 235] (by decide +kernel) (by decide +kernel)
set_option maxRecDepth 20000 in
theorem sw_wsL_refuses_r8 : GoodIn wsL_law wsL_refuses_r8 := goodIn_r _ [236, 237, 238, 239, 17, 240, 241, 242, 16, 243, 244, 245, 246, 247, 44, 248, 249, 250, 251, 252, 253, 254, 255, 256] (by decide +kernel) (by decide +kernel)
set_option maxRecDepth 20000 in
theorem sw_wsL_refuses_r9 : GoodIn wsL_law wsL_refuses_r9 := goodIn_r _ [257, 258, 259, 260, 261, 262, 263, 264, 265, 266, 267, 268, 269, 270, 271, 272, 273, 274, 275, 276, 277, 278, 279, 280] (by decide +kernel) (by decide +kernel)
set_option maxRecDepth 20000 in
theorem sw_wsL_refuses_r10 : GoodIn wsL_law wsL_refuses_r10 := goodIn_r _ [281, 282, 283, 43, 284, 285, 286, 287, 288, 289, 290, 291, 292, 293, 294, 295, 296, 297, 298, 299, 300, 301, 302, 303] (by decide +kernel) (by decide +kernel)
set_option maxRecDepth 20000 in
theorem sw_wsL_refuses_r11 : GoodIn wsL_law wsL_refuses_r11 := goodIn_r _ [304, 305, 306, 307, 308, 309, 310, 311, 21, 312, 313, 314, 315, 316, 317, 318, 20, 319, 320, 321, 322, 323, 54, 324] (by decide +kernel) (by decide +kernel)
set_option maxRecDepth 20000 in
theorem sw_wsL_refuses_r12 : GoodIn wsL_law wsL_refuses_r12 := goodIn_r _ [325, 326, 327, 328, 329, 330, 331, 332, 333, 334, 335, 336, 337, 338, 339, 340, 341, 342, 343, 344, 345, 346, 347, 348] (by decide +kernel) (by decide +kernel)
set_option maxRecDepth 20000 in
theorem sw_wsL_refuses_r13 : GoodIn wsL_law wsL_refuses_r13 := goodIn_r _ [349, 350, 351, 352, 353, 354, 355, 356, 357, 358, 359, 360, 361, 362, 363, 364, 365, 366, 367, 368, 369, 370, 371, 372] (by decide +kernel) (by decide +kernel)
set_option maxRecDepth 20000 in
theorem sw_wsL_refuses_r14 : GoodIn wsL_law wsL_refuses_r14 := goodIn_r _ [373, 374, 375, 376, 377, 51, 378, 379, 380, 381, 382, 383, 384, 385, 386, 387, 49, 50, 388, 389, 390, 391, 52, 53] (by decide +kernel) (by decide +kernel)
set_option maxRecDepth 20000 in
theorem sw_wsL_refuses_r15 : GoodIn wsL_law wsL_refuses_r15 := goodIn_r _ [392, 393, 394, 395, 396, 397, 398, 399, 400, 401, 402, 403, 404, 405, 406, 407, 408, 409, 410, 411, 412, 413, 414, 415] (by decide +kernel) (by decide +kernel)
set_option maxRecDepth 20000 in
theorem sw_wsL_refuses_r16 : GoodIn wsL_law wsL_refuses_r16 := goodIn_r _ [416, 417, 418, 419, 420, 421, 422, 423, 424, 425, 426, 427, 428, 429, 430, 25, 431, 432, 433, 24, 434, 59, 435, 436] (by decide +kernel) (by decide +kernel)
set_option maxRecDepth 20000 in
theorem sw_wsL_refuses_r17 : GoodIn wsL_law wsL_refuses_r17 := goodIn_r _ [437, 438, 439, 60, 440, 441, 442, 443, 444, 445, 446, 447, 448, 449, 450, 451, 452, 453, 454, 455, 456, 457, 458, 459] (by decide +kernel) (by decide +kernel)
set_option maxRecDepth 20000 in
theorem sw_wsL_refuses_r18 : GoodIn wsL_law wsL_refuses_r18 := goodIn_r _ [460, 461, 462, 463, 464, 465, 466, 467, 468, 469, 470, 471, 472, 473, 474, 475, 476, 477, 478, 479, 480, 481, 482, 483] (by decide +kernel) (by decide +kernel)
set_option maxRecDepth 20000 in
theorem sw_wsL_refuses_r19 : GoodIn wsL_law wsL_refuses_r19 := goodIn_r _ [484, 485, 486, 487, 488, 489, 490, 491, 492, 493, 494, 495, 29, 496, 497, 498, 499, 28, 500, 67, 501, 502, 503, 504] (by decide +kernel) (by decide +kernel)
set_option maxRecDepth 20000 in
theorem sw_wsL_refuses_r20 : GoodIn wsL_law wsL_refuses_r20 := goodIn_r _ [505, 506, 68, 66, 507, 508, 509, 510, 511, 512, 65, 513, 514, 515, 516, 517, 518, 519, 520, 521, 522, 523, 524, 525] (by decide +kernel) (by decide +kernel)
set_option maxRecDepth 20000 in
theorem sw_wsL_refuses_r21 : GoodIn wsL_law wsL_refuses_r21 := goodIn_r _ [526, 527, 528, 529, 530, 531, 532, 533, 534, 535, 536, 537, 538, 539, 540, 541, 542, 543, 544] (by decide +kernel) (by decide +kernel)
set_option maxRecDepth 20000 in
theorem sw_refuses_X5 : GoodIn wsL_law wsX50 := goodIn_r _ [576, 577, 578, 579, 580] (by decide +kernel) (by decide +kernel)
set_option maxRecDepth 20000 in
theorem sw_refuses_X2 : GoodIn wsL_law wsX20 := goodIn_r _ [581, 582, 583, 584, 585, 586, 587, 588, 589, 590, 591, 592] (by decide +kernel) (by decide +kernel)
set_option maxRecDepth 20000 in
theorem sw_refuses_X3 : GoodIn wsL_law wsX30 := goodIn_r _ [593, 594] (by decide +kernel) (by decide +kernel)
set_option maxRecDepth 20000 in
theorem sw_refuses_X0 : GoodIn wsL_law wsX00 := goodIn_r _ [595, 596, 597, 598, 599, 600] (by decide +kernel) (by decide +kernel)
set_option maxRecDepth 20000 in
theorem sw_refuses_X1 : GoodIn wsL_law wsX10 := goodIn_r _ [601, 602] (by decide +kernel) (by decide +kernel)
set_option maxRecDepth 20000 in
theorem sw_refuses_X4 : GoodIn wsL_law wsX40 := goodIn_r _ [603, 604, 605, 606] (by decide +kernel) (by decide +kernel)
theorem ggL_law_L_refuses : GoodIn wsL_law wsL_refuses := goodIn_cons sw_refuses_h (goodIn_app (goodIn_app (goodIn_app (goodIn_app (goodIn_app (goodIn_app (goodIn_app (goodIn_app (goodIn_app (goodIn_app sw_wsL_refuses_r1 (goodIn_app sw_wsL_refuses_r2 (goodIn_app sw_wsL_refuses_r3 (goodIn_app sw_wsL_refuses_r4 (goodIn_app sw_wsL_refuses_r5 (goodIn_app sw_wsL_refuses_r6 (goodIn_app sw_wsL_refuses_r7 (goodIn_app sw_wsL_refuses_r8 (goodIn_app sw_wsL_refuses_r9 (goodIn_app sw_wsL_refuses_r10 (goodIn_app sw_wsL_refuses_r11 (goodIn_app sw_wsL_refuses_r12 (goodIn_app sw_wsL_refuses_r13 (goodIn_app sw_wsL_refuses_r14 (goodIn_app sw_wsL_refuses_r15 (goodIn_app sw_wsL_refuses_r16 (goodIn_app sw_wsL_refuses_r17 (goodIn_app sw_wsL_refuses_r18 (goodIn_app sw_wsL_refuses_r19 (goodIn_app sw_wsL_refuses_r20 sw_wsL_refuses_r21)))))))))))))))))))) sw_refuses_X5) sw_refuses_X2) sw_refuses_X3) sw_refuses_X0) sw_refuses_X1) sw_refuses_X4) (goodIn_sub (fun _ h => List.mem_append_left _ (List.mem_append_left _ (List.mem_append_right _ h))) (by decide +kernel))) (goodIn_sub (fun _ h => List.mem_append_left _ (List.mem_append_right _ h)) (by decide +kernel))) (goodIn_sub (fun _ h => List.mem_append_right _ h) (by decide +kernel)))
set_option maxRecDepth 20000 in
theorem gL_law_L_refuses : GoodIn wsL_law (va_wsS RL 164 yL_refuses wsL_refuses) := goodIn_app (goodIn_of _ (by decide +kernel)) ggL_law_L_refuses
set_option maxRecDepth 20000 in
theorem ggL_law_L_act : GoodIn wsL_law wsL_act := goodIn_ca (goodIn_ca (goodIn_ca (goodIn_r _ [547, 84, 85, 86, 2, 87, 13, 88, 89, 90, 12, 91, 92, 99, 100, 101, 102, 103, 104, 105, 106, 107, 533, 534, 71, 535, 113, 98, 536, 537, 538, 539, 120, 121, 540, 541, 542, 543, 544, 165, 166, 167, 168, 169, 170, 171, 172, 108, 109, 110, 111, 112, 96, 97, 114, 115, 116, 117, 118, 119, 122, 123, 124, 125, 126, 127, 79, 80, 81, 82, 83, 128, 129, 130, 131, 33, 34, 132, 133, 134, 135, 35, 37, 136, 137, 75, 76, 77, 78, 138, 139, 140, 141, 142, 143, 144, 145, 146, 147, 148, 149, 150, 151, 152, 36, 153, 154, 155, 156, 38, 157, 158, 159, 160, 161, 162, 163, 164, 173, 174, 175, 176, 177, 178, 179, 180, 181, 182, 183, 184, 185, 186, 187, 188, 189, 190, 191, 192, 193, 194, 195, 196, 197, 198, 199, 200, 201, 202, 203, 204, 576, 577, 578, 579, 580, 581, 582, 583, 584, 585, 586, 587, 588, 589, 590, 591, 592] (by decide +kernel) (by decide +kernel)) (goodIn_sub (fun _ h => List.mem_append_left _ (List.mem_append_right _ h)) (by decide +kernel))) (goodIn_sub (fun _ h => List.mem_append_left _ (List.mem_append_left _ (List.mem_append_right _ h))) (by decide +kernel))) (goodIn_sub (fun _ h => List.mem_append_right _ h) (by decide +kernel))
set_option maxRecDepth 20000 in
theorem gL_law_L_act : GoodIn wsL_law (va_wsS RL 168 yL_act wsL_act) := goodIn_app (goodIn_of _ (by decide +kernel)) ggL_law_L_act
set_option maxRecDepth 20000 in
theorem sw_alike_h : GoodIn wsL_law [.code yL_alike cL_alike 7 (some .boolean)] := goodIn_r _ [550] (by decide +kernel) (by decide +kernel)
set_option maxRecDepth 20000 in
theorem sw_wsL_alike_r1 : GoodIn wsL_law wsL_alike_r1 := goodIn_r _ [84, 85, 86, 2, 87, 13, 88, 89, 90, 12, 91, 92, 75, 76, 77, 78, 79, 80, 81, 82, 83, 99, 100, 101] (by decide +kernel) (by decide +kernel)
set_option maxRecDepth 20000 in
theorem sw_wsL_alike_r2 : GoodIn wsL_law wsL_alike_r2 := goodIn_r _ [102, 103, 104, 105, 106, 107, 551, 552, 553, 554, 216, 217, 218, 219, 168, 204, 220, 221, 222, 223, 36, 37, 555, 364] (by decide +kernel) (by decide +kernel)
set_option maxRecDepth 20000 in
theorem sw_wsL_alike_r3 : GoodIn wsL_law wsL_alike_r3 := goodIn_r _ [365, 366, 34, 136, 137, 169, 170, 556, 557, 558, 559, 17, 560, 561, 562, 16, 563, 254, 255, 256, 257, 44, 258, 259] (by decide +kernel) (by decide +kernel)
set_option maxRecDepth 20000 in
theorem sw_wsL_alike_r4 : GoodIn wsL_law wsL_alike_r4 := goodIn_r _ [260, 261, 244, 245, 246, 247, 248, 205, 206, 71, 207, 111, 96, 208, 209, 210, 211, 122, 123, 124, 125, 126, 127, 212] (by decide +kernel) (by decide +kernel)
set_option maxRecDepth 20000 in
theorem sw_wsL_alike_r5 : GoodIn wsL_law wsL_alike_r5 := goodIn_r _ [213, 214, 215, 224, 233, 234, 235, 236, 237, 238, 239, 240, 241, 242, 243, 249, 250, 251, 252, 253, 424, 425, 426, 427] (by decide +kernel) (by decide +kernel)
set_option maxRecDepth 20000 in
theorem sw_wsL_alike_r6 : GoodIn wsL_law wsL_alike_r6 := goodIn_r _ [428, 429, 430, 25, 431, 432, 433, 24, 434, 59, 435, 436, 437, 438, 439, 60, 440, 330, 331, 332, 441, 442, 443, 444] (by decide +kernel) (by decide +kernel)
set_option maxRecDepth 20000 in
theorem sw_wsL_alike_r7 : GoodIn wsL_law wsL_alike_r7 := goodIn_r _ [445, 446, 447, 150, 151, 152, 448, 449, 450, 451, 452, 299, 296, 300, 453, 287, 288, 289, 35, 454, 455, 456, 457, 33] (by decide +kernel) (by decide +kernel)
set_option maxRecDepth 20000 in
theorem sw_wsL_alike_r8 : GoodIn wsL_law wsL_alike_r8 := goodIn_r _ [225, 226, 227, 228, 229, 230, 231, 145, 146, 147, 148, 232, 262, 263, 264, 265, 266, 267, 268, 305, 306, 307, 113, 98] (by decide +kernel) (by decide +kernel)
set_option maxRecDepth 20000 in
theorem sw_wsL_alike_r9 : GoodIn wsL_law wsL_alike_r9 := goodIn_r _ [308, 309, 310, 311, 21, 312, 313, 314, 315, 120, 121, 316, 317, 318, 20, 319, 320, 321, 322, 323, 54, 324, 325, 326] (by decide +kernel) (by decide +kernel)
set_option maxRecDepth 20000 in
theorem sw_wsL_alike_r10 : GoodIn wsL_law wsL_alike_r10 := goodIn_r _ [327, 188, 328, 329, 333, 334, 335, 336, 337, 338, 339, 340, 341, 38, 342, 343, 344, 345, 346, 347, 348, 349, 350, 351] (by decide +kernel) (by decide +kernel)
set_option maxRecDepth 20000 in
theorem sw_wsL_alike_r11 : GoodIn wsL_law wsL_alike_r11 := goodIn_r _ [352, 353, 354, 355, 356, 357, 358, 359, 360, 361, 362, 363, 458, 459, 460, 461, 462, 463, 464, 465, 466, 467, 468, 469] (by decide +kernel) (by decide +kernel)
set_option maxRecDepth 20000 in
theorem sw_wsL_alike_r12 : GoodIn wsL_law wsL_alike_r12 := goodIn_r _ [470, 471, 472, 473, 474, 475, 476, 477, 478, 479, 480, 481, 482, 483, 484, 485, 486, 487, 488, 367, 368, 369, 370, 371] (by decide +kernel) (by decide +kernel)
set_option maxRecDepth 20000 in
theorem sw_wsL_alike_r13 : GoodIn wsL_law wsL_alike_r13 := goodIn_r _ [372, 373, 374, 375, 376, 377, 51, 378, 379, 380, 381, 382, 383, 384, 385, 386, 387, 49, 50, 388, 389, 390, 391, 52] (by decide +kernel) (by decide +kernel)
set_option maxRecDepth 20000 in
theorem sw_wsL_alike_r14 : GoodIn wsL_law wsL_alike_r14 := goodIn_r _ [53, 392, 393, 394, 395, 396, 397, 398, 399, 400, 401, 402, 403, 404, 405, 406, 407, 408, 409, 410, 411, 412, 413, 414] (by decide +kernel) (by decide +kernel)
set_option maxRecDepth 20000 in
theorem sw_wsL_alike_r15 : GoodIn wsL_law wsL_alike_r15 := goodIn_r _ [415, 416, 417, 418, 419, 420, 421, 422, 423] (by decide +kernel) (by decide +kernel)
set_option maxRecDepth 20000 in
theorem sw_alike_X5 : GoodIn wsL_law wsX50 := goodIn_r _ [576, 577, 578, 579, 580] (by decide +kernel) (by decide +kernel)
set_option maxRecDepth 20000 in
theorem sw_alike_X2 : GoodIn wsL_law wsX20 := goodIn_r _ [581, 582, 583, 584, 585, 586, 587, 588, 589, 590, 591, 592] (by decide +kernel) (by decide +kernel)
set_option maxRecDepth 20000 in
theorem sw_alike_X3 : GoodIn wsL_law wsX30 := goodIn_r _ [593, 594] (by decide +kernel) (by decide +kernel)
set_option maxRecDepth 20000 in
theorem sw_alike_X1 : GoodIn wsL_law wsX10 := goodIn_r _ [601, 602] (by decide +kernel) (by decide +kernel)
set_option maxRecDepth 20000 in
theorem sw_alike_X0 : GoodIn wsL_law wsX00 := goodIn_r _ [595, 596, 597, 598, 599, 600] (by decide +kernel) (by decide +kernel)
theorem ggL_law_L_alike : GoodIn wsL_law wsL_alike := goodIn_cons sw_alike_h (goodIn_app (goodIn_app (goodIn_app (goodIn_app (goodIn_app (goodIn_app (goodIn_app (goodIn_app sw_wsL_alike_r1 (goodIn_app sw_wsL_alike_r2 (goodIn_app sw_wsL_alike_r3 (goodIn_app sw_wsL_alike_r4 (goodIn_app sw_wsL_alike_r5 (goodIn_app sw_wsL_alike_r6 (goodIn_app sw_wsL_alike_r7 (goodIn_app sw_wsL_alike_r8 (goodIn_app sw_wsL_alike_r9 (goodIn_app sw_wsL_alike_r10 (goodIn_app sw_wsL_alike_r11 (goodIn_app sw_wsL_alike_r12 (goodIn_app sw_wsL_alike_r13 (goodIn_app sw_wsL_alike_r14 sw_wsL_alike_r15)))))))))))))) sw_alike_X5) sw_alike_X2) sw_alike_X3) sw_alike_X1) sw_alike_X0) (goodIn_sub (fun _ h => List.mem_append_right _ h) (by decide +kernel))) (goodIn_sub (fun _ h => List.mem_append_left _ (List.mem_append_right _ h)) (by decide +kernel)))
set_option maxRecDepth 20000 in
theorem gL_law_L_alike : GoodIn wsL_law (va_wsS RL 171 yL_alike wsL_alike) := goodIn_app (goodIn_of _ (by decide +kernel)) ggL_law_L_alike
set_option maxRecDepth 20000 in
theorem sw_holds_h : GoodIn wsL_law [.code yL_holds cL_holds 10 (some .boolean)] := goodIn_r _ [566] (by decide +kernel) (by decide +kernel)
set_option maxRecDepth 20000 in
theorem sw_wsL_holds_r1 : GoodIn wsL_law wsL_holds_r1 := goodIn_r _ [556, 557, 558, 2, 559, 17, 560, 561, 562, 16, 563, 254, 255, 256, 257, 44, 258, 259, 260, 12, 261, 92, 83, 136] (by decide +kernel) (by decide +kernel)
set_option maxRecDepth 20000 in
theorem sw_wsL_holds_r2 : GoodIn wsL_law wsL_holds_r2 := goodIn_r _ [137, 169, 170, 244, 245, 246, 247, 248, 221, 222, 223, 36, 37, 84, 85, 86, 87, 13, 88, 89, 90, 91, 75, 76] (by decide +kernel) (by decide +kernel)
set_option maxRecDepth 20000 in
theorem sw_wsL_holds_r3 : GoodIn wsL_law wsL_holds_r3 := goodIn_r _ [77, 78, 79, 80, 81, 82, 458, 459, 71, 460, 111, 96, 461, 462, 463, 464, 126, 127, 25, 465, 466, 467, 24, 468] (by decide +kernel) (by decide +kernel)
set_option maxRecDepth 20000 in
theorem sw_wsL_holds_r4 : GoodIn wsL_law wsL_holds_r4 := goodIn_r _ [60, 436, 437, 438, 439, 59, 435, 440, 330, 331, 332, 168, 441, 442, 443, 444, 445, 446, 204, 447, 150, 151, 152, 448] (by decide +kernel) (by decide +kernel)
set_option maxRecDepth 20000 in
theorem sw_wsL_holds_r5 : GoodIn wsL_law wsL_holds_r5 := goodIn_r _ [449, 450, 451, 452, 299, 296, 300, 453, 287, 288, 289, 35, 454, 455, 456, 457, 33, 469, 470, 471, 472, 473, 474, 475] (by decide +kernel) (by decide +kernel)
set_option maxRecDepth 20000 in
theorem sw_wsL_holds_r6 : GoodIn wsL_law wsL_holds_r6 := goodIn_r _ [476, 477, 478, 479, 480, 481, 482, 483, 484, 485, 486, 487, 488, 225, 226, 227, 228, 229, 230, 231, 145, 146, 147, 148] (by decide +kernel) (by decide +kernel)
set_option maxRecDepth 20000 in
theorem sw_wsL_holds_r7 : GoodIn wsL_law wsL_holds_r7 := goodIn_r _ [232, 212, 213, 214, 215, 216, 217, 218, 219, 220, 224, 424, 425, 426, 427, 428, 429, 430, 122, 123, 124, 125, 431, 432] (by decide +kernel) (by decide +kernel)
set_option maxRecDepth 20000 in
theorem sw_wsL_holds_r8 : GoodIn wsL_law wsL_holds_r8 := goodIn_r _ [433, 434, 262, 263, 264, 265, 266, 267, 268, 240, 241, 242, 243, 249, 250, 251, 252, 253, 269, 270, 271, 272, 273, 274] (by decide +kernel) (by decide +kernel)
set_option maxRecDepth 20000 in
theorem sw_wsL_holds_r9 : GoodIn wsL_law wsL_holds_r9 := goodIn_r _ [275, 276, 277, 278, 279, 280, 281, 282, 283, 43, 284, 285, 286, 290, 291, 292, 293, 294, 295, 297, 298, 301, 302, 303] (by decide +kernel) (by decide +kernel)
set_option maxRecDepth 20000 in
theorem sw_wsL_holds_r10 : GoodIn wsL_law wsL_holds_r10 := goodIn_r _ [304, 205, 206, 207, 208, 209, 210, 211, 233, 234, 235, 236, 237, 238, 239, 489, 490, 491, 112, 97, 492, 493, 494, 495] (by decide +kernel) (by decide +kernel)
set_option maxRecDepth 20000 in
theorem sw_wsL_holds_r11 : GoodIn wsL_law wsL_holds_r11 := goodIn_r _ [118, 119, 29, 103, 104, 105, 106, 107, 496, 419, 420, 421, 422, 423, 497, 498, 499, 28, 500, 67, 501, 502, 503, 504] (by decide +kernel) (by decide +kernel)
set_option maxRecDepth 20000 in
theorem sw_wsL_holds_r12 : GoodIn wsL_law wsL_holds_r12 := goodIn_r _ [505, 506, 68, 66, 507, 508, 343, 344, 345, 38, 509, 510, 511, 512, 65, 513, 514, 515, 516, 517, 518, 519, 520, 521] (by decide +kernel) (by decide +kernel)
set_option maxRecDepth 20000 in
theorem sw_wsL_holds_r13 : GoodIn wsL_law wsL_holds_r13 := goodIn_r _ [522, 523, 524, 525, 526, 527, 528, 529, 530, 531, 532] (by decide +kernel) (by decide +kernel)
set_option maxRecDepth 20000 in
theorem sw_holds_X5 : GoodIn wsL_law wsX50 := goodIn_r _ [576, 577, 578, 579, 580] (by decide +kernel) (by decide +kernel)
set_option maxRecDepth 20000 in
theorem sw_holds_X3 : GoodIn wsL_law wsX30 := goodIn_r _ [593, 594] (by decide +kernel) (by decide +kernel)
set_option maxRecDepth 20000 in
theorem sw_holds_X2 : GoodIn wsL_law wsX20 := goodIn_r _ [581, 582, 583, 584, 585, 586, 587, 588, 589, 590, 591, 592] (by decide +kernel) (by decide +kernel)
set_option maxRecDepth 20000 in
theorem sw_holds_X1 : GoodIn wsL_law wsX10 := goodIn_r _ [601, 602] (by decide +kernel) (by decide +kernel)
set_option maxRecDepth 20000 in
theorem sw_holds_X4 : GoodIn wsL_law wsX40 := goodIn_r _ [603, 604, 605, 606] (by decide +kernel) (by decide +kernel)
theorem ggL_law_L_holds : GoodIn wsL_law wsL_holds := goodIn_cons sw_holds_h (goodIn_app (goodIn_app (goodIn_app (goodIn_app (goodIn_app (goodIn_app (goodIn_app (goodIn_app sw_wsL_holds_r1 (goodIn_app sw_wsL_holds_r2 (goodIn_app sw_wsL_holds_r3 (goodIn_app sw_wsL_holds_r4 (goodIn_app sw_wsL_holds_r5 (goodIn_app sw_wsL_holds_r6 (goodIn_app sw_wsL_holds_r7 (goodIn_app sw_wsL_holds_r8 (goodIn_app sw_wsL_holds_r9 (goodIn_app sw_wsL_holds_r10 (goodIn_app sw_wsL_holds_r11 (goodIn_app sw_wsL_holds_r12 sw_wsL_holds_r13)))))))))))) sw_holds_X5) sw_holds_X3) sw_holds_X2) sw_holds_X1) sw_holds_X4) (goodIn_sub (fun _ h => List.mem_append_right _ h) (by decide +kernel))) (goodIn_sub (fun _ h => List.mem_append_left _ (List.mem_append_left _ (List.mem_append_right _ h))) (by decide +kernel)))
set_option maxRecDepth 20000 in
theorem gL_law_L_holds : GoodIn wsL_law (va_wsS RL 175 yL_holds wsL_holds) := goodIn_app (goodIn_of _ (by decide +kernel)) ggL_law_L_holds
set_option maxRecDepth 20000 in
theorem ggL_law_L_breaks : GoodIn wsL_law wsL_breaks := goodIn_ca (goodIn_ca (goodIn_r _ [569, 98, 551, 552, 553, 2, 554, 13, 216, 217, 218, 12, 219, 168, 204, 220, 221, 222, 223, 83, 36, 37, 555, 364, 365, 366, 34, 136, 137, 169, 170, 225, 226, 71, 227, 111, 96, 228, 229, 230, 231, 145, 146, 147, 148, 126, 127, 79, 80, 81, 82, 232, 212, 213, 214, 215, 224, 305, 306, 307, 113, 308, 309, 310, 311, 21, 312, 313, 314, 315, 120, 121, 316, 317, 318, 20, 319, 320, 321, 322, 323, 54, 324, 325, 326, 327, 188, 328, 329, 330, 331, 332, 333, 334, 335, 336, 337, 104, 105, 106, 107, 338, 339, 340, 341, 38, 342, 343, 344, 345, 35, 346, 347, 348, 349, 350, 351, 352, 353, 354, 355, 356, 357, 358, 359, 360, 361, 362, 363, 570, 571, 572, 99, 100, 101, 102, 103, 189, 190, 191, 192, 193, 194, 195, 180, 181, 182, 183, 196, 197, 198, 199, 200, 201, 202, 203, 171, 172, 367, 368, 369, 370, 371, 372, 373, 374, 375, 376, 377, 51, 378, 379, 380, 381, 382, 383, 384, 385, 386, 387, 49, 50, 388, 389, 390, 391, 52, 53, 392, 393, 394, 395, 396, 397, 398, 399, 400, 401, 402, 403, 404, 405, 406, 407, 408, 409, 410, 411, 412, 413, 414, 415, 416, 417, 418, 419, 251, 420, 421, 422, 423, 573, 574, 575, 576, 577, 578, 579, 580, 581, 582, 583, 584, 585, 586, 587, 588, 589, 590, 591, 592, 595, 596, 597, 598, 599, 600] (by decide +kernel) (by decide +kernel)) (goodIn_sub (fun _ h => List.mem_append_right _ h) (by decide +kernel))) (goodIn_sub (fun _ h => List.mem_append_left _ (List.mem_append_right _ h)) (by decide +kernel))
set_option maxRecDepth 20000 in
theorem gL_law_L_breaks : GoodIn wsL_law (va_wsS RL 179 yL_breaks wsL_breaks) := goodIn_app (goodIn_of _ (by decide +kernel)) ggL_law_L_breaks
theorem dL_law_0 : decode cL_law 0 = .ok (.new 8, 3) := by decide +kernel
theorem dL_law_3 : decode cL_law 3 = .ok (.dup, 1) := by decide +kernel
theorem dL_law_4 : decode cL_law 4 = .ok (.invokespecial 159, 3) := by decide +kernel
theorem dL_law_7 : decode cL_law 7 = .ok (.astore_n 1, 1) := by decide +kernel
theorem dL_law_8 : decode cL_law 8 = .ok (.new 8, 3) := by decide +kernel
theorem dL_law_11 : decode cL_law 11 = .ok (.dup, 1) := by decide +kernel
theorem dL_law_12 : decode cL_law 12 = .ok (.invokespecial 159, 3) := by decide +kernel
theorem dL_law_15 : decode cL_law 15 = .ok (.astore_n 2, 1) := by decide +kernel
theorem dL_law_16 : decode cL_law 16 = .ok (.bipush 16, 2) := by decide +kernel
theorem dL_law_18 : decode cL_law 18 = .ok (.newarray .int, 2) := by decide +kernel
theorem dL_law_20 : decode cL_law 20 = .ok (.astore_n 3, 1) := by decide +kernel
theorem dL_law_21 : decode cL_law 21 = .ok (.bipush 14, 2) := by decide +kernel
theorem dL_law_23 : decode cL_law 23 = .ok (.aload_n 0, 1) := by decide +kernel
theorem dL_law_24 : decode cL_law 24 = .ok (.iconst 0, 1) := by decide +kernel
theorem dL_law_25 : decode cL_law 25 = .ok (.invokestatic 160, 3) := by decide +kernel
theorem dL_law_28 : decode cL_law 28 = .ok (.bipush 23, 2) := by decide +kernel
theorem dL_law_30 : decode cL_law 30 = .ok (.irem, 1) := by decide +kernel
theorem dL_law_31 : decode cL_law 31 = .ok (.iadd, 1) := by decide +kernel
theorem dL_law_32 : decode cL_law 32 = .ok (.istore 4, 2) := by decide +kernel
theorem dL_law_34 : decode cL_law 34 = .ok (.iconst 1, 1) := by decide +kernel
theorem dL_law_35 : decode cL_law 35 = .ok (.istore 5, 2) := by decide +kernel
theorem dL_law_37 : decode cL_law 37 = .ok (.iconst 0, 1) := by decide +kernel
theorem dL_law_38 : decode cL_law 38 = .ok (.istore 6, 2) := by decide +kernel
theorem dL_law_40 : decode cL_law 40 = .ok (.iload 6, 2) := by decide +kernel
theorem dL_law_42 : decode cL_law 42 = .ok (.iload 4, 2) := by decide +kernel
theorem dL_law_44 : decode cL_law 44 = .ok (.if_icmp .ge 224, 3) := by decide +kernel
theorem dL_law_47 : decode cL_law 47 = .ok (.iload 5, 2) := by decide +kernel
theorem dL_law_49 : decode cL_law 49 = .ok (.ifCond .eq 219, 3) := by decide +kernel
theorem dL_law_52 : decode cL_law 52 = .ok (.aload_n 0, 1) := by decide +kernel
theorem dL_law_53 : decode cL_law 53 = .ok (.iconst 1, 1) := by decide +kernel
theorem dL_law_54 : decode cL_law 54 = .ok (.iload 6, 2) := by decide +kernel
theorem dL_law_56 : decode cL_law 56 = .ok (.iadd, 1) := by decide +kernel
theorem dL_law_57 : decode cL_law 57 = .ok (.invokestatic 160, 3) := by decide +kernel
theorem dL_law_60 : decode cL_law 60 = .ok (.istore 7, 2) := by decide +kernel
theorem dL_law_62 : decode cL_law 62 = .ok (.iload 6, 2) := by decide +kernel
theorem dL_law_64 : decode cL_law 64 = .ok (.iconst 4, 1) := by decide +kernel
theorem dL_law_65 : decode cL_law 65 = .ok (.if_icmp .ge 14, 3) := by decide +kernel
theorem dL_law_68 : decode cL_law 68 = .ok (.iload 7, 2) := by decide +kernel
theorem dL_law_70 : decode cL_law 70 = .ok (.bipush 16, 2) := by decide +kernel
theorem dL_law_72 : decode cL_law 72 = .ok (.idiv, 1) := by decide +kernel
theorem dL_law_73 : decode cL_law 73 = .ok (.bipush 16, 2) := by decide +kernel
theorem dL_law_75 : decode cL_law 75 = .ok (.imul, 1) := by decide +kernel
theorem dL_law_76 : decode cL_law 76 = .ok (.goto 25, 3) := by decide +kernel
theorem dL_law_79 : decode cL_law 79 = .ok (.iload 6, 2) := by decide +kernel
theorem dL_law_81 : decode cL_law 81 = .ok (.bipush 7, 2) := by decide +kernel
theorem dL_law_83 : decode cL_law 83 = .ok (.if_icmp .ge 16, 3) := by decide +kernel
theorem dL_law_86 : decode cL_law 86 = .ok (.iload 7, 2) := by decide +kernel
theorem dL_law_88 : decode cL_law 88 = .ok (.bipush 16, 2) := by decide +kernel
theorem dL_law_90 : decode cL_law 90 = .ok (.idiv, 1) := by decide +kernel
theorem dL_law_91 : decode cL_law 91 = .ok (.bipush 16, 2) := by decide +kernel
theorem dL_law_93 : decode cL_law 93 = .ok (.imul, 1) := by decide +kernel
theorem dL_law_94 : decode cL_law 94 = .ok (.iconst 2, 1) := by decide +kernel
theorem dL_law_95 : decode cL_law 95 = .ok (.iadd, 1) := by decide +kernel
theorem dL_law_96 : decode cL_law 96 = .ok (.goto 5, 3) := by decide +kernel
theorem dL_law_99 : decode cL_law 99 = .ok (.iload 7, 2) := by decide +kernel
theorem dL_law_101 : decode cL_law 101 = .ok (.istore 7, 2) := by decide +kernel
theorem dL_law_103 : decode cL_law 103 = .ok (.aload_n 1, 1) := by decide +kernel
theorem dL_law_104 : decode cL_law 104 = .ok (.invokevirtual 84, 3) := by decide +kernel
theorem dL_law_107 : decode cL_law 107 = .ok (.istore 8, 2) := by decide +kernel
theorem dL_law_109 : decode cL_law 109 = .ok (.aload_n 1, 1) := by decide +kernel
theorem dL_law_110 : decode cL_law 110 = .ok (.invokevirtual 80, 3) := by decide +kernel
theorem dL_law_113 : decode cL_law 113 = .ok (.ifCond .ne 7, 3) := by decide +kernel
theorem dL_law_116 : decode cL_law 116 = .ok (.iconst 1, 1) := by decide +kernel
theorem dL_law_117 : decode cL_law 117 = .ok (.goto 7, 3) := by decide +kernel
theorem dL_law_120 : decode cL_law 120 = .ok (.aload_n 1, 1) := by decide +kernel
theorem dL_law_121 : decode cL_law 121 = .ok (.invokevirtual 80, 3) := by decide +kernel
theorem dL_law_124 : decode cL_law 124 = .ok (.istore 9, 2) := by decide +kernel
theorem dL_law_126 : decode cL_law 126 = .ok (.aload_n 2, 1) := by decide +kernel
theorem dL_law_127 : decode cL_law 127 = .ok (.iload 7, 2) := by decide +kernel
theorem dL_law_129 : decode cL_law 129 = .ok (.sipush 9973, 3) := by decide +kernel
theorem dL_law_132 : decode cL_law 132 = .ok (.irem, 1) := by decide +kernel
theorem dL_law_133 : decode cL_law 133 = .ok (.invokestatic 164, 3) := by decide +kernel
theorem dL_law_136 : decode cL_law 136 = .ok (.ifCond .eq 37, 3) := by decide +kernel
theorem dL_law_139 : decode cL_law 139 = .ok (.aload_n 1, 1) := by decide +kernel
theorem dL_law_140 : decode cL_law 140 = .ok (.iload 7, 2) := by decide +kernel
theorem dL_law_142 : decode cL_law 142 = .ok (.iconst 0, 1) := by decide +kernel
theorem dL_law_143 : decode cL_law 143 = .ok (.invokestatic 168, 3) := by decide +kernel
theorem dL_law_146 : decode cL_law 146 = .ok (.aload_n 2, 1) := by decide +kernel
theorem dL_law_147 : decode cL_law 147 = .ok (.iload 7, 2) := by decide +kernel
theorem dL_law_149 : decode cL_law 149 = .ok (.iconst 1, 1) := by decide +kernel
theorem dL_law_150 : decode cL_law 150 = .ok (.invokestatic 168, 3) := by decide +kernel
theorem dL_law_153 : decode cL_law 153 = .ok (.if_icmp .ne 20, 3) := by decide +kernel
theorem dL_law_156 : decode cL_law 156 = .ok (.aload_n 2, 1) := by decide +kernel
theorem dL_law_157 : decode cL_law 157 = .ok (.iload 7, 2) := by decide +kernel
theorem dL_law_159 : decode cL_law 159 = .ok (.sipush 499, 3) := by decide +kernel
theorem dL_law_162 : decode cL_law 162 = .ok (.irem, 1) := by decide +kernel
theorem dL_law_163 : decode cL_law 163 = .ok (.invokestatic 164, 3) := by decide +kernel
theorem dL_law_166 : decode cL_law 166 = .ok (.ifCond .eq 7, 3) := by decide +kernel
theorem dL_law_169 : decode cL_law 169 = .ok (.iconst 1, 1) := by decide +kernel
theorem dL_law_170 : decode cL_law 170 = .ok (.goto 4, 3) := by decide +kernel
theorem dL_law_173 : decode cL_law 173 = .ok (.iconst 0, 1) := by decide +kernel
theorem dL_law_174 : decode cL_law 174 = .ok (.istore 5, 2) := by decide +kernel
theorem dL_law_176 : decode cL_law 176 = .ok (.aload_n 1, 1) := by decide +kernel
theorem dL_law_177 : decode cL_law 177 = .ok (.invokevirtual 84, 3) := by decide +kernel
theorem dL_law_180 : decode cL_law 180 = .ok (.iload 8, 2) := by decide +kernel
theorem dL_law_182 : decode cL_law 182 = .ok (.if_icmp .le 47, 3) := by decide +kernel
theorem dL_law_185 : decode cL_law 185 = .ok (.iload 7, 2) := by decide +kernel
theorem dL_law_187 : decode cL_law 187 = .ok (.bipush 16, 2) := by decide +kernel
theorem dL_law_189 : decode cL_law 189 = .ok (.idiv, 1) := by decide +kernel
theorem dL_law_190 : decode cL_law 190 = .ok (.istore 10, 2) := by decide +kernel
theorem dL_law_192 : decode cL_law 192 = .ok (.aload_n 3, 1) := by decide +kernel
theorem dL_law_193 : decode cL_law 193 = .ok (.iload 8, 2) := by decide +kernel
theorem dL_law_195 : decode cL_law 195 = .ok (.sipush 10000, 3) := by decide +kernel
theorem dL_law_198 : decode cL_law 198 = .ok (.iload 10, 2) := by decide +kernel
theorem dL_law_200 : decode cL_law 200 = .ok (.iload 9, 2) := by decide +kernel
theorem dL_law_202 : decode cL_law 202 = .ok (.irem, 1) := by decide +kernel
theorem dL_law_203 : decode cL_law 203 = .ok (.imul, 1) := by decide +kernel
theorem dL_law_204 : decode cL_law 204 = .ok (.bipush 100, 2) := by decide +kernel
theorem dL_law_206 : decode cL_law 206 = .ok (.iload 10, 2) := by decide +kernel
theorem dL_law_208 : decode cL_law 208 = .ok (.bipush 12, 2) := by decide +kernel
theorem dL_law_210 : decode cL_law 210 = .ok (.idiv, 1) := by decide +kernel
theorem dL_law_211 : decode cL_law 211 = .ok (.iload 9, 2) := by decide +kernel
theorem dL_law_213 : decode cL_law 213 = .ok (.irem, 1) := by decide +kernel
theorem dL_law_214 : decode cL_law 214 = .ok (.imul, 1) := by decide +kernel
theorem dL_law_215 : decode cL_law 215 = .ok (.iadd, 1) := by decide +kernel
theorem dL_law_216 : decode cL_law 216 = .ok (.iconst 1, 1) := by decide +kernel
theorem dL_law_217 : decode cL_law 217 = .ok (.iadd, 1) := by decide +kernel
theorem dL_law_218 : decode cL_law 218 = .ok (.iload 10, 2) := by decide +kernel
theorem dL_law_220 : decode cL_law 220 = .ok (.sipush 144, 3) := by decide +kernel
theorem dL_law_223 : decode cL_law 223 = .ok (.idiv, 1) := by decide +kernel
theorem dL_law_224 : decode cL_law 224 = .ok (.bipush 99, 2) := by decide +kernel
theorem dL_law_226 : decode cL_law 226 = .ok (.irem, 1) := by decide +kernel
theorem dL_law_227 : decode cL_law 227 = .ok (.iadd, 1) := by decide +kernel
theorem dL_law_228 : decode cL_law 228 = .ok (.iastore, 1) := by decide +kernel
theorem dL_law_229 : decode cL_law 229 = .ok (.iload 5, 2) := by decide +kernel
theorem dL_law_231 : decode cL_law 231 = .ok (.ifCond .eq 28, 3) := by decide +kernel
theorem dL_law_234 : decode cL_law 234 = .ok (.aload_n 1, 1) := by decide +kernel
theorem dL_law_235 : decode cL_law 235 = .ok (.aload_n 2, 1) := by decide +kernel
theorem dL_law_236 : decode cL_law 236 = .ok (.iload 7, 2) := by decide +kernel
theorem dL_law_238 : decode cL_law 238 = .ok (.bipush 7, 2) := by decide +kernel
theorem dL_law_240 : decode cL_law 240 = .ok (.idiv, 1) := by decide +kernel
theorem dL_law_241 : decode cL_law 241 = .ok (.invokestatic 171, 3) := by decide +kernel
theorem dL_law_244 : decode cL_law 244 = .ok (.ifCond .eq 15, 3) := by decide +kernel
theorem dL_law_247 : decode cL_law 247 = .ok (.aload_n 1, 1) := by decide +kernel
theorem dL_law_248 : decode cL_law 248 = .ok (.aload_n 3, 1) := by decide +kernel
theorem dL_law_249 : decode cL_law 249 = .ok (.invokestatic 175, 3) := by decide +kernel
theorem dL_law_252 : decode cL_law 252 = .ok (.ifCond .eq 7, 3) := by decide +kernel
theorem dL_law_255 : decode cL_law 255 = .ok (.iconst 1, 1) := by decide +kernel
theorem dL_law_256 : decode cL_law 256 = .ok (.goto 4, 3) := by decide +kernel
theorem dL_law_259 : decode cL_law 259 = .ok (.iconst 0, 1) := by decide +kernel
theorem dL_law_260 : decode cL_law 260 = .ok (.istore 5, 2) := by decide +kernel
theorem dL_law_262 : decode cL_law 262 = .ok (.iinc 6 1, 3) := by decide +kernel
theorem dL_law_265 : decode cL_law 265 = .ok (.goto (-225), 3) := by decide +kernel
theorem dL_law_268 : decode cL_law 268 = .ok (.iload 5, 2) := by decide +kernel
theorem dL_law_270 : decode cL_law 270 = .ok (.ifCond .eq 63, 3) := by decide +kernel
theorem dL_law_273 : decode cL_law 273 = .ok (.aload_n 1, 1) := by decide +kernel
theorem dL_law_274 : decode cL_law 274 = .ok (.invokevirtual 84, 3) := by decide +kernel
theorem dL_law_277 : decode cL_law 277 = .ok (.ifCond .eq 52, 3) := by decide +kernel
theorem dL_law_280 : decode cL_law 280 = .ok (.aload_n 1, 1) := by decide +kernel
theorem dL_law_281 : decode cL_law 281 = .ok (.aload_n 0, 1) := by decide +kernel
theorem dL_law_282 : decode cL_law 282 = .ok (.iconst 0, 1) := by decide +kernel
theorem dL_law_283 : decode cL_law 283 = .ok (.invokestatic 160, 3) := by decide +kernel
theorem dL_law_286 : decode cL_law 286 = .ok (.bipush 23, 2) := by decide +kernel
theorem dL_law_288 : decode cL_law 288 = .ok (.idiv, 1) := by decide +kernel
theorem dL_law_289 : decode cL_law 289 = .ok (.aload_n 1, 1) := by decide +kernel
theorem dL_law_290 : decode cL_law 290 = .ok (.invokevirtual 84, 3) := by decide +kernel
theorem dL_law_293 : decode cL_law 293 = .ok (.irem, 1) := by decide +kernel
theorem dL_law_294 : decode cL_law 294 = .ok (.invokestatic 179, 3) := by decide +kernel
theorem dL_law_297 : decode cL_law 297 = .ok (.ifCond .eq 36, 3) := by decide +kernel
theorem dL_law_300 : decode cL_law 300 = .ok (.aload_n 2, 1) := by decide +kernel
theorem dL_law_301 : decode cL_law 301 = .ok (.aload_n 0, 1) := by decide +kernel
theorem dL_law_302 : decode cL_law 302 = .ok (.iconst 0, 1) := by decide +kernel
theorem dL_law_303 : decode cL_law 303 = .ok (.invokestatic 160, 3) := by decide +kernel
theorem dL_law_306 : decode cL_law 306 = .ok (.bipush 29, 2) := by decide +kernel
theorem dL_law_308 : decode cL_law 308 = .ok (.idiv, 1) := by decide +kernel
theorem dL_law_309 : decode cL_law 309 = .ok (.aload_n 1, 1) := by decide +kernel
theorem dL_law_310 : decode cL_law 310 = .ok (.invokevirtual 84, 3) := by decide +kernel
theorem dL_law_313 : decode cL_law 313 = .ok (.irem, 1) := by decide +kernel
theorem dL_law_314 : decode cL_law 314 = .ok (.invokestatic 179, 3) := by decide +kernel
theorem dL_law_317 : decode cL_law 317 = .ok (.ifCond .eq 16, 3) := by decide +kernel
theorem dL_law_320 : decode cL_law 320 = .ok (.aload_n 1, 1) := by decide +kernel
theorem dL_law_321 : decode cL_law 321 = .ok (.aload_n 2, 1) := by decide +kernel
theorem dL_law_322 : decode cL_law 322 = .ok (.iconst 0, 1) := by decide +kernel
theorem dL_law_323 : decode cL_law 323 = .ok (.invokestatic 171, 3) := by decide +kernel
theorem dL_law_326 : decode cL_law 326 = .ok (.ifCond .eq 7, 3) := by decide +kernel
theorem dL_law_329 : decode cL_law 329 = .ok (.iconst 1, 1) := by decide +kernel
theorem dL_law_330 : decode cL_law 330 = .ok (.goto 4, 3) := by decide +kernel
theorem dL_law_333 : decode cL_law 333 = .ok (.iconst 0, 1) := by decide +kernel
theorem dL_law_334 : decode cL_law 334 = .ok (.ireturn, 1) := by decide +kernel

