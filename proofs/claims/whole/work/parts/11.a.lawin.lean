set_option maxRecDepth 20000 in
theorem lwi_L_law0_r1 : ∀ w ∈ wsL_law0_r1, w ∈ lw_tbl := fun w h => (goodIn_r wsL_law0_r1 [41, 42, 27, 613, 614, 32, 847, 848, 43, 44, 45, 46, 47, 48, 49, 50, 28, 124, 63, 64, 29, 125, 73, 74] (by decide +kernel) (by decide +kernel) w h).1
set_option maxRecDepth 20000 in
theorem lwi_L_law0_r2 : ∀ w ∈ wsL_law0_r2, w ∈ lw_tbl := fun w h => (goodIn_r wsL_law0_r2 [30, 126, 83, 84, 31, 127, 51, 52, 53, 54, 62, 55, 56, 65, 66, 67, 68, 69, 75, 76, 77, 78, 79, 85] (by decide +kernel) (by decide +kernel) w h).1
set_option maxRecDepth 20000 in
theorem lwi_L_law0_r3 : ∀ w ∈ wsL_law0_r3, w ∈ lw_tbl := fun w h => (goodIn_r wsL_law0_r3 [86, 87, 88, 101, 102, 103, 123, 104, 89, 90, 91, 92, 105, 106, 93, 94, 95, 96, 107, 97, 99, 0, 100, 615] (by decide +kernel) (by decide +kernel) w h).1
set_option maxRecDepth 20000 in
theorem lwi_L_law0_r4 : ∀ w ∈ wsL_law0_r4, w ∈ lw_tbl := fun w h => (goodIn_r wsL_law0_r4 [616, 617, 618, 623, 624, 625, 626, 630, 631, 632, 633, 627, 628, 619, 621, 11, 622, 629, 204, 205, 26, 206, 207, 208] (by decide +kernel) (by decide +kernel) w h).1
set_option maxRecDepth 20000 in
theorem lwi_L_law0_r5 : ∀ w ∈ wsL_law0_r5, w ∈ lw_tbl := fun w h => (goodIn_r wsL_law0_r5 [209, 210, 211, 212, 213, 214, 36, 282, 37, 302, 38, 298, 299, 300, 301, 153, 154, 155, 318, 319, 320, 321, 664, 665] (by decide +kernel) (by decide +kernel) w h).1
set_option maxRecDepth 20000 in
theorem lwi_L_law0_r6 : ∀ w ∈ wsL_law0_r6, w ∈ lw_tbl := fun w h => (goodIn_r wsL_law0_r6 [666, 667, 668, 670, 12, 671, 634, 660, 661, 662, 663, 322, 323, 324, 325, 326, 327, 328, 329, 330, 331, 333, 334, 335] (by decide +kernel) (by decide +kernel) w h).1
set_option maxRecDepth 20000 in
theorem lwi_L_law0_r7 : ∀ w ∈ wsL_law0_r7, w ∈ lw_tbl := fun w h => (goodIn_r wsL_law0_r7 [337, 338, 339, 340, 341, 342, 39, 343, 344, 345, 346, 672, 673, 674, 675, 676, 677, 678, 679, 680, 681, 682, 684, 13] (by decide +kernel) (by decide +kernel) w h).1
set_option maxRecDepth 20000 in
theorem lwi_L_law0_r8 : ∀ w ∈ wsL_law0_r8, w ∈ lw_tbl := fun w h => (goodIn_r wsL_law0_r8 [685, 686, 688, 14, 689, 347, 348, 349, 350, 351, 352, 353, 354, 355, 356, 357, 690, 691, 692, 693, 694, 696, 15, 697] (by decide +kernel) (by decide +kernel) w h).1
set_option maxRecDepth 20000 in
theorem lwi_L_law0_r9 : ∀ w ∈ wsL_law0_r9, w ∈ lw_tbl := fun w h => (goodIn_r wsL_law0_r9 [358, 359, 360, 361, 362, 363, 364, 365, 366, 368, 369, 370, 371, 372, 698, 699, 700, 701, 702, 703, 704, 706, 16, 707] (by decide +kernel) (by decide +kernel) w h).1
set_option maxRecDepth 20000 in
theorem lwi_L_law0_r10 : ∀ w ∈ wsL_law0_r10, w ∈ lw_tbl := fun w h => (goodIn_r wsL_law0_r10 [374, 375, 376, 377, 378, 379, 380, 383, 384, 385, 386, 387, 389, 6, 390, 391, 708, 709, 710, 711, 712, 714, 17, 715] (by decide +kernel) (by decide +kernel) w h).1
set_option maxRecDepth 20000 in
theorem lwi_L_law0_r11 : ∀ w ∈ wsL_law0_r11, w ∈ lw_tbl := fun w h => (goodIn_r wsL_law0_r11 [392, 393, 394, 395, 396, 397, 398, 399, 716, 717, 718, 719, 720, 400, 401, 402, 403, 404, 405, 406, 411, 407, 408, 409] (by decide +kernel) (by decide +kernel) w h).1
set_option maxRecDepth 20000 in
theorem lwi_L_law0_r12 : ∀ w ∈ wsL_law0_r12, w ∈ lw_tbl := fun w h => (goodIn_r wsL_law0_r12 [413, 414, 415, 416, 157, 159, 2, 160, 721, 722, 723, 724, 728, 725, 726, 727, 137, 138, 139, 140, 141, 142, 143, 144] (by decide +kernel) (by decide +kernel) w h).1
set_option maxRecDepth 20000 in
theorem lwi_L_law0_r13 : ∀ w ∈ wsL_law0_r13, w ∈ lw_tbl := fun w h => (goodIn_r wsL_law0_r13 [145, 147, 1, 148, 149, 150, 151, 152, 156, 161, 162, 40, 163, 729, 730, 731, 732, 733, 735, 18, 736, 164, 165, 166] (by decide +kernel) (by decide +kernel) w h).1
set_option maxRecDepth 20000 in
theorem lwi_L_law0_r14 : ∀ w ∈ wsL_law0_r14, w ∈ lw_tbl := fun w h => (goodIn_r wsL_law0_r14 [167, 168, 169, 170, 171, 737, 738, 739, 740, 417, 418, 419, 420, 421, 422, 423, 424, 425, 426, 427, 741, 742, 743, 744] (by decide +kernel) (by decide +kernel) w h).1
set_option maxRecDepth 20000 in
theorem lwi_L_law0_r15 : ∀ w ∈ wsL_law0_r15, w ∈ lw_tbl := fun w h => (goodIn_r wsL_law0_r15 [428, 429, 430, 431, 432, 433, 434, 435, 436, 437, 441, 442, 443, 438, 439, 440, 745, 746, 747, 748, 749, 750, 751, 752] (by decide +kernel) (by decide +kernel) w h).1
set_option maxRecDepth 20000 in
theorem lwi_L_law0_r16 : ∀ w ∈ wsL_law0_r16, w ∈ lw_tbl := fun w h => (goodIn_r wsL_law0_r16 [753, 754, 444, 445, 446, 447, 448, 449, 450, 755, 756, 757, 758, 451, 452, 453, 454, 455, 456, 457, 459, 460, 461, 462] (by decide +kernel) (by decide +kernel) w h).1
set_option maxRecDepth 20000 in
theorem lwi_L_law0_r17 : ∀ w ∈ wsL_law0_r17, w ∈ lw_tbl := fun w h => (goodIn_r wsL_law0_r17 [759, 760, 761, 762, 463, 464, 465, 466, 467, 468, 469, 470, 471, 472, 473, 763, 764, 765, 766, 767, 769, 19, 770, 474] (by decide +kernel) (by decide +kernel) w h).1
set_option maxRecDepth 20000 in
theorem lwi_L_law0_r18 : ∀ w ∈ wsL_law0_r18, w ∈ lw_tbl := fun w h => (goodIn_r wsL_law0_r18 [475, 476, 477, 478, 479, 480, 481, 482, 483, 484, 485, 486, 487, 488, 771, 772, 773, 774, 775, 777, 20, 778, 489, 490] (by decide +kernel) (by decide +kernel) w h).1
set_option maxRecDepth 20000 in
theorem lwi_L_law0_r19 : ∀ w ∈ wsL_law0_r19, w ∈ lw_tbl := fun w h => (goodIn_r wsL_law0_r19 [491, 492, 493, 494, 495, 779, 780, 781, 782, 496, 497, 498, 499, 500, 501, 502, 504, 783, 784, 785, 786, 505, 506, 507] (by decide +kernel) (by decide +kernel) w h).1
set_option maxRecDepth 20000 in
theorem lwi_L_law0_r20 : ∀ w ∈ wsL_law0_r20, w ∈ lw_tbl := fun w h => (goodIn_r wsL_law0_r20 [508, 509, 510, 511, 512, 513, 514, 515, 516, 518, 7, 519, 520, 522, 8, 523, 185, 187, 3, 188, 524, 526, 9, 527] (by decide +kernel) (by decide +kernel) w h).1
set_option maxRecDepth 20000 in
theorem lwi_L_law0_r21 : ∀ w ∈ wsL_law0_r21, w ∈ lw_tbl := fun w h => (goodIn_r wsL_law0_r21 [193, 194, 195, 528, 529, 530, 787, 788, 789, 790, 791, 793, 21, 794, 795, 797, 22, 798, 799, 801, 23, 802, 532, 533] (by decide +kernel) (by decide +kernel) w h).1
set_option maxRecDepth 20000 in
theorem lwi_L_law0_r22 : ∀ w ∈ wsL_law0_r22, w ∈ lw_tbl := fun w h => (goodIn_r wsL_law0_r22 [534, 535, 536, 537, 538, 539, 540, 541, 542, 803, 804, 805, 806, 172, 173, 174, 175, 176, 807, 808, 809, 810, 543, 544] (by decide +kernel) (by decide +kernel) w h).1
set_option maxRecDepth 20000 in
theorem lwi_L_law0_r23 : ∀ w ∈ wsL_law0_r23, w ∈ lw_tbl := fun w h => (goodIn_r wsL_law0_r23 [545, 546, 547, 548, 549, 550, 551, 552, 553, 554, 555, 556, 557, 558, 811, 812, 813, 814, 559, 560, 561, 562, 563, 564] (by decide +kernel) (by decide +kernel) w h).1
set_option maxRecDepth 20000 in
theorem lwi_L_law0_r24 : ∀ w ∈ wsL_law0_r24, w ∈ lw_tbl := fun w h => (goodIn_r wsL_law0_r24 [565, 566, 568, 10, 569, 570, 571, 572, 573, 575, 576, 577, 578, 579, 815, 816, 817, 818, 819, 821, 24, 822, 580, 581] (by decide +kernel) (by decide +kernel) w h).1
set_option maxRecDepth 20000 in
theorem lwi_L_law0_r25 : ∀ w ∈ wsL_law0_r25, w ∈ lw_tbl := fun w h => (goodIn_r wsL_law0_r25 [582, 583, 584, 585, 586, 587, 588, 589, 590, 823, 824, 825, 826, 591, 592, 593, 594, 595, 596, 597, 598, 599, 600, 601] (by decide +kernel) (by decide +kernel) w h).1
set_option maxRecDepth 20000 in
theorem lwi_L_law0_r26 : ∀ w ∈ wsL_law0_r26, w ∈ lw_tbl := fun w h => (goodIn_r wsL_law0_r26 [189, 191, 4, 192, 827, 828, 829, 830, 831, 833, 25, 834, 602, 603, 604, 605, 606, 607, 608, 609, 610, 611, 612, 835] (by decide +kernel) (by decide +kernel) w h).1
set_option maxRecDepth 20000 in
theorem lwi_L_law0_r27 : ∀ w ∈ wsL_law0_r27, w ∈ lw_tbl := fun w h => (goodIn_r wsL_law0_r27 [836, 837, 838, 177, 178, 179, 180, 181, 182, 183, 184, 839, 840, 841, 842, 196, 197, 198, 199, 200, 201, 202, 203, 843] (by decide +kernel) (by decide +kernel) w h).1
set_option maxRecDepth 20000 in
theorem lwi_L_law0_r28 : ∀ w ∈ wsL_law0_r28, w ∈ lw_tbl := fun w h => (goodIn_r wsL_law0_r28 [844, 845, 846] (by decide +kernel) (by decide +kernel) w h).1
theorem lwi_X40 : ∀ w ∈ wsX40, w ∈ lw_tbl := by decide +kernel
theorem lwi_X50 : ∀ w ∈ wsX50, w ∈ lw_tbl := by decide +kernel
theorem lwi_X20 : ∀ w ∈ wsX20, w ∈ lw_tbl := by decide +kernel
theorem lwi_X00 : ∀ w ∈ wsX00, w ∈ lw_tbl := by decide +kernel
theorem lwi_X30 : ∀ w ∈ wsX30, w ∈ lw_tbl := by decide +kernel
theorem lwi_X10 : ∀ w ∈ wsX10, w ∈ lw_tbl := by decide +kernel
theorem wsL_law_in0 : ∀ w ∈ wsL_law0, w ∈ lw_tbl := (fun w h => (List.mem_append.mp h).elim (fun h => (fun w h => (List.mem_append.mp h).elim (fun h => (fun w h => (List.mem_append.mp h).elim (fun h => (fun w h => (List.mem_append.mp h).elim (fun h => (fun w h => (List.mem_append.mp h).elim (fun h => (fun w h => (List.mem_append.mp h).elim (fun h => (fun w h => (List.mem_append.mp h).elim (fun h => (fun w h => (List.mem_append.mp h).elim (fun h => lwi_L_law0_r1 w h) (fun h => (fun w h => (List.mem_append.mp h).elim (fun h => lwi_L_law0_r2 w h) (fun h => (fun w h => (List.mem_append.mp h).elim (fun h => lwi_L_law0_r3 w h) (fun h => (fun w h => (List.mem_append.mp h).elim (fun h => lwi_L_law0_r4 w h) (fun h => (fun w h => (List.mem_append.mp h).elim (fun h => lwi_L_law0_r5 w h) (fun h => (fun w h => (List.mem_append.mp h).elim (fun h => lwi_L_law0_r6 w h) (fun h => (fun w h => (List.mem_append.mp h).elim (fun h => lwi_L_law0_r7 w h) (fun h => (fun w h => (List.mem_append.mp h).elim (fun h => lwi_L_law0_r8 w h) (fun h => (fun w h => (List.mem_append.mp h).elim (fun h => lwi_L_law0_r9 w h) (fun h => (fun w h => (List.mem_append.mp h).elim (fun h => lwi_L_law0_r10 w h) (fun h => (fun w h => (List.mem_append.mp h).elim (fun h => lwi_L_law0_r11 w h) (fun h => (fun w h => (List.mem_append.mp h).elim (fun h => lwi_L_law0_r12 w h) (fun h => (fun w h => (List.mem_append.mp h).elim (fun h => lwi_L_law0_r13 w h) (fun h => (fun w h => (List.mem_append.mp h).elim (fun h => lwi_L_law0_r14 w h) (fun h => (fun w h => (List.mem_append.mp h).elim (fun h => lwi_L_law0_r15 w h) (fun h => (fun w h => (List.mem_append.mp h).elim (fun h => lwi_L_law0_r16 w h) (fun h => (fun w h => (List.mem_append.mp h).elim (fun h => lwi_L_law0_r17 w h) (fun h => (fun w h => (List.mem_append.mp h).elim (fun h => lwi_L_law0_r18 w h) (fun h => (fun w h => (List.mem_append.mp h).elim (fun h => lwi_L_law0_r19 w h) (fun h => (fun w h => (List.mem_append.mp h).elim (fun h => lwi_L_law0_r20 w h) (fun h => (fun w h => (List.mem_append.mp h).elim (fun h => lwi_L_law0_r21 w h) (fun h => (fun w h => (List.mem_append.mp h).elim (fun h => lwi_L_law0_r22 w h) (fun h => (fun w h => (List.mem_append.mp h).elim (fun h => lwi_L_law0_r23 w h) (fun h => (fun w h => (List.mem_append.mp h).elim (fun h => lwi_L_law0_r24 w h) (fun h => (fun w h => (List.mem_append.mp h).elim (fun h => lwi_L_law0_r25 w h) (fun h => (fun w h => (List.mem_append.mp h).elim (fun h => lwi_L_law0_r26 w h) (fun h => (fun w h => (List.mem_append.mp h).elim (fun h => lwi_L_law0_r27 w h) (fun h => lwi_L_law0_r28 w h)) w h)) w h)) w h)) w h)) w h)) w h)) w h)) w h)) w h)) w h)) w h)) w h)) w h)) w h)) w h)) w h)) w h)) w h)) w h)) w h)) w h)) w h)) w h)) w h)) w h)) w h)) w h) (fun h => lwi_X40 w h)) w h) (fun h => lwi_X50 w h)) w h) (fun h => lwi_X20 w h)) w h) (fun h => lwi_X00 w h)) w h) (fun h => lwi_X30 w h)) w h) (fun h => lwi_X10 w h)) w h) (fun h => (fun _ h => absurd h List.not_mem_nil) w h))
theorem wsL_law_x0 : ∀ w ∈ (vx_atS RX4 41 "java/lang/IndexOutOfBoundsException" ["java/lang/RuntimeException", "java/lang/Exception"]).filter goodWord, w ∈ lw_tbl := by decide +kernel
theorem wsL_law_x1 : ∀ w ∈ (vx_atS RX4 48 "java/lang/IllegalArgumentException" ["java/lang/RuntimeException", "java/lang/Exception"]).filter goodWord, w ∈ lw_tbl := by decide +kernel
theorem wsL_law_x2 : ∀ w ∈ (vx_atS RX4 57 "java/lang/IllegalStateException" ["java/lang/RuntimeException", "java/lang/Exception"]).filter goodWord, w ∈ lw_tbl := by decide +kernel
theorem wsL_law_in : ∀ w ∈ wsL_law, w ∈ lw_tbl := fun w h => (List.mem_append.mp h).elim (fun h => (List.mem_append.mp h).elim (fun h => (List.mem_append.mp h).elim (fun h => wsL_law_in0 w h) (fun h => wsL_law_x0 w h)) (fun h => wsL_law_x1 w h)) (fun h => wsL_law_x2 w h)
theorem inlX0 : ∀ w ∈ wsX00, w ∈ wsL_law := fun _ h => List.mem_append_left _ (List.mem_append_left _ (List.mem_append_left _ (List.mem_append_left _ (List.mem_append_left _ (List.mem_append_left _ (List.mem_append_right _ h))))))
theorem inX0 : ∀ w ∈ wsX00, w ∈ lw_tbl := fun w h => wsL_law_in w (inlX0 w h)
theorem inlX1 : ∀ w ∈ wsX10, w ∈ wsL_law := fun _ h => List.mem_append_left _ (List.mem_append_left _ (List.mem_append_left _ (List.mem_append_left _ (List.mem_append_right _ h))))
theorem inX1 : ∀ w ∈ wsX10, w ∈ lw_tbl := fun w h => wsL_law_in w (inlX1 w h)
theorem inlX2 : ∀ w ∈ wsX20, w ∈ wsL_law := fun _ h => List.mem_append_left _ (List.mem_append_left _ (List.mem_append_left _ (List.mem_append_left _ (List.mem_append_left _ (List.mem_append_left _ (List.mem_append_left _ (List.mem_append_right _ h)))))))
theorem inX2 : ∀ w ∈ wsX20, w ∈ lw_tbl := fun w h => wsL_law_in w (inlX2 w h)
theorem inlX3 : ∀ w ∈ wsX30, w ∈ wsL_law := fun _ h => List.mem_append_left _ (List.mem_append_left _ (List.mem_append_left _ (List.mem_append_left _ (List.mem_append_left _ (List.mem_append_right _ h)))))
theorem inX3 : ∀ w ∈ wsX30, w ∈ lw_tbl := fun w h => wsL_law_in w (inlX3 w h)
theorem inlX4 : ∀ w ∈ wsX40, w ∈ wsL_law := fun _ h => List.mem_append_left _ (List.mem_append_left _ (List.mem_append_left _ (List.mem_append_left _ (List.mem_append_left _ (List.mem_append_left _ (List.mem_append_left _ (List.mem_append_left _ (List.mem_append_left _ (List.mem_append_right _ h)))))))))
theorem inX4 : ∀ w ∈ wsX40, w ∈ lw_tbl := fun w h => wsL_law_in w (inlX4 w h)
theorem inlX5 : ∀ w ∈ wsX50, w ∈ wsL_law := fun _ h => List.mem_append_left _ (List.mem_append_left _ (List.mem_append_left _ (List.mem_append_left _ (List.mem_append_left _ (List.mem_append_left _ (List.mem_append_left _ (List.mem_append_left _ (List.mem_append_right _ h))))))))
theorem inX5 : ∀ w ∈ wsX50, w ∈ lw_tbl := fun w h => wsL_law_in w (inlX5 w h)
theorem inJ13 : ∀ w ∈ wsJ130, w ∈ lw_tbl := by decide +kernel
theorem inJ9 : ∀ w ∈ wsJ90, w ∈ lw_tbl := by decide +kernel
theorem inJ0 : ∀ w ∈ wsJ00, w ∈ lw_tbl := by decide +kernel
