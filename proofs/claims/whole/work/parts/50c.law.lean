set_option maxRecDepth 20000 in
theorem zLr1 : ∀ w ∈ wsL_law0_r1, w ∈ lw_tbl := fun w h => (goodIn_r (big := lw_tbl) wsL_law0_r1 [61, 62, 49, 641, 642, 50, 899, 900, 63, 64, 65, 66, 67, 68, 69, 73, 74, 71, 75, 76, 77, 643, 644, 645] (by decide +kernel) (by decide +kernel) w h).1
set_option maxRecDepth 20000 in
theorem zLr2 : ∀ w ∈ wsL_law0_r2, w ∈ lw_tbl := fun w h => (goodIn_r (big := lw_tbl) wsL_law0_r2 [646, 310, 649, 650, 651, 652, 653, 690, 654, 655, 657, 658, 659, 660, 157, 158, 48, 159, 160, 161, 162, 163, 164, 165] (by decide +kernel) (by decide +kernel) w h).1
set_option maxRecDepth 20000 in
theorem zLr3 : ∀ w ∈ wsL_law0_r3, w ∈ lw_tbl := fun w h => (goodIn_r (big := lw_tbl) wsL_law0_r3 [240, 55, 116, 56, 166, 167, 168, 169, 170, 171, 172, 54, 257, 258, 259, 275, 277, 279, 281, 283, 285, 287, 288, 273] (by decide +kernel) (by decide +kernel) w h).1
set_option maxRecDepth 20000 in
theorem zLr4 : ∀ w ∈ wsL_law0_r4, w ∈ lw_tbl := fun w h => (goodIn_r (big := lw_tbl) wsL_law0_r4 [271, 260, 262, 9, 263, 264, 266, 10, 267, 269, 270, 695, 696, 697, 698, 647, 648, 699, 700, 701, 702, 704, 33, 705] (by decide +kernel) (by decide +kernel) w h).1
set_option maxRecDepth 20000 in
theorem zLr5 : ∀ w ∈ wsL_law0_r5, w ∈ lw_tbl := fun w h => (goodIn_r (big := lw_tbl) wsL_law0_r5 [706, 708, 34, 709, 710, 711, 712, 691, 692, 693, 694, 311, 312, 313, 314, 315, 316, 317, 318, 319, 321, 11, 322, 323] (by decide +kernel) (by decide +kernel) w h).1
set_option maxRecDepth 20000 in
theorem zLr6 : ∀ w ∈ wsL_law0_r6, w ∈ lw_tbl := fun w h => (goodIn_r (big := lw_tbl) wsL_law0_r6 [325, 12, 326, 327, 57, 109, 111, 2, 112, 343, 344, 345, 124, 5, 125, 127, 128, 713, 714, 715, 716, 717, 719, 35] (by decide +kernel) (by decide +kernel) w h).1
set_option maxRecDepth 20000 in
theorem zLr7 : ∀ w ∈ wsL_law0_r7, w ∈ lw_tbl := fun w h => (goodIn_r (big := lw_tbl) wsL_law0_r7 [720, 721, 723, 36, 724, 349, 350, 351, 352, 353, 354, 355, 725, 726, 727, 728, 356, 357, 358, 359, 360, 361, 362, 365] (by decide +kernel) (by decide +kernel) w h).1
set_option maxRecDepth 20000 in
theorem zLr8 : ∀ w ∈ wsL_law0_r8, w ∈ lw_tbl := fun w h => (goodIn_r (big := lw_tbl) wsL_law0_r8 [13, 366, 729, 730, 731, 732, 733, 735, 37, 736, 367, 368, 369, 370, 371, 372, 373, 154, 7, 155, 737, 738, 739, 740] (by decide +kernel) (by decide +kernel) w h).1
set_option maxRecDepth 20000 in
theorem zLr9 : ∀ w ∈ wsL_law0_r9, w ∈ lw_tbl := fun w h => (goodIn_r (big := lw_tbl) wsL_law0_r9 [741, 743, 38, 744, 375, 376, 377, 378, 379, 380, 381, 745, 746, 747, 748, 382, 383, 384, 385, 386, 387, 388, 391, 14] (by decide +kernel) (by decide +kernel) w h).1
set_option maxRecDepth 20000 in
theorem zLr10 : ∀ w ∈ wsL_law0_r10, w ∈ lw_tbl := fun w h => (goodIn_r (big := lw_tbl) wsL_law0_r10 [392, 749, 750, 751, 752, 393, 394, 395, 396, 397, 398, 399, 402, 15, 403, 405, 406, 753, 754, 755, 756, 407, 408, 409] (by decide +kernel) (by decide +kernel) w h).1
set_option maxRecDepth 20000 in
theorem zLr11 : ∀ w ∈ wsL_law0_r11, w ∈ lw_tbl := fun w h => (goodIn_r (big := lw_tbl) wsL_law0_r11 [410, 411, 412, 413, 416, 16, 417, 418, 420, 419, 58, 421, 423, 17, 424, 427, 18, 428, 122, 757, 758, 759, 760, 761] (by decide +kernel) (by decide +kernel) w h).1
set_option maxRecDepth 20000 in
theorem zLr12 : ∀ w ∈ wsL_law0_r12, w ∈ lw_tbl := fun w h => (goodIn_r (big := lw_tbl) wsL_law0_r12 [762, 763, 764, 765, 767, 768, 770, 39, 771, 772, 773, 775, 40, 776, 429, 430, 431, 432, 433, 434, 435, 438, 19, 439] (by decide +kernel) (by decide +kernel) w h).1
set_option maxRecDepth 20000 in
theorem zLr13 : ∀ w ∈ wsL_law0_r13, w ∈ lw_tbl := fun w h => (goodIn_r (big := lw_tbl) wsL_law0_r13 [777, 778, 779, 780, 440, 441, 442, 443, 444, 445, 446, 447, 448, 449, 450, 453, 20, 454, 456, 457, 59, 458, 460, 461] (by decide +kernel) (by decide +kernel) w h).1
set_option maxRecDepth 20000 in
theorem zLr14 : ∀ w ∈ wsL_law0_r14, w ∈ lw_tbl := fun w h => (goodIn_r (big := lw_tbl) wsL_law0_r14 [462, 455, 115, 3, 117, 459, 781, 782, 783, 784, 789, 790, 785, 786, 787, 788, 89, 90, 91, 92, 791, 792, 793, 794] (by decide +kernel) (by decide +kernel) w h).1
set_option maxRecDepth 20000 in
theorem zLr15 : ∀ w ∈ wsL_law0_r15, w ∈ lw_tbl := fun w h => (goodIn_r (big := lw_tbl) wsL_law0_r15 [463, 464, 465, 466, 467, 468, 469, 471, 60, 97, 99, 0, 100, 101, 103, 1, 104, 473, 474, 475, 476, 478, 480, 482] (by decide +kernel) (by decide +kernel) w h).1
set_option maxRecDepth 20000 in
theorem zLr16 : ∀ w ∈ wsL_law0_r16, w ∈ lw_tbl := fun w h => (goodIn_r (big := lw_tbl) wsL_law0_r16 [795, 796, 797, 798, 656, 493, 494, 495, 496, 497, 498, 499, 799, 800, 801, 802, 501, 502, 503, 504, 505, 506, 507, 508] (by decide +kernel) (by decide +kernel) w h).1
set_option maxRecDepth 20000 in
theorem zLr17 : ∀ w ∈ wsL_law0_r17, w ∈ lw_tbl := fun w h => (goodIn_r (big := lw_tbl) wsL_law0_r17 [510, 21, 511, 803, 804, 805, 806, 807, 809, 41, 810, 93, 94, 95, 96, 811, 812, 813, 814, 512, 513, 514, 515, 516] (by decide +kernel) (by decide +kernel) w h).1
set_option maxRecDepth 20000 in
theorem zLr18 : ∀ w ∈ wsL_law0_r18, w ∈ lw_tbl := fun w h => (goodIn_r (big := lw_tbl) wsL_law0_r18 [517, 518, 556, 519, 521, 22, 522, 523, 525, 23, 526, 527, 529, 24, 530, 531, 533, 25, 534, 535, 537, 26, 538, 539] (by decide +kernel) (by decide +kernel) w h).1
set_option maxRecDepth 20000 in
theorem zLr19 : ∀ w ∈ wsL_law0_r19, w ∈ lw_tbl := fun w h => (goodIn_r (big := lw_tbl) wsL_law0_r19 [540, 541, 544, 27, 545, 547, 548, 549, 550, 551, 552, 554, 28, 555, 815, 816, 817, 818, 819, 821, 42, 822, 823, 825] (by decide +kernel) (by decide +kernel) w h).1
set_option maxRecDepth 20000 in
theorem zLr20 : ∀ w ∈ wsL_law0_r20, w ∈ lw_tbl := fun w h => (goodIn_r (big := lw_tbl) wsL_law0_r20 [43, 826, 827, 829, 44, 830, 557, 558, 559, 560, 561, 562, 563, 564, 566, 29, 567, 831, 832, 833, 834, 835, 837, 45] (by decide +kernel) (by decide +kernel) w h).1
set_option maxRecDepth 20000 in
theorem zLr21 : ∀ w ∈ wsL_law0_r21, w ∈ lw_tbl := fun w h => (goodIn_r (big := lw_tbl) wsL_law0_r21 [838, 568, 569, 570, 571, 572, 573, 574, 575, 577, 30, 578, 839, 840, 841, 842, 843, 845, 46, 846, 579, 580, 581, 582] (by decide +kernel) (by decide +kernel) w h).1
set_option maxRecDepth 20000 in
theorem zLr22 : ∀ w ∈ wsL_law0_r22, w ∈ lw_tbl := fun w h => (goodIn_r (big := lw_tbl) wsL_law0_r22 [583, 584, 585, 847, 848, 849, 850, 586, 587, 588, 589, 590, 591, 592, 593, 594, 595, 596, 598, 31, 599, 851, 852, 853] (by decide +kernel) (by decide +kernel) w h).1
set_option maxRecDepth 20000 in
theorem zLr23 : ∀ w ∈ wsL_law0_r23, w ∈ lw_tbl := fun w h => (goodIn_r (big := lw_tbl) wsL_law0_r23 [854, 855, 856, 857, 600, 601, 602, 603, 604, 605, 606, 858, 859, 860, 861, 607, 608, 609, 610, 611, 612, 613, 120, 4] (by decide +kernel) (by decide +kernel) w h).1
set_option maxRecDepth 20000 in
theorem zLr24 : ∀ w ∈ wsL_law0_r24, w ∈ lw_tbl := fun w h => (goodIn_r (big := lw_tbl) wsL_law0_r24 [121, 130, 131, 132, 133, 134, 135, 862, 863, 864, 865, 866, 868, 47, 869, 870, 871, 872, 105, 106, 107, 108, 137, 138] (by decide +kernel) (by decide +kernel) w h).1
set_option maxRecDepth 20000 in
theorem zLr25 : ∀ w ∈ wsL_law0_r25, w ∈ lw_tbl := fun w h => (goodIn_r (big := lw_tbl) wsL_law0_r25 [136, 873, 874, 875, 876, 877, 878, 614, 615, 616, 617, 618, 619, 620, 623, 32, 624, 879, 880, 881, 882, 625, 626, 627] (by decide +kernel) (by decide +kernel) w h).1
set_option maxRecDepth 20000 in
theorem zLr26 : ∀ w ∈ wsL_law0_r26, w ∈ lw_tbl := fun w h => (goodIn_r (big := lw_tbl) wsL_law0_r26 [628, 629, 630, 631, 883, 884, 885, 886, 632, 633, 634, 635, 636, 637, 638, 639, 640, 887, 888, 889, 890, 891, 892, 139] (by decide +kernel) (by decide +kernel) w h).1
set_option maxRecDepth 20000 in
theorem zLr27 : ∀ w ∈ wsL_law0_r27, w ∈ lw_tbl := fun w h => (goodIn_r (big := lw_tbl) wsL_law0_r27 [140, 141, 142, 143, 144, 145, 146, 147, 150, 6, 151, 152, 893, 894, 895, 896, 897, 898] (by decide +kernel) (by decide +kernel) w h).1
set_option maxRecDepth 20000 in
theorem zLwsX20 : ∀ w ∈ wsX20, w ∈ lw_tbl := fun w h => (goodIn_p (big := lw_tbl) wsX20 [] (by decide +kernel) (by decide +kernel) w h).1
set_option maxRecDepth 20000 in
theorem zLwsX30 : ∀ w ∈ wsX30, w ∈ lw_tbl := fun w h => (goodIn_p (big := lw_tbl) wsX30 [] (by decide +kernel) (by decide +kernel) w h).1
set_option maxRecDepth 20000 in
theorem zLwsX10 : ∀ w ∈ wsX10, w ∈ lw_tbl := fun w h => (goodIn_p (big := lw_tbl) wsX10 [] (by decide +kernel) (by decide +kernel) w h).1
set_option maxRecDepth 20000 in
theorem zLwsX00 : ∀ w ∈ wsX00, w ∈ lw_tbl := fun w h => (goodIn_p (big := lw_tbl) wsX00 [] (by decide +kernel) (by decide +kernel) w h).1
theorem wsL_law_in0 : ∀ w ∈ wsL_law0, w ∈ lw_tbl := by
  unfold wsL_law0
  exact List.forall_mem_append.mpr ⟨List.forall_mem_append.mpr ⟨List.forall_mem_append.mpr ⟨List.forall_mem_append.mpr ⟨List.forall_mem_append.mpr ⟨List.forall_mem_append.mpr ⟨zLr1, List.forall_mem_append.mpr ⟨zLr2, List.forall_mem_append.mpr ⟨zLr3, List.forall_mem_append.mpr ⟨zLr4, List.forall_mem_append.mpr ⟨zLr5, List.forall_mem_append.mpr ⟨zLr6, List.forall_mem_append.mpr ⟨zLr7, List.forall_mem_append.mpr ⟨zLr8, List.forall_mem_append.mpr ⟨zLr9, List.forall_mem_append.mpr ⟨zLr10, List.forall_mem_append.mpr ⟨zLr11, List.forall_mem_append.mpr ⟨zLr12, List.forall_mem_append.mpr ⟨zLr13, List.forall_mem_append.mpr ⟨zLr14, List.forall_mem_append.mpr ⟨zLr15, List.forall_mem_append.mpr ⟨zLr16, List.forall_mem_append.mpr ⟨zLr17, List.forall_mem_append.mpr ⟨zLr18, List.forall_mem_append.mpr ⟨zLr19, List.forall_mem_append.mpr ⟨zLr20, List.forall_mem_append.mpr ⟨zLr21, List.forall_mem_append.mpr ⟨zLr22, List.forall_mem_append.mpr ⟨zLr23, List.forall_mem_append.mpr ⟨zLr24, List.forall_mem_append.mpr ⟨zLr25, List.forall_mem_append.mpr ⟨zLr26, zLr27⟩⟩⟩⟩⟩⟩⟩⟩⟩⟩⟩⟩⟩⟩⟩⟩⟩⟩⟩⟩⟩⟩⟩⟩⟩⟩, zLwsX20⟩, zLwsX30⟩, zLwsX10⟩, zLwsX00⟩, fun _ h => absurd h List.not_mem_nil⟩
theorem wsL_law_x0 : ∀ w ∈ (vx_atS RX2 43 "java/lang/IllegalStateException" ["java/lang/RuntimeException", "java/lang/Exception"]).filter goodWord, w ∈ lw_tbl := by decide +kernel
theorem wsL_law_x1 : ∀ w ∈ (vx_atS RX2 212 "java/lang/IllegalArgumentException" ["java/lang/RuntimeException", "java/lang/Exception"]).filter goodWord, w ∈ lw_tbl := by decide +kernel
theorem wsL_law_x2 : ∀ w ∈ (vx_atS RX2 217 "java/lang/IndexOutOfBoundsException" ["java/lang/RuntimeException", "java/lang/Exception"]).filter goodWord, w ∈ lw_tbl := by decide +kernel
theorem wsL_law_in : ∀ w ∈ wsL_law, w ∈ lw_tbl := fun w h => (List.mem_append.mp h).elim (fun h => (List.mem_append.mp h).elim (fun h => (List.mem_append.mp h).elim (fun h => wsL_law_in0 w h) (fun h => wsL_law_x0 w h)) (fun h => wsL_law_x1 w h)) (fun h => wsL_law_x2 w h)
theorem inlX0 : ∀ w ∈ wsX00, w ∈ wsL_law := fun _ h => List.mem_append_left _ (List.mem_append_left _ (List.mem_append_left _ (List.mem_append_left _ (List.mem_append_right _ h))))
theorem inX0 : ∀ w ∈ wsX00, w ∈ lw_tbl := fun w h => wsL_law_in w (inlX0 w h)
theorem inlX1 : ∀ w ∈ wsX10, w ∈ wsL_law := fun _ h => List.mem_append_left _ (List.mem_append_left _ (List.mem_append_left _ (List.mem_append_left _ (List.mem_append_left _ (List.mem_append_right _ h)))))
theorem inX1 : ∀ w ∈ wsX10, w ∈ lw_tbl := fun w h => wsL_law_in w (inlX1 w h)
theorem inlX2 : ∀ w ∈ wsX20, w ∈ wsL_law := fun _ h => List.mem_append_left _ (List.mem_append_left _ (List.mem_append_left _ (List.mem_append_left _ (List.mem_append_left _ (List.mem_append_left _ (List.mem_append_left _ (List.mem_append_right _ h)))))))
theorem inX2 : ∀ w ∈ wsX20, w ∈ lw_tbl := fun w h => wsL_law_in w (inlX2 w h)
theorem inlX3 : ∀ w ∈ wsX30, w ∈ wsL_law := fun _ h => List.mem_append_left _ (List.mem_append_left _ (List.mem_append_left _ (List.mem_append_left _ (List.mem_append_left _ (List.mem_append_left _ (List.mem_append_right _ h))))))
theorem inX3 : ∀ w ∈ wsX30, w ∈ lw_tbl := fun w h => wsL_law_in w (inlX3 w h)
