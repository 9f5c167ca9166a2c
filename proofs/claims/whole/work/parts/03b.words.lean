theorem z_inT {big ws : List Cond} (ps : List Nat) (hp : ws = ps.filterMap (fun i => big[i]?)) : ∀ w ∈ ws, w ∈ big := by
  intro w hw
  rw [hp] at hw
  obtain ⟨i, -, hi⟩ := List.mem_filterMap.mp hw
  exact List.mem_of_getElem? hi
theorem z_inA {big a b : List Cond} (ha : ∀ w ∈ a, w ∈ big) (hb : ∀ w ∈ b, w ∈ big) : ∀ w ∈ a ++ b, w ∈ big := fun w h => (List.mem_append.mp h).elim (ha w) (hb w)
set_option maxRecDepth 20000 in
theorem wsL_law0_r1_in : ∀ w ∈ wsL_law0_r1, w ∈ lw_tbl := z_inT [56, 57, 46, 528, 529, 47, 789, 58, 59, 60, 61, 62, 63, 107, 64, 65, 66, 68, 108, 69, 70, 71, 67, 72] (by decide +kernel)
set_option maxRecDepth 20000 in
theorem wsL_law0_r2_in : ∀ w ∈ wsL_law0_r2, w ∈ lw_tbl := z_inT [73, 74, 75, 530, 531, 532, 533, 536, 537, 360, 361, 45, 362, 363, 364, 365, 366, 367, 368, 51, 551, 552, 553, 554] (by decide +kernel)
set_option maxRecDepth 20000 in
theorem wsL_law0_r3_in : ∀ w ∈ wsL_law0_r3, w ∈ lw_tbl := z_inT [534, 535, 555, 557, 21, 558, 559, 561, 22, 562, 547, 548, 549, 550, 384, 385, 386, 387, 388, 389, 390, 391, 392, 193] (by decide +kernel)
set_option maxRecDepth 20000 in
theorem wsL_law0_r4_in : ∀ w ∈ wsL_law0_r4, w ∈ lw_tbl := z_inT [195, 3, 196, 197, 52, 393, 394, 395, 396, 53, 412, 414, 17, 415, 121, 123, 1, 124, 125, 126, 54, 127, 563, 564] (by decide +kernel)
set_option maxRecDepth 20000 in
theorem wsL_law0_r5_in : ∀ w ∈ wsL_law0_r5, w ∈ lw_tbl := z_inT [565, 566, 578, 567, 569, 23, 570, 571, 572, 573, 574, 576, 24, 577, 417, 418, 419, 420, 421, 422, 423, 424, 425, 426] (by decide +kernel)
set_option maxRecDepth 20000 in
theorem wsL_law0_r6_in : ∀ w ∈ wsL_law0_r6, w ∈ lw_tbl := z_inT [428, 430, 18, 431, 297, 299, 8, 300, 301, 302, 303, 304, 306, 9, 307, 433, 435, 19, 436, 579, 580, 581, 582, 583] (by decide +kernel)
set_option maxRecDepth 20000 in
theorem wsL_law0_r7_in : ∀ w ∈ wsL_law0_r7, w ∈ lw_tbl := z_inT [585, 25, 586, 587, 588, 590, 26, 591, 437, 438, 439, 440, 441, 442, 443, 331, 333, 14, 334, 592, 593, 594, 595, 444] (by decide +kernel)
set_option maxRecDepth 20000 in
theorem wsL_law0_r8_in : ∀ w ∈ wsL_law0_r8, w ∈ lw_tbl := z_inT [445, 446, 447, 448, 449, 450, 596, 597, 598, 599, 109, 110, 111, 112, 113, 114, 115, 116, 117, 119, 0, 120, 600, 601] (by decide +kernel)
set_option maxRecDepth 20000 in
theorem wsL_law0_r9_in : ∀ w ∈ wsL_law0_r9, w ∈ lw_tbl := z_inT [602, 603, 604, 606, 27, 607, 608, 610, 28, 611, 612, 614, 29, 615, 616, 618, 30, 619, 451, 452, 453, 454, 455, 456] (by decide +kernel)
set_option maxRecDepth 20000 in
theorem wsL_law0_r10_in : ∀ w ∈ wsL_law0_r10, w ∈ lw_tbl := z_inT [457, 458, 460, 20, 461, 316, 317, 318, 462, 319, 321, 12, 322, 277, 279, 5, 280, 620, 621, 622, 623, 624, 626, 31] (by decide +kernel)
set_option maxRecDepth 20000 in
theorem wsL_law0_r11_in : ∀ w ∈ wsL_law0_r11, w ∈ lw_tbl := z_inT [627, 628, 630, 32, 631, 632, 634, 33, 635, 128, 129, 130, 131, 636, 637, 638, 639, 132, 133, 134, 135, 640, 641, 642] (by decide +kernel)
set_option maxRecDepth 20000 in
theorem wsL_law0_r12_in : ∀ w ∈ wsL_law0_r12, w ∈ lw_tbl := z_inT [643, 463, 464, 465, 466, 190, 191, 192, 644, 645, 646, 647, 648, 650, 34, 651, 467, 468, 469, 470, 266, 267, 268, 652] (by decide +kernel)
set_option maxRecDepth 20000 in
theorem wsL_law0_r13_in : ∀ w ∈ wsL_law0_r13, w ∈ lw_tbl := z_inT [653, 654, 655, 471, 472, 473, 474, 270, 271, 272, 656, 657, 658, 659, 475, 476, 477, 478, 274, 275, 276, 660, 661, 662] (by decide +kernel)
set_option maxRecDepth 20000 in
theorem wsL_law0_r14_in : ∀ w ∈ wsL_law0_r14, w ∈ lw_tbl := z_inT [663, 136, 137, 138, 139, 664, 665, 666, 667, 668, 670, 35, 671, 140, 141, 142, 143, 672, 673, 674, 675, 676, 678, 36] (by decide +kernel)
set_option maxRecDepth 20000 in
theorem wsL_law0_r15_in : ∀ w ∈ wsL_law0_r15, w ∈ lw_tbl := z_inT [679, 144, 145, 146, 147, 680, 681, 682, 683, 148, 149, 150, 151, 684, 685, 686, 687, 152, 153, 154, 155, 688, 689, 690] (by decide +kernel)
set_option maxRecDepth 20000 in
theorem wsL_law0_r16_in : ∀ w ∈ wsL_law0_r16, w ∈ lw_tbl := z_inT [691, 479, 480, 481, 482, 340, 341, 342, 343, 345, 16, 346, 692, 693, 694, 695, 696, 698, 37, 699, 700, 702, 38, 703] (by decide +kernel)
set_option maxRecDepth 20000 in
theorem wsL_law0_r17_in : ∀ w ∈ wsL_law0_r17, w ∈ lw_tbl := z_inT [483, 484, 485, 486, 349, 350, 351, 704, 705, 706, 707, 487, 488, 489, 490, 353, 354, 355, 708, 709, 710, 711, 491, 492] (by decide +kernel)
set_option maxRecDepth 20000 in
theorem wsL_law0_r18_in : ∀ w ∈ wsL_law0_r18, w ∈ lw_tbl := z_inT [493, 494, 357, 358, 359, 712, 713, 714, 715, 156, 716, 717, 718, 719, 495, 496, 497, 498, 282, 283, 284, 720, 721, 722] (by decide +kernel)
set_option maxRecDepth 20000 in
theorem wsL_law0_r19_in : ∀ w ∈ wsL_law0_r19, w ∈ lw_tbl := z_inT [723, 724, 726, 39, 727, 157, 158, 159, 160, 728, 729, 730, 731, 161, 162, 163, 164, 732, 733, 734, 735, 499, 500, 501] (by decide +kernel)
set_option maxRecDepth 20000 in
theorem wsL_law0_r20_in : ∀ w ∈ wsL_law0_r20, w ∈ lw_tbl := z_inT [502, 503, 504, 505, 293, 295, 7, 296, 76, 77, 308, 310, 10, 311, 312, 314, 11, 315, 736, 737, 738, 739, 740, 742] (by decide +kernel)
set_option maxRecDepth 20000 in
theorem wsL_law0_r21_in : ∀ w ∈ wsL_law0_r21, w ∈ lw_tbl := z_inT [40, 743, 744, 746, 745, 55, 747, 749, 41, 750, 506, 507, 508, 509, 510, 511, 512, 751, 752, 753, 754, 755, 757, 42] (by decide +kernel)
set_option maxRecDepth 20000 in
theorem wsL_law0_r22_in : ∀ w ∈ wsL_law0_r22, w ∈ lw_tbl := z_inT [758, 513, 514, 515, 516, 517, 518, 519, 759, 760, 761, 762, 520, 521, 522, 523, 286, 287, 288, 289, 291, 6, 292, 763] (by decide +kernel)
set_option maxRecDepth 20000 in
theorem wsL_law0_r23_in : ∀ w ∈ wsL_law0_r23, w ∈ lw_tbl := z_inT [764, 765, 766, 767, 769, 43, 770, 524, 525, 526, 527, 324, 325, 326, 327, 329, 13, 330, 771, 772, 773, 774, 775, 777] (by decide +kernel)
set_option maxRecDepth 20000 in
theorem wsL_law0_r24_in : ∀ w ∈ wsL_law0_r24, w ∈ lw_tbl := z_inT [44, 778, 165, 166, 167, 168, 779, 780, 781, 782, 169, 170, 171, 172, 173, 174, 175, 176, 177, 178, 179, 180, 181, 182] (by decide +kernel)
set_option maxRecDepth 20000 in
theorem wsL_law0_r25_in : ∀ w ∈ wsL_law0_r25, w ∈ lw_tbl := z_inT [183, 184, 185, 187, 2, 188, 189, 265, 269, 273, 281, 285, 323, 335, 337, 15, 338, 339, 348, 352, 356, 783, 784, 785] (by decide +kernel)
set_option maxRecDepth 20000 in
theorem wsL_law0_r26_in : ∀ w ∈ wsL_law0_r26, w ∈ lw_tbl := z_inT [786, 787, 788] (by decide +kernel)
set_option maxRecDepth 20000 in
theorem wsX00_in : ∀ w ∈ wsX00, w ∈ lw_tbl := z_inT [78, 80, 82, 84, 86, 88, 90, 92, 94, 96, 98, 100, 102, 104] (by decide +kernel)
set_option maxRecDepth 20000 in
theorem wsX10_in : ∀ w ∈ wsX10, w ∈ lw_tbl := z_inT [538, 540, 542, 544] (by decide +kernel)
theorem wsL_law_in0 : ∀ w ∈ wsL_law0, w ∈ lw_tbl := z_inA (z_inA (z_inA (z_inA wsL_law0_r1_in (z_inA wsL_law0_r2_in (z_inA wsL_law0_r3_in (z_inA wsL_law0_r4_in (z_inA wsL_law0_r5_in (z_inA wsL_law0_r6_in (z_inA wsL_law0_r7_in (z_inA wsL_law0_r8_in (z_inA wsL_law0_r9_in (z_inA wsL_law0_r10_in (z_inA wsL_law0_r11_in (z_inA wsL_law0_r12_in (z_inA wsL_law0_r13_in (z_inA wsL_law0_r14_in (z_inA wsL_law0_r15_in (z_inA wsL_law0_r16_in (z_inA wsL_law0_r17_in (z_inA wsL_law0_r18_in (z_inA wsL_law0_r19_in (z_inA wsL_law0_r20_in (z_inA wsL_law0_r21_in (z_inA wsL_law0_r22_in (z_inA wsL_law0_r23_in (z_inA wsL_law0_r24_in (z_inA wsL_law0_r25_in (wsL_law0_r26_in)))))))))))))))))))))))))) wsX00_in) wsX10_in) (fun _ h => nomatch h)
theorem wsL_law_x0 : ∀ w ∈ (vx_atS RX0 52 "java/lang/IllegalStateException" ["java/lang/RuntimeException", "java/lang/Exception"]).filter goodWord, w ∈ lw_tbl := by decide +kernel
theorem wsL_law_x1 : ∀ w ∈ (vx_atS RX0 199 "java/lang/IndexOutOfBoundsException" ["java/lang/RuntimeException", "java/lang/Exception"]).filter goodWord, w ∈ lw_tbl := by decide +kernel
theorem wsL_law_x2 : ∀ w ∈ (vx_atS RX0 208 "java/lang/IllegalArgumentException" ["java/lang/RuntimeException", "java/lang/Exception"]).filter goodWord, w ∈ lw_tbl := by decide +kernel
theorem wsL_law_in : ∀ w ∈ wsL_law, w ∈ lw_tbl := fun w h => (List.mem_append.mp h).elim (fun h => (List.mem_append.mp h).elim (fun h => (List.mem_append.mp h).elim (fun h => wsL_law_in0 w h) (fun h => wsL_law_x0 w h)) (fun h => wsL_law_x1 w h)) (fun h => wsL_law_x2 w h)
theorem inlX0 : ∀ w ∈ wsX00, w ∈ wsL_law := fun _ h => List.mem_append_left _ (List.mem_append_left _ (List.mem_append_left _ (List.mem_append_left _ (List.mem_append_left _ (List.mem_append_right _ h)))))
theorem inX0 : ∀ w ∈ wsX00, w ∈ lw_tbl := fun w h => wsL_law_in w (inlX0 w h)
theorem inlX1 : ∀ w ∈ wsX10, w ∈ wsL_law := fun _ h => List.mem_append_left _ (List.mem_append_left _ (List.mem_append_left _ (List.mem_append_left _ (List.mem_append_right _ h))))
theorem inX1 : ∀ w ∈ wsX10, w ∈ lw_tbl := fun w h => wsL_law_in w (inlX1 w h)
theorem inJ9 : ∀ w ∈ wsJ90, w ∈ lw_tbl := by decide +kernel
theorem inJ0 : ∀ w ∈ wsJ00, w ∈ lw_tbl := by decide +kernel
theorem inJ10 : ∀ w ∈ wsJ100, w ∈ lw_tbl := by decide +kernel
