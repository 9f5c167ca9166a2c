theorem z_inT {big ws : List Cond} (ps : List Nat) (hp : ws = ps.filterMap (fun i => big[i]?)) : ∀ w ∈ ws, w ∈ big := by
  intro w hw
  rw [hp] at hw
  obtain ⟨i, -, hi⟩ := List.mem_filterMap.mp hw
  exact List.mem_of_getElem? hi
theorem z_inA {big a b : List Cond} (ha : ∀ w ∈ a, w ∈ big) (hb : ∀ w ∈ b, w ∈ big) : ∀ w ∈ a ++ b, w ∈ big := fun w h => (List.mem_append.mp h).elim (ha w) (hb w)
set_option maxRecDepth 20000 in
theorem wsL_law0_r1_in : ∀ w ∈ wsL_law0_r1, w ∈ lw_tbl := z_inT [24, 25, 15, 73, 369, 174, 21, 175, 452, 185, 186, 26, 27, 28, 29, 30, 31, 32, 33, 34, 36, 74, 37, 38] (by decide +kernel)
set_option maxRecDepth 20000 in
theorem wsL_law0_r2_in : ∀ w ∈ wsL_law0_r2, w ∈ lw_tbl := z_inT [39, 35, 40, 41, 42, 43, 424, 425, 14, 426, 427, 428, 16, 430, 431, 432, 434, 301, 437, 439, 335, 336, 337, 338] (by decide +kernel)
set_option maxRecDepth 20000 in
theorem wsL_law0_r3_in : ∀ w ∈ wsL_law0_r3, w ∈ lw_tbl := z_inT [342, 343, 344, 345, 339, 340, 341, 438, 435, 440, 346, 347, 348, 349, 350, 351, 352, 353, 20, 370, 371, 372, 373, 203] (by decide +kernel)
set_option maxRecDepth 20000 in
theorem wsL_law0_r4_in : ∀ w ∈ wsL_law0_r4, w ∈ lw_tbl := z_inT [205, 7, 206, 207, 22, 79, 80, 81, 82, 23, 374, 376, 9, 377, 169, 171, 3, 172, 173, 379, 380, 381, 382, 383] (by decide +kernel)
set_option maxRecDepth 20000 in
theorem wsL_law0_r5_in : ∀ w ∈ wsL_law0_r5, w ∈ lw_tbl := z_inT [384, 385, 387, 389, 10, 390, 392, 394, 11, 395, 184, 180, 182, 5, 183, 396, 398, 12, 399, 400, 401, 402, 403, 404] (by decide +kernel)
set_option maxRecDepth 20000 in
theorem wsL_law0_r6_in : ∀ w ∈ wsL_law0_r6, w ∈ lw_tbl := z_inT [405, 406, 407, 408, 409, 411, 13, 412, 413, 414, 415, 416, 417, 158, 159, 160, 161, 162, 163, 164, 165, 167, 2, 168] (by decide +kernel)
set_option maxRecDepth 20000 in
theorem wsL_law0_r7_in : ∀ w ∈ wsL_law0_r7, w ∈ lw_tbl := z_inT [418, 298, 299, 300, 436, 75, 76, 77, 78, 150, 152, 1, 153, 154, 155, 156, 157, 176, 178, 4, 179, 187, 189, 6] (by decide +kernel)
set_option maxRecDepth 20000 in
theorem wsL_law0_r8_in : ∀ w ∈ wsL_law0_r8, w ∈ lw_tbl := z_inT [190, 419, 420, 421, 422, 423, 294, 295, 296, 433, 297, 195, 196, 197, 198, 251, 252, 253, 254, 272, 273, 274, 275, 259] (by decide +kernel)
set_option maxRecDepth 20000 in
theorem wsL_law0_r9_in : ∀ w ∈ wsL_law0_r9, w ∈ lw_tbl := z_inT [261, 8, 262, 268, 269, 270, 271, 264, 265, 266, 267, 255, 256, 257, 258, 199, 200, 201, 202, 223, 224, 225, 226, 227] (by decide +kernel)
set_option maxRecDepth 20000 in
theorem wsL_law0_r10_in : ∀ w ∈ wsL_law0_r10, w ∈ lw_tbl := z_inT [228, 229, 230, 277, 278, 279, 280, 235, 236, 237, 238, 231, 232, 233, 234, 247, 248, 249, 250, 276, 239, 240, 241, 242] (by decide +kernel)
set_option maxRecDepth 20000 in
theorem wsL_law0_r11_in : ∀ w ∈ wsL_law0_r11, w ∈ lw_tbl := z_inT [243, 244, 245, 246, 289, 290, 291, 292, 281, 282, 283, 284, 191, 192, 193, 194, 285, 286, 287, 288, 293, 303, 304, 305] (by decide +kernel)
set_option maxRecDepth 20000 in
theorem wsL_law0_r12_in : ∀ w ∈ wsL_law0_r12, w ∈ lw_tbl := z_inT [306, 307, 308, 309, 310, 311, 312, 313, 314, 315, 316, 317, 318, 319, 320, 321, 322, 323, 324, 325, 326, 327, 328, 329] (by decide +kernel)
set_option maxRecDepth 20000 in
theorem wsL_law0_r13_in : ∀ w ∈ wsL_law0_r13, w ∈ lw_tbl := z_inT [330, 331, 332, 333, 334] (by decide +kernel)
set_option maxRecDepth 20000 in
theorem wsX00_in : ∀ w ∈ wsX00, w ∈ lw_tbl := z_inT [44, 46, 48, 50, 52, 54, 56, 58, 60, 62, 64, 66, 68, 70] (by decide +kernel)
set_option maxRecDepth 20000 in
theorem wsX10_in : ∀ w ∈ wsX10, w ∈ lw_tbl := z_inT [441, 443, 445, 447, 449] (by decide +kernel)
theorem wsL_law_in0 : ∀ w ∈ wsL_law0, w ∈ lw_tbl := z_inA (z_inA (z_inA (z_inA wsL_law0_r1_in (z_inA wsL_law0_r2_in (z_inA wsL_law0_r3_in (z_inA wsL_law0_r4_in (z_inA wsL_law0_r5_in (z_inA wsL_law0_r6_in (z_inA wsL_law0_r7_in (z_inA wsL_law0_r8_in (z_inA wsL_law0_r9_in (z_inA wsL_law0_r10_in (z_inA wsL_law0_r11_in (z_inA wsL_law0_r12_in (wsL_law0_r13_in))))))))))))) wsX00_in) wsX10_in) (fun _ h => nomatch h)
theorem wsL_law_x0 : ∀ w ∈ (vx_atS RX0 52 "java/lang/IllegalStateException" ["java/lang/RuntimeException", "java/lang/Exception"]).filter goodWord, w ∈ lw_tbl := by decide +kernel
theorem wsL_law_x1 : ∀ w ∈ (vx_atS RX0 199 "java/lang/IndexOutOfBoundsException" ["java/lang/RuntimeException", "java/lang/Exception"]).filter goodWord, w ∈ lw_tbl := by decide +kernel
theorem wsL_law_x2 : ∀ w ∈ (vx_atS RX0 208 "java/lang/IllegalArgumentException" ["java/lang/RuntimeException", "java/lang/Exception"]).filter goodWord, w ∈ lw_tbl := by decide +kernel
theorem wsL_law_in : ∀ w ∈ wsL_law, w ∈ lw_tbl := fun w h => (List.mem_append.mp h).elim (fun h => (List.mem_append.mp h).elim (fun h => (List.mem_append.mp h).elim (fun h => wsL_law_in0 w h) (fun h => wsL_law_x0 w h)) (fun h => wsL_law_x1 w h)) (fun h => wsL_law_x2 w h)
theorem inlX0 : ∀ w ∈ wsX00, w ∈ wsL_law := fun _ h => List.mem_append_left _ (List.mem_append_left _ (List.mem_append_left _ (List.mem_append_left _ (List.mem_append_left _ (List.mem_append_right _ h)))))
theorem inX0 : ∀ w ∈ wsX00, w ∈ lw_tbl := fun w h => wsL_law_in w (inlX0 w h)
theorem inlX1 : ∀ w ∈ wsX10, w ∈ wsL_law := fun _ h => List.mem_append_left _ (List.mem_append_left _ (List.mem_append_left _ (List.mem_append_left _ (List.mem_append_right _ h))))
theorem inX1 : ∀ w ∈ wsX10, w ∈ lw_tbl := fun w h => wsL_law_in w (inlX1 w h)
theorem inX2 : ∀ w ∈ wsX20, w ∈ lw_tbl := by decide +kernel
theorem inJ9 : ∀ w ∈ wsJ90, w ∈ lw_tbl := by decide +kernel
theorem inJ0 : ∀ w ∈ wsJ00, w ∈ lw_tbl := by decide +kernel
