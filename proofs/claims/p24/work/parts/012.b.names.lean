set_option maxRecDepth 20000 in
theorem wsL_law0_r1_eq : wsL_law0_r1 = ([43, 44, 31, 108, 107, 673, 409, 41, 410, 45, 46, 47, 48, 49, 50, 51, 52, 32, 229, 149, 150, 34, 230, 231] : List Nat).filterMap (fun i => lw_tbl[i]?) := by decide +kernel
set_option maxRecDepth 20000 in
theorem wsL_law0_r2_eq : wsL_law0_r2 = ([232, 233, 234, 235, 227, 156, 35, 236, 53, 54, 55, 56, 112, 115, 116, 117, 57, 121, 124, 127, 59, 33, 61, 62] : List Nat).filterMap (fun i => lw_tbl[i]?) := by decide +kernel
set_option maxRecDepth 20000 in
theorem wsL_law0_r3_eq : wsL_law0_r3 = ([63, 64, 67, 71, 74, 84, 86, 152, 153, 154, 155, 216, 217, 158, 159, 160, 165, 167, 169, 171, 176, 178, 180, 182] : List Nat).filterMap (fun i => lw_tbl[i]?) := by decide +kernel
set_option maxRecDepth 20000 in
theorem wsL_law0_r4_eq : wsL_law0_r4 = ([184, 641, 642, 30, 643, 644, 637, 638, 639, 640, 254, 255, 256, 257, 258, 259, 260, 261, 39, 329, 331, 1, 332, 333] : List Nat).filterMap (fun i => lw_tbl[i]?) := by decide +kernel
set_option maxRecDepth 20000 in
theorem wsL_law0_r5_eq : wsL_law0_r5 = ([40, 349, 350, 351, 352, 109, 545, 546, 547, 548, 416, 418, 6, 419, 420, 421, 422, 423, 424, 426, 7, 427, 119, 428] : List Nat).filterMap (fun i => lw_tbl[i]?) := by decide +kernel
set_option maxRecDepth 20000 in
theorem wsL_law0_r6_eq : wsL_law0_r6 = ([430, 8, 431, 432, 433, 434, 435, 436, 437, 438, 439, 440, 441, 442, 443, 445, 9, 446, 451, 452, 453, 454, 447, 448] : List Nat).filterMap (fun i => lw_tbl[i]?) := by decide +kernel
set_option maxRecDepth 20000 in
theorem wsL_law0_r7_eq : wsL_law0_r7 = ([449, 450, 455, 457, 10, 458, 459, 460, 461, 462, 463, 464, 465, 218, 466, 467, 468, 469, 164, 162, 173, 185, 186, 470] : List Nat).filterMap (fun i => lw_tbl[i]?) := by decide +kernel
set_option maxRecDepth 20000 in
theorem wsL_law0_r8_eq : wsL_law0_r8 = ([472, 11, 473, 474, 475, 476, 477, 478, 480, 12, 481, 482, 484, 13, 485, 491, 486, 487, 488, 489, 490, 492, 494, 14] : List Nat).filterMap (fun i => lw_tbl[i]?) := by decide +kernel
set_option maxRecDepth 20000 in
theorem wsL_law0_r9_eq : wsL_law0_r9 = ([495, 496, 498, 15, 499, 500, 502, 16, 503, 504, 506, 17, 507, 508, 510, 18, 511, 549, 551, 20, 552, 524, 525, 526] : List Nat).filterMap (fun i => lw_tbl[i]?) := by decide +kernel
set_option maxRecDepth 20000 in
theorem wsL_law0_r10_eq : wsL_law0_r10 = ([527, 528, 529, 530, 531, 553, 554, 555, 556, 557, 558, 559, 560, 561, 562, 563, 564, 565, 353, 354, 355, 356, 358, 359] : List Nat).filterMap (fun i => lw_tbl[i]?) := by decide +kernel
set_option maxRecDepth 20000 in
theorem wsL_law0_r11_eq : wsL_law0_r11 = ([360, 361, 362, 363, 364, 365, 77, 81, 512, 513, 514, 515, 374, 376, 3, 377, 378, 42, 516, 517, 518, 519, 411, 412] : List Nat).filterMap (fun i => lw_tbl[i]?) := by decide +kernel
set_option maxRecDepth 20000 in
theorem wsL_law0_r12_eq : wsL_law0_r12 = ([413, 414, 394, 396, 4, 397, 399, 401, 5, 402, 404, 405, 406, 407, 408, 366, 367, 368, 369, 370, 372, 2, 373, 520] : List Nat).filterMap (fun i => lw_tbl[i]?) := by decide +kernel
set_option maxRecDepth 20000 in
theorem wsL_law0_r13_eq : wsL_law0_r13 = ([521, 522, 523, 566, 567, 568, 569, 570, 572, 21, 573, 574, 645, 646, 647, 669, 648, 649, 650, 651, 610, 612, 24, 613] : List Nat).filterMap (fun i => lw_tbl[i]?) := by decide +kernel
set_option maxRecDepth 20000 in
theorem wsL_law0_r14_eq : wsL_law0_r14 = ([541, 542, 543, 544, 652, 653, 654, 655, 656, 658, 29, 659, 626, 628, 28, 629, 630, 631, 632, 633, 634, 635, 636, 661] : List Nat).filterMap (fun i => lw_tbl[i]?) := by decide +kernel
set_option maxRecDepth 20000 in
theorem wsL_law0_r15_eq : wsL_law0_r15 = ([662, 663, 664, 618, 620, 26, 621, 665, 666, 667, 668, 596, 597, 598, 599, 600, 532, 533, 534, 535, 536, 538, 19, 539] : List Nat).filterMap (fun i => lw_tbl[i]?) := by decide +kernel
set_option maxRecDepth 20000 in
theorem wsL_law0_r16_eq : wsL_law0_r16 = ([540, 670, 671, 672, 601, 602, 603, 604, 605, 606, 607, 608, 609, 614, 616, 25, 617, 622, 624, 27, 625, 575, 576, 577] : List Nat).filterMap (fun i => lw_tbl[i]?) := by decide +kernel
set_option maxRecDepth 20000 in
theorem wsL_law0_r17_eq : wsL_law0_r17 = ([578, 591, 579, 580, 581, 582, 583, 584, 585, 586, 587, 589, 22, 590, 592, 594, 23, 595] : List Nat).filterMap (fun i => lw_tbl[i]?) := by decide +kernel
set_option maxRecDepth 20000 in
theorem wsX00_eq : wsX00 = ([187, 189, 191, 193, 195, 197, 199, 201, 203, 205, 207, 209, 211, 213] : List Nat).filterMap (fun i => lw_tbl[i]?) := by decide +kernel
set_option maxRecDepth 20000 in
theorem wsX10_eq : wsX10 = ([90, 92, 94, 96, 98, 100, 102, 104] : List Nat).filterMap (fun i => lw_tbl[i]?) := by decide +kernel
set_option maxRecDepth 20000 in
theorem wsX20_eq : wsX20 = ([220, 222, 224] : List Nat).filterMap (fun i => lw_tbl[i]?) := by decide +kernel
set_option maxRecDepth 20000 in
theorem wsX30_eq : wsX30 = ([130, 132, 134, 136, 138, 140, 142, 144, 146] : List Nat).filterMap (fun i => lw_tbl[i]?) := by decide +kernel
set_option maxRecDepth 20000 in
theorem wsX40_eq : wsX40 = ([237, 239, 241, 243, 245, 247, 249, 251] : List Nat).filterMap (fun i => lw_tbl[i]?) := by decide +kernel
theorem of_places {l : List Cond} {ps : List Nat} (h : l = ps.filterMap (fun i => lw_tbl[i]?)) : ∀ w ∈ l, w ∈ lw_tbl := by
  intro w hw
  rw [h] at hw
  obtain ⟨i, -, hi⟩ := List.mem_filterMap.mp hw
  exact List.mem_of_getElem? hi
theorem app2 {a b : List Cond} (ha : ∀ w ∈ a, w ∈ lw_tbl) (hb : ∀ w ∈ b, w ∈ lw_tbl) : ∀ w ∈ a ++ b, w ∈ lw_tbl := fun w h => (List.mem_append.mp h).elim (ha w) (hb w)
theorem wsL_law_in0 : ∀ w ∈ wsL_law0, w ∈ lw_tbl := app2 (app2 (app2 (app2 (app2 (app2 (app2 (of_places wsL_law0_r1_eq) (app2 (of_places wsL_law0_r2_eq) (app2 (of_places wsL_law0_r3_eq) (app2 (of_places wsL_law0_r4_eq) (app2 (of_places wsL_law0_r5_eq) (app2 (of_places wsL_law0_r6_eq) (app2 (of_places wsL_law0_r7_eq) (app2 (of_places wsL_law0_r8_eq) (app2 (of_places wsL_law0_r9_eq) (app2 (of_places wsL_law0_r10_eq) (app2 (of_places wsL_law0_r11_eq) (app2 (of_places wsL_law0_r12_eq) (app2 (of_places wsL_law0_r13_eq) (app2 (of_places wsL_law0_r14_eq) (app2 (of_places wsL_law0_r15_eq) (app2 (of_places wsL_law0_r16_eq) (of_places wsL_law0_r17_eq))))))))))))))))) (of_places wsX40_eq)) (of_places wsX30_eq)) (of_places wsX20_eq)) (of_places wsX00_eq)) (of_places wsX10_eq)) (fun _ h => absurd h List.not_mem_nil)
theorem wsL_law_x0 : ∀ w ∈ (vx_atS RX4 126 "java/lang/IllegalArgumentException" ["java/lang/RuntimeException", "java/lang/Exception"]).filter goodWord, w ∈ lw_tbl := by decide +kernel
theorem wsL_law_x1 : ∀ w ∈ (vx_atS RX4 79 "java/lang/IllegalStateException" ["java/lang/RuntimeException", "java/lang/Exception"]).filter goodWord, w ∈ lw_tbl := by decide +kernel
theorem wsL_law_x2 : ∀ w ∈ (vx_atS RX4 215 "java/lang/IndexOutOfBoundsException" ["java/lang/RuntimeException", "java/lang/Exception"]).filter goodWord, w ∈ lw_tbl := by decide +kernel
theorem wsL_law_in : ∀ w ∈ wsL_law, w ∈ lw_tbl := fun w h => (List.mem_append.mp h).elim (fun h => (List.mem_append.mp h).elim (fun h => (List.mem_append.mp h).elim (fun h => wsL_law_in0 w h) (fun h => wsL_law_x0 w h)) (fun h => wsL_law_x1 w h)) (fun h => wsL_law_x2 w h)
theorem inlX0 : ∀ w ∈ wsX00, w ∈ wsL_law := fun _ h => List.mem_append_left _ (List.mem_append_left _ (List.mem_append_left _ (List.mem_append_left _ (List.mem_append_left _ (List.mem_append_right _ h)))))
theorem inX0 : ∀ w ∈ wsX00, w ∈ lw_tbl := fun w h => wsL_law_in w (inlX0 w h)
theorem inlX1 : ∀ w ∈ wsX10, w ∈ wsL_law := fun _ h => List.mem_append_left _ (List.mem_append_left _ (List.mem_append_left _ (List.mem_append_left _ (List.mem_append_right _ h))))
theorem inX1 : ∀ w ∈ wsX10, w ∈ lw_tbl := fun w h => wsL_law_in w (inlX1 w h)
theorem inlX2 : ∀ w ∈ wsX20, w ∈ wsL_law := fun _ h => List.mem_append_left _ (List.mem_append_left _ (List.mem_append_left _ (List.mem_append_left _ (List.mem_append_left _ (List.mem_append_left _ (List.mem_append_right _ h))))))
theorem inX2 : ∀ w ∈ wsX20, w ∈ lw_tbl := fun w h => wsL_law_in w (inlX2 w h)
theorem inlX3 : ∀ w ∈ wsX30, w ∈ wsL_law := fun _ h => List.mem_append_left _ (List.mem_append_left _ (List.mem_append_left _ (List.mem_append_left _ (List.mem_append_left _ (List.mem_append_left _ (List.mem_append_left _ (List.mem_append_right _ h)))))))
theorem inX3 : ∀ w ∈ wsX30, w ∈ lw_tbl := fun w h => wsL_law_in w (inlX3 w h)
theorem inlX4 : ∀ w ∈ wsX40, w ∈ wsL_law := fun _ h => List.mem_append_left _ (List.mem_append_left _ (List.mem_append_left _ (List.mem_append_left _ (List.mem_append_left _ (List.mem_append_left _ (List.mem_append_left _ (List.mem_append_left _ (List.mem_append_right _ h))))))))
theorem inX4 : ∀ w ∈ wsX40, w ∈ lw_tbl := fun w h => wsL_law_in w (inlX4 w h)
theorem inX5 : ∀ w ∈ wsX50, w ∈ lw_tbl := by decide +kernel
theorem inX6 : ∀ w ∈ wsX60, w ∈ lw_tbl := by decide +kernel
theorem inX7 : ∀ w ∈ wsX70, w ∈ lw_tbl := by decide +kernel
theorem inX8 : ∀ w ∈ wsX80, w ∈ lw_tbl := by decide +kernel
theorem inX9 : ∀ w ∈ wsX90, w ∈ lw_tbl := by decide +kernel
theorem inX10 : ∀ w ∈ wsX100, w ∈ lw_tbl := by decide +kernel
theorem inJx145de : ∀ w ∈ wsJx145de0, w ∈ lw_tbl := by decide +kernel
theorem inJ9 : ∀ w ∈ wsJ90, w ∈ lw_tbl := by decide +kernel
theorem inJ0 : ∀ w ∈ wsJ00, w ∈ lw_tbl := by decide +kernel
