theorem lq_mem {big : List Cond} (ws : List Cond) (ps qs : List Nat) (hp : ws.filter k2_isCode = ps.filterMap (fun i => big[i]?)) (hq : ws.filter (fun w => !k2_isCode w) = qs.filterMap (fun i => big[i]?)) : ∀ w ∈ ws, w ∈ big := by
  intro w hw
  by_cases hc : k2_isCode w = true
  · have h1 : w ∈ ws.filter k2_isCode := List.mem_filter.mpr ⟨hw, hc⟩
    rw [hp] at h1
    obtain ⟨i, -, hi⟩ := List.mem_filterMap.mp h1
    exact List.mem_of_getElem? hi
  · have h1 : w ∈ ws.filter (fun w => !k2_isCode w) := List.mem_filter.mpr ⟨hw, by simpa using hc⟩
    rw [hq] at h1
    obtain ⟨i, -, hi⟩ := List.mem_filterMap.mp h1
    exact List.mem_of_getElem? hi
set_option maxRecDepth 20000 in
theorem lq_wsL_law0_r1 : ∀ w ∈ wsL_law0_r1, w ∈ lw_tbl := lq_mem _ [82, 85, 90] [78, 79, 65, 599, 600, 70, 841, 80, 81, 83, 84, 86, 87, 66, 165, 105, 106, 67, 166, 89, 91] rfl (by decide +kernel)
set_option maxRecDepth 20000 in
theorem lq_wsL_law0_r2 : ∀ w ∈ wsL_law0_r2, w ∈ lw_tbl := lq_mem _ [109, 115, 138] [104, 92, 93, 107, 108, 110, 111, 112, 68, 158, 134, 135, 69, 156, 114, 116, 136, 137, 139, 141, 144] rfl (by decide +kernel)
set_option maxRecDepth 20000 in
theorem lq_wsL_law0_r3 : ∀ w ∈ wsL_law0_r3, w ∈ lw_tbl := lq_mem _ [603, 227, 231] [140, 601, 602, 604, 606, 607, 609, 612, 220, 221, 64, 222, 223, 224, 225, 226, 228, 230, 0, 238, 74] rfl (by decide +kernel)
set_option maxRecDepth 20000 in
theorem lq_wsL_law0_r4 : ∀ w ∈ wsL_law0_r4, w ∈ lw_tbl := lq_mem _ [236, 303, 307, 312, 664] [232, 233, 234, 235, 237, 300, 301, 302, 304, 306, 2, 308, 309, 310, 311, 661, 662, 663, 605] rfl (by decide +kernel)
set_option maxRecDepth 20000 in
theorem lq_wsL_law0_r5 : ∀ w ∈ wsL_law0_r5, w ∈ lw_tbl := lq_mem _ [667, 672, 319, 323, 676] [668, 665, 666, 669, 671, 34, 313, 314, 315, 316, 317, 318, 320, 321, 322, 673, 674, 675, 677] rfl (by decide +kernel)
set_option maxRecDepth 20000 in
theorem lq_wsL_law0_r6 : ∀ w ∈ wsL_law0_r6, w ∈ lw_tbl := lq_mem _ [680, 330, 684, 338] [679, 35, 324, 325, 326, 327, 328, 329, 331, 681, 682, 683, 332, 333, 334, 335, 336, 337, 339, 341] rfl (by decide +kernel)
set_option maxRecDepth 20000 in
theorem lq_wsL_law0_r7 : ∀ w ∈ wsL_law0_r7, w ∈ lw_tbl := lq_mem _ [342, 688, 349, 692, 660] [3, 685, 686, 687, 343, 344, 345, 346, 347, 348, 689, 690, 691, 657, 658, 659, 175, 176, 177] rfl (by decide +kernel)
set_option maxRecDepth 20000 in
theorem lq_wsL_law0_r8 : ∀ w ∈ wsL_law0_r8, w ∈ lw_tbl := lq_mem _ [178, 182, 696, 186, 190] [179, 180, 181, 117, 119, 121, 123, 693, 694, 695, 608, 183, 184, 185, 187, 188, 189, 697, 698] rfl (by decide +kernel)
set_option maxRecDepth 20000 in
theorem lq_wsL_law0_r9 : ∀ w ∈ wsL_law0_r9, w ∈ lw_tbl := lq_mem _ [700, 357, 376, 380] [699, 350, 351, 352, 353, 354, 355, 356, 358, 75, 167, 373, 374, 375, 377, 378, 379, 381, 383, 382] rfl (by decide +kernel)
set_option maxRecDepth 20000 in
theorem lq_wsL_law0_r10 : ∀ w ∈ wsL_law0_r10, w ∈ lw_tbl := lq_mem _ [388, 392, 397, 404] [76, 145, 384, 385, 386, 387, 393, 389, 391, 4, 394, 395, 396, 398, 399, 400, 401, 403, 5, 405] rfl (by decide +kernel)
set_option maxRecDepth 20000 in
theorem lq_wsL_law0_r11 : ∀ w ∈ wsL_law0_r11, w ∈ lw_tbl := lq_mem _ [407, 412, 415, 420, 423, 427] [406, 408, 409, 411, 6, 413, 414, 416, 417, 418, 419, 421, 422, 424, 426, 7, 428, 430] rfl (by decide +kernel)
set_option maxRecDepth 20000 in
theorem lq_wsL_law0_r12 : ∀ w ∈ wsL_law0_r12, w ∈ lw_tbl := lq_mem _ [431, 436, 440, 444, 447, 452] [8, 432, 433, 435, 9, 437, 439, 10, 441, 443, 11, 446, 448, 449, 451, 12, 453, 455] rfl (by decide +kernel)
set_option maxRecDepth 20000 in
theorem lq_wsL_law0_r13 : ∀ w ∈ wsL_law0_r13, w ∈ lw_tbl := lq_mem _ [456, 460, 464, 468, 473, 477] [13, 457, 459, 14, 461, 463, 15, 465, 466, 467, 470, 472, 16, 474, 475, 476, 478, 479] rfl (by decide +kernel)
set_option maxRecDepth 20000 in
theorem lq_wsL_law0_r14 : ∀ w ∈ wsL_law0_r14, w ∈ lw_tbl := lq_mem _ [481, 485, 489, 493, 496, 501] [480, 95, 482, 484, 17, 486, 488, 18, 490, 491, 492, 495, 497, 498, 499, 500, 502, 504] rfl (by decide +kernel)
set_option maxRecDepth 20000 in
theorem lq_wsL_law0_r15 : ∀ w ∈ wsL_law0_r15, w ∈ lw_tbl := lq_mem _ [505, 509, 512, 516, 521, 525] [19, 506, 508, 20, 510, 511, 513, 514, 515, 517, 518, 520, 21, 522, 524, 22, 526, 527] rfl (by decide +kernel)
set_option maxRecDepth 20000 in
theorem lq_wsL_law0_r16 : ∀ w ∈ wsL_law0_r16, w ∈ lw_tbl := lq_mem _ [529, 533, 537, 541, 545, 549] [528, 219, 530, 532, 23, 534, 536, 24, 538, 540, 25, 542, 544, 26, 546, 548, 27, 550] rfl (by decide +kernel)
set_option maxRecDepth 20000 in
theorem lq_wsL_law0_r17 : ∀ w ∈ wsL_law0_r17, w ∈ lw_tbl := lq_mem _ [553, 556, 562, 567, 571] [552, 28, 554, 555, 557, 558, 559, 561, 29, 563, 564, 566, 30, 568, 570, 31, 572, 574, 32] rfl (by decide +kernel)
set_option maxRecDepth 20000 in
theorem lq_wsL_law0_r18 : ∀ w ∈ wsL_law0_r18, w ∈ lw_tbl := lq_mem _ [575, 579, 582, 586, 591, 720] [576, 578, 33, 580, 581, 583, 584, 585, 588, 589, 590, 717, 718, 719, 611, 617, 618, 721] rfl (by decide +kernel)
set_option maxRecDepth 20000 in
theorem lq_wsL_law0_r19 : ∀ w ∈ wsL_law0_r19, w ∈ lw_tbl := lq_mem _ [724, 728, 732, 736] [723, 36, 613, 615, 619, 614, 616, 610, 725, 727, 37, 729, 731, 38, 733, 735, 39, 737, 739, 40] rfl (by decide +kernel)
set_option maxRecDepth 20000 in
theorem lq_wsL_law0_r20 : ∀ w ∈ wsL_law0_r20, w ∈ lw_tbl := lq_mem _ [740, 744, 748, 752, 756, 760] [741, 743, 41, 620, 782, 745, 747, 42, 621, 749, 751, 43, 753, 755, 44, 757, 759, 45] rfl (by decide +kernel)
set_option maxRecDepth 20000 in
theorem lq_wsL_law0_r21 : ∀ w ∈ wsL_law0_r21, w ∈ lw_tbl := lq_mem _ [764, 768, 772, 777, 781] [761, 763, 46, 765, 767, 47, 769, 771, 48, 773, 774, 776, 49, 778, 780, 50, 783, 785, 51] rfl (by decide +kernel)
set_option maxRecDepth 20000 in
theorem lq_wsL_law0_r22 : ∀ w ∈ wsL_law0_r22, w ∈ lw_tbl := lq_mem _ [786, 790, 794, 798, 802, 806] [787, 789, 52, 791, 793, 53, 795, 797, 54, 799, 801, 55, 803, 805, 56, 807, 809, 57] rfl (by decide +kernel)
set_option maxRecDepth 20000 in
theorem lq_wsL_law0_r23 : ∀ w ∈ wsL_law0_r23, w ∈ lw_tbl := lq_mem _ [810, 814, 818, 821, 826, 832] [811, 813, 58, 815, 817, 59, 819, 820, 822, 823, 825, 60, 827, 828, 829, 831, 61, 833] rfl (by decide +kernel)
set_option maxRecDepth 20000 in
theorem lq_wsL_law0_r24 : ∀ w ∈ wsL_law0_r24, w ∈ lw_tbl := lq_mem _ [836, 840, 194, 704, 598] [835, 62, 837, 839, 63, 191, 192, 193, 701, 702, 703, 592, 593, 594, 595, 596, 597, 705, 706] rfl (by decide +kernel)
set_option maxRecDepth 20000 in
theorem lq_wsL_law0_r25 : ∀ w ∈ wsL_law0_r25, w ∈ lw_tbl := lq_mem _ [708, 198, 712, 202, 206, 209] [707, 195, 196, 197, 709, 710, 711, 199, 200, 201, 203, 204, 205, 207, 208, 77, 210, 211] rfl (by decide +kernel)
set_option maxRecDepth 20000 in
theorem lq_wsL_law0_r26 : ∀ w ∈ wsL_law0_r26, w ∈ lw_tbl := lq_mem _ [213, 217, 716] [212, 214, 215, 216, 218, 713, 714, 715] rfl (by decide +kernel)
theorem lq_wsX40 : ∀ w ∈ wsX40, w ∈ lw_tbl := by decide +kernel
theorem lq_wsX50 : ∀ w ∈ wsX50, w ∈ lw_tbl := by decide +kernel
theorem lq_wsX10 : ∀ w ∈ wsX10, w ∈ lw_tbl := by decide +kernel
theorem lq_wsX30 : ∀ w ∈ wsX30, w ∈ lw_tbl := by decide +kernel
theorem lq_wsX00 : ∀ w ∈ wsX00, w ∈ lw_tbl := by decide +kernel
theorem lq_wsX20 : ∀ w ∈ wsX20, w ∈ lw_tbl := by decide +kernel
theorem wsL_law_in0 : ∀ w ∈ wsL_law0, w ∈ lw_tbl := by
  unfold wsL_law0
  exact List.forall_mem_append.mpr ⟨List.forall_mem_append.mpr ⟨List.forall_mem_append.mpr ⟨List.forall_mem_append.mpr ⟨List.forall_mem_append.mpr ⟨List.forall_mem_append.mpr ⟨List.forall_mem_append.mpr ⟨List.forall_mem_append.mpr ⟨lq_wsL_law0_r1, List.forall_mem_append.mpr ⟨lq_wsL_law0_r2, List.forall_mem_append.mpr ⟨lq_wsL_law0_r3, List.forall_mem_append.mpr ⟨lq_wsL_law0_r4, List.forall_mem_append.mpr ⟨lq_wsL_law0_r5, List.forall_mem_append.mpr ⟨lq_wsL_law0_r6, List.forall_mem_append.mpr ⟨lq_wsL_law0_r7, List.forall_mem_append.mpr ⟨lq_wsL_law0_r8, List.forall_mem_append.mpr ⟨lq_wsL_law0_r9, List.forall_mem_append.mpr ⟨lq_wsL_law0_r10, List.forall_mem_append.mpr ⟨lq_wsL_law0_r11, List.forall_mem_append.mpr ⟨lq_wsL_law0_r12, List.forall_mem_append.mpr ⟨lq_wsL_law0_r13, List.forall_mem_append.mpr ⟨lq_wsL_law0_r14, List.forall_mem_append.mpr ⟨lq_wsL_law0_r15, List.forall_mem_append.mpr ⟨lq_wsL_law0_r16, List.forall_mem_append.mpr ⟨lq_wsL_law0_r17, List.forall_mem_append.mpr ⟨lq_wsL_law0_r18, List.forall_mem_append.mpr ⟨lq_wsL_law0_r19, List.forall_mem_append.mpr ⟨lq_wsL_law0_r20, List.forall_mem_append.mpr ⟨lq_wsL_law0_r21, List.forall_mem_append.mpr ⟨lq_wsL_law0_r22, List.forall_mem_append.mpr ⟨lq_wsL_law0_r23, List.forall_mem_append.mpr ⟨lq_wsL_law0_r24, List.forall_mem_append.mpr ⟨lq_wsL_law0_r25, lq_wsL_law0_r26⟩⟩⟩⟩⟩⟩⟩⟩⟩⟩⟩⟩⟩⟩⟩⟩⟩⟩⟩⟩⟩⟩⟩⟩⟩, lq_wsX40⟩, lq_wsX50⟩, lq_wsX10⟩, lq_wsX30⟩, lq_wsX00⟩, lq_wsX20⟩, fun _ h => absurd h List.not_mem_nil⟩
theorem wsL_law_x0 : ∀ w ∈ (vx_at0 RX4 82 "java/lang/IndexOutOfBoundsException" ["java/lang/RuntimeException", "java/lang/Exception"]).filter goodWord, w ∈ lw_tbl := by decide +kernel
theorem wsL_law_x1 : ∀ w ∈ (vx_at0 RX4 69 "java/lang/IllegalArgumentException" ["java/lang/RuntimeException", "java/lang/Exception"]).filter goodWord, w ∈ lw_tbl := by decide +kernel
theorem wsL_law_in : ∀ w ∈ wsL_law, w ∈ lw_tbl := fun w h => (List.mem_append.mp h).elim (fun h => (List.mem_append.mp h).elim (fun h => wsL_law_in0 w h) (fun h => wsL_law_x0 w h)) (fun h => wsL_law_x1 w h)
theorem inlX0 : ∀ w ∈ wsX00, w ∈ wsL_law := fun _ h => List.mem_append_left _ (List.mem_append_left _ (List.mem_append_left _ (List.mem_append_left _ (List.mem_append_right _ h))))
theorem inX0 : ∀ w ∈ wsX00, w ∈ lw_tbl := fun w h => wsL_law_in w (inlX0 w h)
theorem inlX1 : ∀ w ∈ wsX10, w ∈ wsL_law := fun _ h => List.mem_append_left _ (List.mem_append_left _ (List.mem_append_left _ (List.mem_append_left _ (List.mem_append_left _ (List.mem_append_left _ (List.mem_append_right _ h))))))
theorem inX1 : ∀ w ∈ wsX10, w ∈ lw_tbl := fun w h => wsL_law_in w (inlX1 w h)
theorem inlX2 : ∀ w ∈ wsX20, w ∈ wsL_law := fun _ h => List.mem_append_left _ (List.mem_append_left _ (List.mem_append_left _ (List.mem_append_right _ h)))
theorem inX2 : ∀ w ∈ wsX20, w ∈ lw_tbl := fun w h => wsL_law_in w (inlX2 w h)
theorem inlX3 : ∀ w ∈ wsX30, w ∈ wsL_law := fun _ h => List.mem_append_left _ (List.mem_append_left _ (List.mem_append_left _ (List.mem_append_left _ (List.mem_append_left _ (List.mem_append_right _ h)))))
theorem inX3 : ∀ w ∈ wsX30, w ∈ lw_tbl := fun w h => wsL_law_in w (inlX3 w h)
theorem inlX4 : ∀ w ∈ wsX40, w ∈ wsL_law := fun _ h => List.mem_append_left _ (List.mem_append_left _ (List.mem_append_left _ (List.mem_append_left _ (List.mem_append_left _ (List.mem_append_left _ (List.mem_append_left _ (List.mem_append_left _ (List.mem_append_right _ h))))))))
theorem inX4 : ∀ w ∈ wsX40, w ∈ lw_tbl := fun w h => wsL_law_in w (inlX4 w h)
theorem inlX5 : ∀ w ∈ wsX50, w ∈ wsL_law := fun _ h => List.mem_append_left _ (List.mem_append_left _ (List.mem_append_left _ (List.mem_append_left _ (List.mem_append_left _ (List.mem_append_left _ (List.mem_append_left _ (List.mem_append_right _ h)))))))
theorem inX5 : ∀ w ∈ wsX50, w ∈ lw_tbl := fun w h => wsL_law_in w (inlX5 w h)
theorem inJ10 : ∀ w ∈ wsJ100, w ∈ lw_tbl := by decide +kernel
theorem inJ7 : ∀ w ∈ wsJ70, w ∈ lw_tbl := by decide +kernel
abbrev vwCl : List vw_C := [(RX0, TX0, 4), (RX1, TX1, 3), (RX2, TX2, 4), (RX3, TX3, 2), (RX4, TX4, 3), (RX5, TX5, 17)]
