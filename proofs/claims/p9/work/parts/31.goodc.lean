theorem pt_gc {big a : List Cond} {c : Cond} (hc : GoodIn big [c]) (ha : GoodIn big a) : GoodIn big (c :: a) := fun w h => (List.mem_cons.mp h).elim (fun e => hc w (by rw [e]; exact List.mem_singleton.mpr rfl)) (ha w)
set_option maxRecDepth 20000 in
theorem gt_wsX7_init_r1 : GoodIn lw_tbl wsX7_init_r1 := by
  unfold wsX7_init_r1
  exact (goodIn_r _ [66, 67, 68, 69, 70, 45, 189, 86, 190, 88, 46, 117, 118, 47, 191, 140, 141, 48, 192, 187, 147, 49, 193, 195] (by decide +kernel) (by decide +kernel))
set_option maxRecDepth 20000 in
theorem gt_wsX7_init_r2 : GoodIn lw_tbl wsX7_init_r2 := by
  unfold wsX7_init_r2
  exact (goodIn_r _ [71, 72, 73, 74, 84, 75, 85, 77, 89, 90, 91, 92, 93, 102, 119, 120, 121, 122, 123, 125, 127, 142, 143, 144] (by decide +kernel) (by decide +kernel))
set_option maxRecDepth 20000 in
theorem gt_wsX7_init_r3 : GoodIn lw_tbl wsX7_init_r3 := by
  unfold wsX7_init_r3
  exact (goodIn_r _ [145, 146, 167, 169, 148, 149, 150, 151, 152, 155, 188] (by decide +kernel) (by decide +kernel))
set_option maxRecDepth 20000 in
theorem gt_wsX50 : GoodIn lw_tbl wsX50 := goodIn_r _ [79, 81] (by decide +kernel) (by decide +kernel)
set_option maxRecDepth 20000 in
theorem gt_wsX70 : GoodIn lw_tbl wsX70 := goodIn_r _ [199, 201, 203, 205, 207, 209, 211, 213, 215, 217] (by decide +kernel) (by decide +kernel)
set_option maxRecDepth 20000 in
theorem gt_wsX10 : GoodIn lw_tbl wsX10 := goodIn_r _ [104, 106, 108, 110, 112, 114] (by decide +kernel) (by decide +kernel)
set_option maxRecDepth 20000 in
theorem gt_wsX30 : GoodIn lw_tbl wsX30 := goodIn_r _ [131, 133, 135, 137] (by decide +kernel) (by decide +kernel)
set_option maxRecDepth 20000 in
theorem gt_wsX20 : GoodIn lw_tbl wsX20 := goodIn_r _ [176, 178, 180, 182, 184] (by decide +kernel) (by decide +kernel)
set_option maxRecDepth 20000 in
theorem gt_wsX40 : GoodIn lw_tbl wsX40 := goodIn_r _ [160, 162, 164] (by decide +kernel) (by decide +kernel)
set_option maxRecDepth 20000 in
theorem gt_wsX7_init : GoodIn lw_tbl wsX7_init := by
  unfold wsX7_init
  exact (pt_gc (goodIn_r [.code yX7_init cX7_init 2 none] [65] (by decide +kernel) (by decide +kernel)) (goodIn_app (goodIn_app (goodIn_app (goodIn_app (goodIn_app (goodIn_app (goodIn_app gt_wsX7_init_r1 (goodIn_app gt_wsX7_init_r2 gt_wsX7_init_r3)) gt_wsX50) gt_wsX70) gt_wsX10) gt_wsX30) gt_wsX20) gt_wsX40))
set_option maxRecDepth 20000 in
theorem gt_wsX80 : GoodIn lw_tbl wsX80 := goodIn_r _ [703, 705, 707, 709, 711, 713, 715, 717, 719, 721, 723, 725, 727, 729, 731, 733, 735, 737, 739, 741, 743, 745, 747, 749, 751, 753, 755, 757, 759, 761, 763, 765] (by decide +kernel) (by decide +kernel)
set_option maxRecDepth 20000 in
theorem gt_wsX8_init : GoodIn lw_tbl wsX8_init := by
  unfold wsX8_init
  exact (pt_gc (goodIn_r [.code yX8_init cX8_init 1 none] [670] (by decide +kernel) (by decide +kernel)) (goodIn_app (goodIn_r _ [671, 67, 68, 84, 676, 677, 678, 679, 680, 681, 85, 682, 683, 684, 685, 688, 689, 690, 699, 700, 701, 702] (by decide +kernel) (by decide +kernel)) gt_wsX80))
set_option maxRecDepth 20000 in
theorem gt_wsL_arrive_r1 : GoodIn lw_tbl wsL_arrive_r1 := by
  unfold wsL_arrive_r1
  exact (goodIn_r _ [223, 224, 225, 226, 44, 227, 231, 54, 190, 195, 198, 189, 228, 229, 230, 294, 295, 296, 297, 298, 299, 300, 302, 1] (by decide +kernel) (by decide +kernel))
set_option maxRecDepth 20000 in
theorem gt_wsL_arrive_r2 : GoodIn lw_tbl wsL_arrive_r2 := by
  unfold wsL_arrive_r2
  exact (goodIn_r _ [303, 304, 306, 2, 307, 192, 191, 308, 309, 310, 48, 311, 169, 312, 313, 314, 47, 315, 127, 316, 317, 318, 319, 320] (by decide +kernel) (by decide +kernel))
set_option maxRecDepth 20000 in
theorem gt_wsL_arrive_r3 : GoodIn lw_tbl wsL_arrive_r3 := by
  unfold wsL_arrive_r3
  exact (goodIn_r _ [321, 45, 322, 77, 323, 324, 325, 326, 75, 327, 328, 329, 330, 331, 332, 333, 334, 335, 336, 337, 338, 339, 340, 341] (by decide +kernel) (by decide +kernel))
set_option maxRecDepth 20000 in
theorem gt_wsL_arrive_r4 : GoodIn lw_tbl wsL_arrive_r4 := by
  unfold wsL_arrive_r4
  exact (goodIn_r _ [343, 3, 344, 345, 346, 347, 46, 348, 99, 101, 93, 349, 350, 351, 352, 354, 355, 356, 357, 358, 359, 360, 361, 362] (by decide +kernel) (by decide +kernel))
set_option maxRecDepth 20000 in
theorem gt_wsL_arrive_r5 : GoodIn lw_tbl wsL_arrive_r5 := by
  unfold wsL_arrive_r5
  exact (goodIn_r _ [102] (by decide +kernel) (by decide +kernel))
set_option maxRecDepth 20000 in
theorem gt_wsL_arrive : GoodIn lw_tbl wsL_arrive := by
  unfold wsL_arrive
  exact (pt_gc (goodIn_r [.codeWith yL_arrive cL_arrive 7 (some .int) [(0, 14, 17, 13)]] [222] (by decide +kernel) (by decide +kernel)) (goodIn_app (goodIn_app (goodIn_app (goodIn_app (goodIn_app (goodIn_app (goodIn_app gt_wsL_arrive_r1 (goodIn_app gt_wsL_arrive_r2 (goodIn_app gt_wsL_arrive_r3 (goodIn_app gt_wsL_arrive_r4 gt_wsL_arrive_r5)))) gt_wsX70) gt_wsX10) gt_wsX20) gt_wsX30) gt_wsX50) (fun w hw => ⟨wsL_law_x0 w hw, good_of_word (List.mem_filter.mp hw).2⟩)))
set_option maxRecDepth 20000 in
theorem gk_L_arrive : GoodIn lw_tbl (va_wsS RL 61 yL_arrive wsL_arrive) := by
  unfold va_wsS
  exact goodIn_app (goodIn_r _ [220, 221, 43] (by decide +kernel) (by decide +kernel)) gt_wsL_arrive
set_option maxRecDepth 20000 in
theorem gt_wsX8_arrive_r1 : GoodIn lw_tbl wsX8_arrive_r1 := by
  unfold wsX8_arrive_r1
  exact (goodIn_r _ [683, 680, 685, 674, 676, 675, 677, 678, 679, 776, 777, 50, 778, 779, 781, 20, 782, 672, 783, 784, 785, 786, 788, 21] (by decide +kernel) (by decide +kernel))
set_option maxRecDepth 20000 in
theorem gt_wsX8_arrive_r2 : GoodIn lw_tbl wsX8_arrive_r2 := by
  unfold wsX8_arrive_r2
  exact (goodIn_r _ [789, 691, 694, 692, 684, 790, 791, 792, 793, 795, 22, 796, 797, 798, 799, 800, 801, 802, 803, 805, 23, 806, 687, 688] (by decide +kernel) (by decide +kernel))
set_option maxRecDepth 20000 in
theorem gt_wsX8_arrive : GoodIn lw_tbl wsX8_arrive := by
  unfold wsX8_arrive
  exact (pt_gc (goodIn_r [.code yX8_arrive cX8_arrive 8 (some .int)] [775] (by decide +kernel) (by decide +kernel)) (goodIn_app (goodIn_app gt_wsX8_arrive_r1 gt_wsX8_arrive_r2) gt_wsX80))
set_option maxRecDepth 20000 in
theorem gk_X8_arrive : GoodIn lw_tbl (wsV RL 66 RX8 yX8_arrive wsX8_arrive) := by
  unfold wsV
  exact goodIn_app (goodIn_r _ [772, 773, 774, 50] (by decide +kernel) (by decide +kernel)) gt_wsX8_arrive
set_option maxRecDepth 20000 in
theorem gt_wsL_shut : GoodIn lw_tbl wsL_shut := by
  unfold wsL_shut
  exact (pt_gc (goodIn_r [.codeWith yL_shut cL_shut 3 (some .int) [(0, 5, 8, 13), (0, 5, 11, 19)]] [365] (by decide +kernel) (by decide +kernel)) (goodIn_app (goodIn_app (goodIn_app (goodIn_app (goodIn_r _ [223, 366, 367, 368, 369, 44, 370, 231, 54, 371, 55, 190, 195, 228, 229, 230, 386, 387, 388, 46, 389, 93, 95] (by decide +kernel) (by decide +kernel)) gt_wsX70) gt_wsX10) (fun w hw => ⟨wsL_law_x0 w hw, good_of_word (List.mem_filter.mp hw).2⟩)) (fun w hw => ⟨wsL_law_x1 w hw, good_of_word (List.mem_filter.mp hw).2⟩)))
set_option maxRecDepth 20000 in
theorem gk_L_shut : GoodIn lw_tbl (va_wsS RL 67 yL_shut wsL_shut) := by
  unfold va_wsS
  exact goodIn_app (goodIn_r _ [363, 364, 43] (by decide +kernel) (by decide +kernel)) gt_wsL_shut
set_option maxRecDepth 20000 in
theorem gt_wsX8_shut : GoodIn lw_tbl wsX8_shut := by
  unfold wsX8_shut
  exact (pt_gc (goodIn_r [.code yX8_shut cX8_shut 2 none] [810] (by decide +kernel) (by decide +kernel)) (goodIn_app (goodIn_r _ [680, 682, 683, 677, 685, 672, 776, 777, 50, 778, 811, 813, 24, 814, 681] (by decide +kernel) (by decide +kernel)) gt_wsX80))
set_option maxRecDepth 20000 in
theorem gk_X8_shut : GoodIn lw_tbl (wsV RL 70 RX8 yX8_shut wsX8_shut) := by
  unfold wsV
  exact goodIn_app (goodIn_r _ [807, 808, 809, 50] (by decide +kernel) (by decide +kernel)) gt_wsX8_shut
set_option maxRecDepth 20000 in
theorem gt_wsL_person : GoodIn lw_tbl wsL_person := by
  unfold wsL_person
  exact (pt_gc (goodIn_r [.codeWith yL_person cL_person 4 (some .int) [(0, 6, 9, 13), (0, 6, 12, 19)]] [392] (by decide +kernel) (by decide +kernel)) (goodIn_app (goodIn_app (goodIn_app (goodIn_app (goodIn_r _ [223, 366, 393, 394, 395, 44, 396, 231, 54, 371, 55, 190, 228, 229, 230, 397, 398, 399, 46, 400, 93, 95] (by decide +kernel) (by decide +kernel)) gt_wsX70) gt_wsX10) (fun w hw => ⟨wsL_law_x0 w hw, good_of_word (List.mem_filter.mp hw).2⟩)) (fun w hw => ⟨wsL_law_x1 w hw, good_of_word (List.mem_filter.mp hw).2⟩)))
set_option maxRecDepth 20000 in
theorem gk_L_person : GoodIn lw_tbl (va_wsS RL 71 yL_person wsL_person) := by
  unfold va_wsS
  exact goodIn_app (goodIn_r _ [390, 391, 43] (by decide +kernel) (by decide +kernel)) gt_wsL_person
set_option maxRecDepth 20000 in
theorem gt_wsX8_person : GoodIn lw_tbl wsX8_person := by
  unfold wsX8_person
  exact (pt_gc (goodIn_r [.code yX8_person cX8_person 3 none] [818] (by decide +kernel) (by decide +kernel)) (goodIn_app (goodIn_r _ [680, 672, 682, 776, 777, 50, 778, 811, 813, 24, 814, 681] (by decide +kernel) (by decide +kernel)) gt_wsX80))
set_option maxRecDepth 20000 in
theorem gk_X8_person : GoodIn lw_tbl (wsV RL 74 RX8 yX8_person wsX8_person) := by
  unfold wsV
  exact goodIn_app (goodIn_r _ [815, 816, 817, 50] (by decide +kernel) (by decide +kernel)) gt_wsX8_person
set_option maxRecDepth 20000 in
theorem gt_wsL_gone : GoodIn lw_tbl wsL_gone := by
  unfold wsL_gone
  exact (pt_gc (goodIn_r [.codeWith yL_gone cL_gone 4 (some .int) [(0, 9, 12, 13), (0, 9, 15, 19)]] [403] (by decide +kernel) (by decide +kernel)) (goodIn_app (goodIn_app (goodIn_app (goodIn_app (goodIn_r _ [223, 366, 404, 405, 406, 44, 407, 231, 54, 371, 55, 190, 228, 229, 230, 408, 409, 410, 46, 411, 99, 101, 102] (by decide +kernel) (by decide +kernel)) gt_wsX70) gt_wsX10) (fun w hw => ⟨wsL_law_x0 w hw, good_of_word (List.mem_filter.mp hw).2⟩)) (fun w hw => ⟨wsL_law_x1 w hw, good_of_word (List.mem_filter.mp hw).2⟩)))
set_option maxRecDepth 20000 in
theorem gk_L_gone : GoodIn lw_tbl (va_wsS RL 75 yL_gone wsL_gone) := by
  unfold va_wsS
  exact goodIn_app (goodIn_r _ [401, 402, 43] (by decide +kernel) (by decide +kernel)) gt_wsL_gone
set_option maxRecDepth 20000 in
theorem gt_wsX8_gone : GoodIn lw_tbl wsX8_gone := by
  unfold wsX8_gone
  exact (pt_gc (goodIn_r [.code yX8_gone cX8_gone 3 (some .int)] [822] (by decide +kernel) (by decide +kernel)) (goodIn_app (goodIn_r _ [683, 677, 680, 672, 676, 776, 777, 50, 778] (by decide +kernel) (by decide +kernel)) gt_wsX80))
set_option maxRecDepth 20000 in
theorem gk_X8_gone : GoodIn lw_tbl (wsV RL 78 RX8 yX8_gone wsX8_gone) := by
  unfold wsV
  exact goodIn_app (goodIn_r _ [819, 820, 821, 50] (by decide +kernel) (by decide +kernel)) gt_wsX8_gone
set_option maxRecDepth 20000 in
theorem gt_wsL_leave_r1 : GoodIn lw_tbl wsL_leave_r1 := by
  unfold wsL_leave_r1
  exact (goodIn_r _ [223, 366, 415, 416, 417, 44, 418, 231, 54, 371, 55, 189, 191, 419, 421, 4, 422, 198, 338, 339, 340, 423, 424, 425] (by decide +kernel) (by decide +kernel))
set_option maxRecDepth 20000 in
theorem gt_wsL_leave_r2 : GoodIn lw_tbl wsL_leave_r2 := by
  unfold wsL_leave_r2
  exact (goodIn_r _ [45, 426, 75, 427, 428, 429, 47, 430, 129, 123, 341, 343, 3, 344, 190, 345, 346, 347, 46, 348, 99, 101, 93, 431] (by decide +kernel) (by decide +kernel))
set_option maxRecDepth 20000 in
theorem gt_wsL_leave_r3 : GoodIn lw_tbl wsL_leave_r3 := by
  unfold wsL_leave_r3
  exact (goodIn_r _ [432, 433, 434, 125, 435, 313, 314, 315, 127, 436, 437, 438, 439] (by decide +kernel) (by decide +kernel))
set_option maxRecDepth 20000 in
theorem gt_wsL_leave : GoodIn lw_tbl wsL_leave := by
  unfold wsL_leave
  exact (pt_gc (goodIn_r [.codeWith yL_leave cL_leave 4 (some .int) [(0, 9, 12, 13), (0, 9, 15, 19)]] [414] (by decide +kernel) (by decide +kernel)) (goodIn_app (goodIn_app (goodIn_app (goodIn_app (goodIn_app (goodIn_app (goodIn_app gt_wsL_leave_r1 (goodIn_app gt_wsL_leave_r2 gt_wsL_leave_r3)) gt_wsX70) gt_wsX50) gt_wsX30) gt_wsX10) (fun w hw => ⟨wsL_law_x0 w hw, good_of_word (List.mem_filter.mp hw).2⟩)) (fun w hw => ⟨wsL_law_x1 w hw, good_of_word (List.mem_filter.mp hw).2⟩)))
set_option maxRecDepth 20000 in
theorem gk_L_leave : GoodIn lw_tbl (va_wsS RL 79 yL_leave wsL_leave) := by
  unfold va_wsS
  exact goodIn_app (goodIn_r _ [412, 413, 43] (by decide +kernel) (by decide +kernel)) gt_wsL_leave
set_option maxRecDepth 20000 in
theorem gt_wsX8_leave_r1 : GoodIn lw_tbl wsX8_leave_r1 := by
  unfold wsX8_leave_r1
  exact (goodIn_r _ [672, 691, 692, 687, 688, 677, 827, 829, 25, 50, 830, 675, 676, 803, 805, 23, 806, 683, 831, 833, 26, 834, 694, 693] (by decide +kernel) (by decide +kernel))
set_option maxRecDepth 20000 in
theorem gt_wsX8_leave_r2 : GoodIn lw_tbl wsX8_leave_r2 := by
  unfold wsX8_leave_r2
  exact (goodIn_r _ [690, 689, 835, 837, 27, 838] (by decide +kernel) (by decide +kernel))
set_option maxRecDepth 20000 in
theorem gt_wsX8_leave : GoodIn lw_tbl wsX8_leave := by
  unfold wsX8_leave
  exact (pt_gc (goodIn_r [.code yX8_leave cX8_leave 5 (some .int)] [826] (by decide +kernel) (by decide +kernel)) (goodIn_app (goodIn_app gt_wsX8_leave_r1 gt_wsX8_leave_r2) gt_wsX80))
set_option maxRecDepth 20000 in
theorem gk_X8_leave : GoodIn lw_tbl (wsV RL 81 RX8 yX8_leave wsX8_leave) := by
  unfold wsV
  exact goodIn_app (goodIn_r _ [823, 824, 825, 50] (by decide +kernel) (by decide +kernel)) gt_wsX8_leave
set_option maxRecDepth 20000 in
theorem gt_wsL_jam : GoodIn lw_tbl wsL_jam := by
  unfold wsL_jam
  exact (pt_gc (goodIn_r [.codeWith yL_jam cL_jam 4 (some .int) [(0, 6, 9, 13)]] [442] (by decide +kernel) (by decide +kernel)) (goodIn_app (goodIn_app (goodIn_app (goodIn_r _ [223, 443, 444, 445, 44, 446, 231, 54, 189] (by decide +kernel) (by decide +kernel)) gt_wsX70) gt_wsX50) (fun w hw => ⟨wsL_law_x0 w hw, good_of_word (List.mem_filter.mp hw).2⟩)))
set_option maxRecDepth 20000 in
theorem gk_L_jam : GoodIn lw_tbl (va_wsS RL 82 yL_jam wsL_jam) := by
  unfold va_wsS
  exact goodIn_app (goodIn_r _ [440, 441, 43] (by decide +kernel) (by decide +kernel)) gt_wsL_jam
set_option maxRecDepth 20000 in
theorem gt_wsX8_jam : GoodIn lw_tbl wsX8_jam := by
  unfold wsX8_jam
  exact (pt_gc (goodIn_r [.code yX8_jam cX8_jam 3 none] [842] (by decide +kernel) (by decide +kernel)) (goodIn_app (goodIn_r _ [684, 776, 777, 50, 778, 779, 781, 20, 782, 672] (by decide +kernel) (by decide +kernel)) gt_wsX80))
set_option maxRecDepth 20000 in
theorem gk_X8_jam : GoodIn lw_tbl (wsV RL 84 RX8 yX8_jam wsX8_jam) := by
  unfold wsV
  exact goodIn_app (goodIn_r _ [839, 840, 841, 50] (by decide +kernel) (by decide +kernel)) gt_wsX8_jam
set_option maxRecDepth 20000 in
theorem gt_wsL_power : GoodIn lw_tbl wsL_power := by
  unfold wsL_power
  exact (pt_gc (goodIn_r [.codeWith yL_power cL_power 3 (some .int) [(0, 5, 8, 19)]] [449] (by decide +kernel) (by decide +kernel)) (goodIn_app (goodIn_app (goodIn_r _ [366, 450, 451, 452, 44, 453, 371, 55, 195, 196] (by decide +kernel) (by decide +kernel)) gt_wsX70) (fun w hw => ⟨wsL_law_x1 w hw, good_of_word (List.mem_filter.mp hw).2⟩)))
set_option maxRecDepth 20000 in
theorem gk_L_power : GoodIn lw_tbl (va_wsS RL 85 yL_power wsL_power) := by
  unfold va_wsS
  exact goodIn_app (goodIn_r _ [447, 448, 43] (by decide +kernel) (by decide +kernel)) gt_wsL_power
set_option maxRecDepth 20000 in
theorem gt_wsX8_power : GoodIn lw_tbl wsX8_power := by
  unfold wsX8_power
  exact (pt_gc (goodIn_r [.code yX8_power cX8_power 2 none] [846] (by decide +kernel) (by decide +kernel)) (goodIn_app (goodIn_r _ [685, 672, 686] (by decide +kernel) (by decide +kernel)) gt_wsX80))
set_option maxRecDepth 20000 in
theorem gk_X8_power : GoodIn lw_tbl (wsV RL 88 RX8 yX8_power wsX8_power) := by
  unfold wsV
  exact goodIn_app (goodIn_r _ [843, 844, 845, 50] (by decide +kernel) (by decide +kernel)) gt_wsX8_power
set_option maxRecDepth 20000 in
theorem gt_wsL_tick_r1 : GoodIn lw_tbl wsL_tick_r1 := by
  unfold wsL_tick_r1
  exact (goodIn_r _ [223, 457, 458, 459, 44, 460, 231, 54, 197, 461, 463, 5, 464, 195, 196, 192, 465, 467, 6, 468, 190, 191, 345, 346] (by decide +kernel) (by decide +kernel))
set_option maxRecDepth 20000 in
theorem gt_wsL_tick_r2 : GoodIn lw_tbl wsL_tick_r2 := by
  unfold wsL_tick_r2
  exact (goodIn_r _ [347, 46, 348, 99, 101, 93, 469, 470, 471, 472, 95, 436, 437, 438, 47, 439, 129, 123, 125, 127, 473, 474, 475, 476] (by decide +kernel) (by decide +kernel))
set_option maxRecDepth 20000 in
theorem gt_wsL_tick_r3 : GoodIn lw_tbl wsL_tick_r3 := by
  unfold wsL_tick_r3
  exact (goodIn_r _ [97, 477, 478, 479, 480, 435, 313, 314, 315, 386, 387, 388, 389, 308, 309, 310, 48, 311, 169, 481, 483, 7, 484, 312] (by decide +kernel) (by decide +kernel))
set_option maxRecDepth 20000 in
theorem gt_wsL_tick_r4 : GoodIn lw_tbl wsL_tick_r4 := by
  unfold wsL_tick_r4
  exact (goodIn_r _ [485, 487, 8, 488, 189, 489, 490, 491, 492, 423, 424, 425, 45, 426, 75, 316, 317, 318, 493, 494, 495, 49, 496, 158] (by decide +kernel) (by decide +kernel))
set_option maxRecDepth 20000 in
theorem gt_wsL_tick_r5 : GoodIn lw_tbl wsL_tick_r5 := by
  unfold wsL_tick_r5
  exact (goodIn_r _ [497, 498, 499, 500, 354, 355, 331, 332, 333, 334, 502, 503, 504, 505, 506, 507, 508, 509, 510, 511, 513, 9, 514, 152] (by decide +kernel) (by decide +kernel))
set_option maxRecDepth 20000 in
theorem gt_wsL_tick_r6 : GoodIn lw_tbl wsL_tick_r6 := by
  unfold wsL_tick_r6
  exact (goodIn_r _ [155, 515, 517, 10, 518, 519, 521, 11, 522, 523, 525, 12, 526, 527, 529, 13, 530, 531, 533, 14, 534, 535, 537, 538] (by decide +kernel) (by decide +kernel))
set_option maxRecDepth 20000 in
theorem gt_wsL_tick_r7 : GoodIn lw_tbl wsL_tick_r7 := by
  unfold wsL_tick_r7
  exact (goodIn_r _ [58, 539, 540, 542, 544, 546, 548, 550, 15, 551, 552, 554, 556, 558, 16, 559, 560, 194, 568, 569, 570, 562, 563, 565] (by decide +kernel) (by decide +kernel))
set_option maxRecDepth 20000 in
theorem gt_wsL_tick_r8 : GoodIn lw_tbl wsL_tick_r8 := by
  unfold wsL_tick_r8
  exact (goodIn_r _ [566, 56, 567, 935, 571, 572, 573, 574, 167, 172, 575, 576, 577, 578, 579, 580, 581, 582, 584, 17, 585, 586, 588, 18] (by decide +kernel) (by decide +kernel))
set_option maxRecDepth 20000 in
theorem gt_wsL_tick_r9 : GoodIn lw_tbl wsL_tick_r9 := by
  unfold wsL_tick_r9
  exact (goodIn_r _ [589, 590, 592, 19, 593, 594, 595, 596, 597, 598, 599, 600, 601, 408, 409, 410, 411, 102, 397, 398, 399, 400, 602, 603] (by decide +kernel) (by decide +kernel))
set_option maxRecDepth 20000 in
theorem gt_wsL_tick_r10 : GoodIn lw_tbl wsL_tick_r10 := by
  unfold wsL_tick_r10
  exact (goodIn_r _ [604, 605, 606, 607, 608, 609, 610, 611, 612, 613, 174] (by decide +kernel) (by decide +kernel))
set_option maxRecDepth 20000 in
theorem gt_wsL_tick : GoodIn lw_tbl wsL_tick := by
  unfold wsL_tick
  exact (pt_gc (goodIn_r [.codeWith yL_tick cL_tick 4 (some .int) [(0, 9, 12, 13)]] [456] (by decide +kernel) (by decide +kernel)) (goodIn_app (goodIn_app (goodIn_app (goodIn_app (goodIn_app (goodIn_app (goodIn_app (goodIn_app gt_wsL_tick_r1 (goodIn_app gt_wsL_tick_r2 (goodIn_app gt_wsL_tick_r3 (goodIn_app gt_wsL_tick_r4 (goodIn_app gt_wsL_tick_r5 (goodIn_app gt_wsL_tick_r6 (goodIn_app gt_wsL_tick_r7 (goodIn_app gt_wsL_tick_r8 (goodIn_app gt_wsL_tick_r9 gt_wsL_tick_r10))))))))) gt_wsX70) gt_wsX10) gt_wsX20) gt_wsX30) gt_wsX50) gt_wsX40) (fun w hw => ⟨wsL_law_x0 w hw, good_of_word (List.mem_filter.mp hw).2⟩)))
set_option maxRecDepth 20000 in
theorem gk_L_tick : GoodIn lw_tbl (va_wsS RL 89 yL_tick wsL_tick) := by
  unfold va_wsS
  exact goodIn_app (goodIn_r _ [454, 455, 43] (by decide +kernel) (by decide +kernel)) gt_wsL_tick
set_option maxRecDepth 20000 in
theorem gt_wsX8_tick_r1 : GoodIn lw_tbl wsX8_tick_r1 := by
  unfold wsX8_tick_r1
  exact (goodIn_r _ [673, 685, 686, 776, 777, 50, 778, 779, 781, 20, 782, 672, 851, 853, 28, 854, 680, 681, 683, 677, 687, 689, 682, 690] (by decide +kernel) (by decide +kernel))
set_option maxRecDepth 20000 in
theorem gt_wsX8_tick_r2 : GoodIn lw_tbl wsX8_tick_r2 := by
  unfold wsX8_tick_r2
  exact (goodIn_r _ [835, 837, 27, 838, 688, 811, 813, 24, 814, 855, 857, 29, 858, 691, 692, 693, 694, 695, 698, 699, 700, 684, 678, 696] (by decide +kernel) (by decide +kernel))
set_option maxRecDepth 20000 in
theorem gt_wsX8_tick_r3 : GoodIn lw_tbl wsX8_tick_r3 := by
  unfold wsX8_tick_r3
  exact (goodIn_r _ [859, 861, 30, 862, 790, 791, 792, 863, 865, 31, 866, 867, 869, 32, 870, 701, 702, 871, 873, 33, 874, 679, 797, 798] (by decide +kernel) (by decide +kernel))
set_option maxRecDepth 20000 in
theorem gt_wsX8_tick_r4 : GoodIn lw_tbl wsX8_tick_r4 := by
  unfold wsX8_tick_r4
  exact (goodIn_r _ [799, 875, 877, 34, 878, 879, 881, 35, 882, 883, 885, 36, 886, 887, 889, 37, 890, 891, 893, 38, 894, 895, 897, 39] (by decide +kernel) (by decide +kernel))
set_option maxRecDepth 20000 in
theorem gt_wsX8_tick_r5 : GoodIn lw_tbl wsX8_tick_r5 := by
  unfold wsX8_tick_r5
  exact (goodIn_r _ [898, 697, 899, 900, 901, 902, 903, 904, 905, 907, 40, 908, 909, 911, 41, 912, 913, 915, 42, 916] (by decide +kernel) (by decide +kernel))
set_option maxRecDepth 20000 in
theorem gt_wsX8_tick : GoodIn lw_tbl wsX8_tick := by
  unfold wsX8_tick
  exact (pt_gc (goodIn_r [.code yX8_tick cX8_tick 3 (some .int)] [850] (by decide +kernel) (by decide +kernel)) (goodIn_app (goodIn_app gt_wsX8_tick_r1 (goodIn_app gt_wsX8_tick_r2 (goodIn_app gt_wsX8_tick_r3 (goodIn_app gt_wsX8_tick_r4 gt_wsX8_tick_r5)))) gt_wsX80))
set_option maxRecDepth 20000 in
theorem gk_X8_tick : GoodIn lw_tbl (wsV RL 91 RX8 yX8_tick wsX8_tick) := by
  unfold wsV
  exact goodIn_app (goodIn_r _ [847, 848, 849, 50] (by decide +kernel) (by decide +kernel)) gt_wsX8_tick
set_option maxRecDepth 20000 in
theorem gt_wsL_cell : GoodIn lw_tbl wsL_cell := by
  unfold wsL_cell
  exact (pt_gc (goodIn_r [.codeWith yL_cell cL_cell 4 (some .int) [(0, 9, 12, 13)]] [616] (by decide +kernel) (by decide +kernel)) (goodIn_app (goodIn_app (goodIn_app (goodIn_r _ [223, 617, 618, 619, 44, 620, 231, 54, 189] (by decide +kernel) (by decide +kernel)) gt_wsX70) gt_wsX50) (fun w hw => ⟨wsL_law_x0 w hw, good_of_word (List.mem_filter.mp hw).2⟩)))
set_option maxRecDepth 20000 in
theorem gk_L_cell : GoodIn lw_tbl (va_wsS RL 96 yL_cell wsL_cell) := by
  unfold va_wsS
  exact goodIn_app (goodIn_r _ [614, 615, 43] (by decide +kernel) (by decide +kernel)) gt_wsL_cell
set_option maxRecDepth 20000 in
theorem gt_wsX8_cell : GoodIn lw_tbl wsX8_cell := by
  unfold wsX8_cell
  exact (pt_gc (goodIn_r [.code yX8_cell cX8_cell 2 (some .int)] [920] (by decide +kernel) (by decide +kernel)) (goodIn_app (goodIn_r _ [679, 676, 776, 777, 50, 778, 779, 781, 20, 782, 672] (by decide +kernel) (by decide +kernel)) gt_wsX80))
set_option maxRecDepth 20000 in
theorem gk_X8_cell : GoodIn lw_tbl (wsV RL 98 RX8 yX8_cell wsX8_cell) := by
  unfold wsV
  exact goodIn_app (goodIn_r _ [917, 918, 919, 50] (by decide +kernel) (by decide +kernel)) gt_wsX8_cell
set_option maxRecDepth 20000 in
theorem gt_wsL_plan_r1 : GoodIn lw_tbl wsL_plan_r1 := by
  unfold wsL_plan_r1
  exact (goodIn_r _ [223, 366, 624, 625, 626, 627, 44, 628, 231, 54, 371, 55, 629, 60, 189, 193, 419, 421, 4, 422, 198, 338, 339, 340] (by decide +kernel) (by decide +kernel))
set_option maxRecDepth 20000 in
theorem gt_wsL_plan_r2 : GoodIn lw_tbl wsL_plan_r2 := by
  unfold wsL_plan_r2
  exact (goodIn_r _ [423, 424, 425, 45, 426, 75, 493, 494, 495, 49, 496, 158, 497, 498, 499, 500, 354, 355, 331, 332, 333, 334, 317, 318] (by decide +kernel) (by decide +kernel))
set_option maxRecDepth 20000 in
theorem gt_wsL_plan_r3 : GoodIn lw_tbl wsL_plan_r3 := by
  unfold wsL_plan_r3
  exact (goodIn_r _ [502, 503, 504, 505, 506, 507, 508, 509, 510, 511, 513, 9, 514, 152, 155] (by decide +kernel) (by decide +kernel))
set_option maxRecDepth 20000 in
theorem gt_wsL_plan : GoodIn lw_tbl wsL_plan := by
  unfold wsL_plan
  exact (pt_gc (goodIn_r [.codeWith yL_plan cL_plan 5 (some .int) [(0, 10, 13, 13), (0, 10, 17, 19), (0, 10, 21, 49)]] [623] (by decide +kernel) (by decide +kernel)) (goodIn_app (goodIn_app (goodIn_app (goodIn_app (goodIn_app (goodIn_app (goodIn_app gt_wsL_plan_r1 (goodIn_app gt_wsL_plan_r2 gt_wsL_plan_r3)) gt_wsX70) gt_wsX40) gt_wsX50) (fun w hw => ⟨wsL_law_x0 w hw, good_of_word (List.mem_filter.mp hw).2⟩)) (fun w hw => ⟨wsL_law_x1 w hw, good_of_word (List.mem_filter.mp hw).2⟩)) (fun w hw => ⟨wsL_law_x2 w hw, good_of_word (List.mem_filter.mp hw).2⟩)))
set_option maxRecDepth 20000 in
theorem gk_L_plan : GoodIn lw_tbl (va_wsS RL 99 yL_plan wsL_plan) := by
  unfold va_wsS
  exact goodIn_app (goodIn_r _ [621, 622, 43] (by decide +kernel) (by decide +kernel)) gt_wsL_plan
set_option maxRecDepth 20000 in
theorem gt_wsX8_plan_r1 : GoodIn lw_tbl wsX8_plan_r1 := by
  unfold wsX8_plan_r1
  exact (goodIn_r _ [677, 672, 700, 827, 829, 25, 50, 830, 675, 676, 863, 865, 31, 866, 678, 867, 869, 32, 870, 701, 702, 871, 873, 33] (by decide +kernel) (by decide +kernel))
set_option maxRecDepth 20000 in
theorem gt_wsX8_plan_r2 : GoodIn lw_tbl wsX8_plan_r2 := by
  unfold wsX8_plan_r2
  exact (goodIn_r _ [874, 679, 797, 798, 799, 875, 877, 34, 878, 879, 881, 35, 882, 790, 791, 792, 883, 885, 36, 886, 776, 777, 778] (by decide +kernel) (by decide +kernel))
set_option maxRecDepth 20000 in
theorem gt_wsX8_plan : GoodIn lw_tbl wsX8_plan := by
  unfold wsX8_plan
  exact (pt_gc (goodIn_r [.code yX8_plan cX8_plan 5 (some .int)] [924] (by decide +kernel) (by decide +kernel)) (goodIn_app (goodIn_app gt_wsX8_plan_r1 gt_wsX8_plan_r2) gt_wsX80))
set_option maxRecDepth 20000 in
theorem gk_X8_plan : GoodIn lw_tbl (wsV RL 102 RX8 yX8_plan wsX8_plan) := by
  unfold wsV
  exact goodIn_app (goodIn_r _ [921, 922, 923, 50] (by decide +kernel) (by decide +kernel)) gt_wsX8_plan
set_option maxRecDepth 20000 in
theorem gt_wsL_bay : GoodIn lw_tbl wsL_bay := by
  unfold wsL_bay
  exact (pt_gc (goodIn_r [.codeWith yL_bay cL_bay 5 (some .int) [(0, 10, 13, 13)]] [646] (by decide +kernel) (by decide +kernel)) (goodIn_app (goodIn_app (goodIn_app (goodIn_app (goodIn_r _ [223, 647, 648, 649, 44, 650, 231, 54, 190, 191, 228, 229, 230, 651, 652, 653, 47, 654, 129, 125] (by decide +kernel) (by decide +kernel)) gt_wsX70) gt_wsX10) gt_wsX30) (fun w hw => ⟨wsL_law_x0 w hw, good_of_word (List.mem_filter.mp hw).2⟩)))
set_option maxRecDepth 20000 in
theorem gk_L_bay : GoodIn lw_tbl (va_wsS RL 103 yL_bay wsL_bay) := by
  unfold va_wsS
  exact goodIn_app (goodIn_r _ [644, 645, 43] (by decide +kernel) (by decide +kernel)) gt_wsL_bay
set_option maxRecDepth 20000 in
theorem gt_wsX8_bay : GoodIn lw_tbl wsX8_bay := by
  unfold wsX8_bay
  exact (pt_gc (goodIn_r [.code yX8_bay cX8_bay 5 (some .int)] [928] (by decide +kernel) (by decide +kernel)) (goodIn_app (goodIn_r _ [680, 682, 683, 676, 677, 691, 693, 687, 689, 776, 777, 50, 778, 779, 781, 20, 782, 672] (by decide +kernel) (by decide +kernel)) gt_wsX80))
set_option maxRecDepth 20000 in
theorem gk_X8_bay : GoodIn lw_tbl (wsV RL 105 RX8 yX8_bay wsX8_bay) := by
  unfold wsV
  exact goodIn_app (goodIn_r _ [925, 926, 927, 50] (by decide +kernel) (by decide +kernel)) gt_wsX8_bay
set_option maxRecDepth 20000 in
theorem gt_wsL_look_r1 : GoodIn lw_tbl wsL_look_r1 := by
  unfold wsL_look_r1
  exact (goodIn_r _ [223, 658, 659, 660, 44, 661, 231, 54, 191, 192, 194, 189, 198, 308, 309, 310, 48, 311, 169, 662, 663, 664, 45, 665] (by decide +kernel) (by decide +kernel))
set_option maxRecDepth 20000 in
theorem gt_wsL_look_r2 : GoodIn lw_tbl wsL_look_r2 := by
  unfold wsL_look_r2
  exact (goodIn_r _ [331, 332, 333, 334, 75] (by decide +kernel) (by decide +kernel))
set_option maxRecDepth 20000 in
theorem gt_wsL_look : GoodIn lw_tbl wsL_look := by
  unfold wsL_look
  exact (pt_gc (goodIn_r [.codeWith yL_look cL_look 4 (some .int) [(0, 9, 12, 13)]] [657] (by decide +kernel) (by decide +kernel)) (goodIn_app (goodIn_app (goodIn_app (goodIn_app (goodIn_app (goodIn_app gt_wsL_look_r1 gt_wsL_look_r2) gt_wsX70) gt_wsX30) gt_wsX20) gt_wsX50) (fun w hw => ⟨wsL_law_x0 w hw, good_of_word (List.mem_filter.mp hw).2⟩)))
set_option maxRecDepth 20000 in
theorem gk_L_look : GoodIn lw_tbl (va_wsS RL 106 yL_look wsL_look) := by
  unfold va_wsS
  exact goodIn_app (goodIn_r _ [655, 656, 43] (by decide +kernel) (by decide +kernel)) gt_wsL_look
set_option maxRecDepth 20000 in
theorem gt_wsX8_look : GoodIn lw_tbl wsX8_look := by
  unfold wsX8_look
  exact (pt_gc (goodIn_r [.code yX8_look cX8_look 4 (some .int)] [932] (by decide +kernel) (by decide +kernel)) (goodIn_app (goodIn_r _ [675, 677, 687, 691, 676, 692, 695, 696, 697, 674, 776, 777, 50, 778, 779, 781, 20, 782, 672] (by decide +kernel) (by decide +kernel)) gt_wsX80))
set_option maxRecDepth 20000 in
theorem gk_X8_look : GoodIn lw_tbl (wsV RL 108 RX8 yX8_look wsX8_look) := by
  unfold wsV
  exact goodIn_app (goodIn_r _ [929, 930, 931, 50] (by decide +kernel) (by decide +kernel)) gt_wsX8_look
set_option maxRecDepth 20000 in
theorem gt_wsX8_thrown : GoodIn lw_tbl wsX8_thrown := by
  unfold wsX8_thrown
  exact (pt_gc (goodIn_r [.code yX8_thrown cX8_thrown 1 (some .int)] [771] (by decide +kernel) (by decide +kernel)) (goodIn_app (goodIn_r _ [672] (by decide +kernel) (by decide +kernel)) gt_wsX80))
set_option maxRecDepth 20000 in
theorem gk_X8_thrown : GoodIn lw_tbl (wsV RL 92 RX8 yX8_thrown wsX8_thrown) := by
  unfold wsV
  exact goodIn_app (goodIn_r _ [768, 769, 770, 50] (by decide +kernel) (by decide +kernel)) gt_wsX8_thrown
theorem pt_nw_in : ∀ w ∈ pt_nw, w ∈ lw_tbl := by
  have h : pt_nw = ([98, 94, 96, 100, 78, 76, 159, 154, 157, 130, 124, 170, 173, 175, 171, 103, 128, 126, 168, 936, 937, 153, 156, 501, 353] : List Nat).filterMap (fun i => lw_tbl[i]?) := by decide +kernel
  intro w hw
  rw [h] at hw
  obtain ⟨i, -, hi⟩ := List.mem_filterMap.mp hw
  exact List.mem_of_getElem? hi
theorem pt_xw_in : ∀ w ∈ pt_xw, w ∈ lw_tbl := by
  have h : pt_xw = ([234, 236, 238, 233, 373, 631] : List Nat).filterMap (fun i => lw_tbl[i]?) := by decide +kernel
  intro w hw
  rw [h] at hw
  obtain ⟨i, -, hi⟩ := List.mem_filterMap.mp hw
  exact List.mem_of_getElem? hi
