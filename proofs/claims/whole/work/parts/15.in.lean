set_option maxRecDepth 100000 in
theorem wsC_0_in : ∀ w ∈ wsC_0, w ∈ lw_tbl := fun w h => (goodIn_r wsC_0 [55, 56, 57, 58, 68, 70, 71, 72, 75, 76, 78, 79, 80, 81, 83, 84, 85, 87, 88, 90, 91, 92, 94, 97, 99, 102, 104, 106, 108, 110, 112, 114, 116, 118, 120, 122, 126, 127, 129, 130] (by rfl) (by decide +kernel) w h).1
set_option maxRecDepth 100000 in
theorem wsC_1_in : ∀ w ∈ wsC_1, w ∈ lw_tbl := fun w h => (goodIn_r wsC_1 [131, 132, 134, 136, 138, 139, 140, 141, 143, 145, 146, 148, 150, 152, 154, 156, 158, 160, 162, 164, 166, 169, 170, 172, 173, 174, 175, 177, 178, 179, 181, 182, 183, 185, 187, 189, 191, 194, 195, 196] (by rfl) (by decide +kernel) w h).1
set_option maxRecDepth 100000 in
theorem wsC_2_in : ∀ w ∈ wsC_2, w ∈ lw_tbl := fun w h => (goodIn_r wsC_2 [197, 199, 201, 205, 206, 207, 210, 211, 212, 214, 215, 216, 218, 219, 220, 222, 223, 224, 226, 227, 228, 230, 231, 237, 238, 239, 240, 241, 242, 243, 286, 316, 317, 324, 325, 326, 329, 330, 332, 342] (by rfl) (by decide +kernel) w h).1
set_option maxRecDepth 100000 in
theorem wsC_3_in : ∀ w ∈ wsC_3, w ∈ lw_tbl := fun w h => (goodIn_r wsC_3 [351, 352, 353, 355, 356, 357, 367, 375, 376, 377, 379, 380, 386, 387, 388, 389, 391, 392, 395, 396, 399, 409, 420, 421, 422, 427, 428, 429, 430, 434, 435, 436, 438, 440, 441, 442, 444, 445, 448, 449] (by rfl) (by decide +kernel) w h).1
set_option maxRecDepth 100000 in
theorem wsC_4_in : ∀ w ∈ wsC_4, w ∈ lw_tbl := fun w h => (goodIn_r wsC_4 [452, 453, 454, 456, 457, 460, 461, 462, 464, 465, 471, 472, 473, 475, 476, 479, 480, 481, 482, 484, 485, 487, 489, 490, 495, 496, 497, 503, 504, 505, 506, 508, 509, 515, 516, 517, 524, 525, 526, 530] (by rfl) (by decide +kernel) w h).1
set_option maxRecDepth 100000 in
theorem wsC_5_in : ∀ w ∈ wsC_5, w ∈ lw_tbl := fun w h => (goodIn_r wsC_5 [531, 534, 535, 540, 541, 542, 549, 550, 551, 555, 556, 557, 559, 560, 561, 562, 563, 568, 569, 570, 575, 576, 581, 582, 583, 587, 588, 592, 593, 0, 1, 2, 3, 4, 5, 6, 7, 9, 10, 11] (by rfl) (by decide +kernel) w h).1
set_option maxRecDepth 100000 in
theorem wsC_6_in : ∀ w ∈ wsC_6, w ∈ lw_tbl := fun w h => (goodIn_r wsC_6 [12, 13, 14, 15, 16, 17, 18, 19, 20, 21, 22, 23, 24, 25, 26, 27, 28, 29, 30, 31, 32, 33, 34, 35, 36, 37, 73, 74, 125] (by rfl) (by decide +kernel) w h).1
theorem wsC_in : ∀ w ∈ wsC, w ∈ lw_tbl := fun w h => (List.mem_append.mp h).elim (fun h => wsC_0_in w h) (fun h => (List.mem_append.mp h).elim (fun h => wsC_1_in w h) (fun h => (List.mem_append.mp h).elim (fun h => wsC_2_in w h) (fun h => (List.mem_append.mp h).elim (fun h => wsC_3_in w h) (fun h => (List.mem_append.mp h).elim (fun h => wsC_4_in w h) (fun h => (List.mem_append.mp h).elim (fun h => wsC_5_in w h) (fun h => wsC_6_in w h))))))
set_option maxRecDepth 100000 in
theorem wsM_0_in : ∀ w ∈ wsM_0, w ∈ lw_tbl := fun w h => (goodIn_r wsM_0 [59, 595, 597, 598, 599, 600, 601, 602, 603, 604, 605, 606, 607, 608, 609, 610, 611, 612, 613, 614, 615, 616, 617, 618, 619, 620, 621, 622, 624, 626, 628, 630, 632, 634, 636, 638, 640, 642, 644, 646] (by rfl) (by decide +kernel) w h).1
set_option maxRecDepth 100000 in
theorem wsM_1_in : ∀ w ∈ wsM_1, w ∈ lw_tbl := fun w h => (goodIn_r wsM_1 [648, 650, 652, 654, 656, 658, 660, 662, 664, 668, 669, 670, 672, 673, 674, 675, 676, 677, 678, 680, 681, 682, 684, 685, 687, 688, 689, 690, 692, 693, 694, 695, 696, 698, 699, 700, 701, 703, 704, 705] (by rfl) (by decide +kernel) w h).1
set_option maxRecDepth 100000 in
theorem wsM_2_in : ∀ w ∈ wsM_2, w ∈ lw_tbl := fun w h => (goodIn_r wsM_2 [707, 708, 710, 711, 712, 714, 715, 716, 717, 719, 720, 721, 723, 724, 725, 727, 728, 730, 731, 732, 733, 734, 736, 737, 738, 740, 741, 742, 744, 745, 746, 748, 749, 750, 752, 753, 754, 756, 757, 758] (by rfl) (by decide +kernel) w h).1
set_option maxRecDepth 100000 in
theorem wsM_3_in : ∀ w ∈ wsM_3, w ∈ lw_tbl := fun w h => (goodIn_r wsM_3 [760, 761, 763, 764, 765, 767, 768, 769, 771, 772, 773, 775, 776, 777, 779, 780, 781, 783, 784, 785, 786, 788, 789, 791, 792, 793, 795, 796, 797, 38, 39, 40, 41, 42, 43, 44, 45, 46, 47, 48] (by rfl) (by decide +kernel) w h).1
set_option maxRecDepth 100000 in
theorem wsM_4_in : ∀ w ∈ wsM_4, w ∈ lw_tbl := fun w h => (goodIn_r wsM_4 [49, 50, 51, 52, 53, 73, 74, 125] (by rfl) (by decide +kernel) w h).1
theorem wsM_in : ∀ w ∈ wsM, w ∈ lw_tbl := fun w h => (List.mem_append.mp h).elim (fun h => wsM_0_in w h) (fun h => (List.mem_append.mp h).elim (fun h => wsM_1_in w h) (fun h => (List.mem_append.mp h).elim (fun h => wsM_2_in w h) (fun h => (List.mem_append.mp h).elim (fun h => wsM_3_in w h) (fun h => wsM_4_in w h))))
set_option maxRecDepth 100000 in
theorem wsL_0_in : ∀ w ∈ wsL_0, w ∈ lw_tbl := fun w h => (goodIn_r wsL_0 [54, 67, 69, 204, 232, 233, 234, 235, 236, 318, 319, 320, 321, 322, 323, 381, 382, 383, 384, 385, 416, 417, 418, 419, 423, 424, 425, 426, 491, 492, 493, 494, 499, 500, 501, 502, 511, 512, 513, 514] (by rfl) (by decide +kernel) w h).1
set_option maxRecDepth 100000 in
theorem wsL_1_in : ∀ w ∈ wsL_1, w ∈ lw_tbl := fun w h => (goodIn_r wsL_1 [520, 521, 522, 523, 536, 537, 538, 539, 545, 546, 547, 548, 564, 565, 566, 567, 577, 578, 579, 580, 594, 596, 667, 671, 686, 697, 709, 713, 729, 762, 766, 770, 774, 778, 782, 790, 794, 798] (by rfl) (by decide +kernel) w h).1
theorem wsL_in : ∀ w ∈ wsL, w ∈ lw_tbl := fun w h => (List.mem_append.mp h).elim (fun h => wsL_0_in w h) (fun h => wsL_1_in w h)
theorem wsE_in : ∀ w ∈ wsE, w ∈ lw_tbl := by decide +kernel
theorem wsLaw_in : ∀ w ∈ wsLaw, w ∈ lw_tbl := fun w h => (List.mem_append.mp h).elim (fun h => (List.mem_append.mp h).elim (fun h => wsL_in w h) (fun h => (List.mem_append.mp h).elim (fun h => wsC_in w h) (fun h => wsE_in w h))) (fun h => wsM_in w h)
theorem nfC_in : ∀ q ∈ nfC, Cond.fieldLinkNest q.1 q.2.1 q.2.2.1 q.2.2.2.1 q.2.2.2.2.1 q.2.2.2.2.2 ∈ lw_tbl := by decide +kernel
theorem nmC_in : ∀ q ∈ nmC, Cond.methodLinkNest q.1 q.2.1 q.2.2.1 q.2.2.2 ∈ lw_tbl := by decide +kernel
theorem bwC_in : ∀ w ∈ bwC, w ∈ lw_tbl := by decide +kernel
theorem stC_in : ∀ q ∈ stC, Cond.stringRef q.1 q.2.1 q.2.2 ∈ lw_tbl := by decide +kernel
