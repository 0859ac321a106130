/-! WORDS: what the tables name stands among the words of the claim; by places, decided by the kernel -/
def mTs : List Cond := lw_tbl.filter goodWord
def mAtw (i : Nat) (w : Cond) : Bool := decide (lw_tbl[i]? = some w) && goodWord w
theorem mAtw_mem {i : Nat} {w : Cond} (h : mAtw i w = true) : w ∈ mTs := by
  simp only [mAtw, Bool.and_eq_true, decide_eq_true_eq] at h
  exact List.mem_filter.mpr ⟨List.mem_of_getElem? h.1, h.2⟩
theorem mTs_before {args : Array Value} {s : State} (h : ∀ w ∈ lw_tbl, w.before args s = true) : ∀ w ∈ mTs, w.before args s = true := fun w hw => h w (List.mem_filter.mp hw).1
def mFrP : List (Nat × Nat × Nat × Nat × Nat) := [(0, 10, 0, 0, 327), (0, 18, 0, 1, 328), (0, 27, 0, 2, 329), (0, 34, 0, 3, 330), (0, 42, 0, 4, 331), (0, 46, 0, 5, 332), (0, 53, 2, 2, 108), (0, 75, 2, 0, 104), (0, 82, 0, 6, 333), (0, 85, 3, 1, 195), (0, 89, 3, 2, 197), (0, 92, 3, 3, 200), (0, 95, 3, 6, 203), (0, 99, 3, 4, 201), (0, 102, 3, 5, 202), (0, 105, 3, 0, 193), (0, 117, 7, 3, 302), (0, 131, 3, 7, 204), (0, 143, 3, 8, 207), (0, 149, 6, 6, 265), (0, 157, 6, 0, 253), (0, 162, 0, 7, 334), (0, 169, 0, 8, 335), (0, 183, 6, 1, 255), (0, 186, 6, 2, 257), (0, 189, 6, 3, 259), (0, 192, 6, 4, 261), (0, 195, 6, 5, 263), (0, 198, 6, 8, 268), (0, 201, 6, 9, 270), (0, 204, 2, 3, 111), (0, 207, 2, 6, 120), (0, 209, 2, 4, 114), (0, 212, 2, 5, 116), (0, 219, 2, 7, 123), (0, 229, 3, 10, 211), (0, 232, 3, 11, 213), (0, 236, 5, 1, 185), (0, 239, 3, 12, 215), (0, 315, 8, 0, 319), (0, 362, 8, 1, 321), (9, 7, 9, 0, 720), (9, 13, 9, 1, 721), (9, 17, 9, 2, 722), (9, 20, 9, 3, 723), (9, 23, 9, 4, 724), (9, 26, 9, 5, 725), (9, 29, 9, 6, 726), (9, 32, 9, 7, 727), (9, 35, 9, 8, 728), (9, 38, 9, 9, 729), (9, 41, 9, 10, 730), (9, 44, 9, 11, 731), (9, 47, 9, 12, 732), (9, 50, 9, 13, 733), (9, 53, 9, 14, 734), (9, 56, 9, 15, 735), (9, 59, 9, 16, 736), (9, 62, 9, 17, 737), (9, 65, 9, 18, 738), (9, 68, 9, 19, 739), (9, 71, 9, 20, 740), (9, 74, 9, 21, 741), (9, 77, 9, 22, 742), (9, 80, 9, 23, 743), (9, 83, 9, 24, 744), (9, 86, 9, 25, 745), (9, 89, 9, 26, 746), (9, 92, 9, 27, 747), (9, 95, 9, 28, 748), (9, 98, 9, 29, 749), (9, 101, 9, 30, 750), (9, 104, 9, 31, 751), (9, 107, 9, 32, 752), (9, 110, 9, 33, 753), (9, 113, 9, 34, 754), (9, 116, 9, 35, 755), (9, 127, 9, 36, 756), (9, 184, 9, 40, 760), (9, 187, 9, 41, 761), (9, 206, 9, 38, 758), (9, 213, 9, 39, 759), (9, 255, 9, 37, 757), (3, 9, 3, 0, 192), (3, 17, 3, 9, 208), (3, 25, 3, 11, 212), (3, 29, 3, 12, 214), (3, 32, 3, 3, 199), (3, 35, 3, 2, 196), (3, 42, 3, 10, 210), (3, 45, 4, 0, 163), (3, 49, 4, 1, 165), (3, 53, 4, 2, 168), (3, 56, 3, 7, 205), (3, 60, 5, 1, 184), (7, 9, 7, 0, 298), (7, 15, 7, 1, 299), (7, 18, 7, 2, 300), (7, 21, 7, 3, 301), (2, 7, 2, 0, 103), (2, 13, 2, 1, 105), (2, 17, 2, 6, 117), (2, 21, 2, 3, 109), (2, 24, 2, 2, 107), (2, 27, 2, 4, 112), (2, 30, 2, 7, 121), (2, 34, 2, 5, 115), (5, 9, 5, 0, 182), (5, 15, 5, 1, 183), (6, 9, 6, 0, 252), (6, 15, 6, 1, 254), (6, 18, 6, 6, 264), (6, 24, 6, 7, 266), (6, 28, 3, 8, 206), (6, 33, 6, 2, 256), (6, 37, 6, 3, 258), (6, 40, 6, 5, 262), (6, 44, 6, 4, 260), (6, 47, 6, 8, 267), (6, 50, 6, 9, 269), (6, 67, 3, 2, 198), (6, 70, 2, 4, 113), (1, 11, 1, 0, 145), (1, 24, 2, 1, 106), (1, 28, 2, 6, 118), (1, 32, 2, 3, 110), (1, 36, 2, 7, 122), (8, 19, 3, 1, 194), (8, 25, 8, 0, 318), (8, 28, 8, 1, 320), (8, 49, 4, 2, 167), (8, 58, 3, 9, 209), (8, 66, 4, 0, 164), (8, 69, 4, 1, 166), (8, 76, 2, 6, 119)]
def mFrc (q : Nat × Nat × Nat × Nat × Nat) : Bool := Nat.blt q.2.2.1 10 && Nat.blt q.2.2.2.1 (mN q.2.2.1) && mAtw q.2.2.2.2 (.fieldLink (mCn q.1) q.2.1 (mCn q.2.2.1) (mT q.2.2.1 q.2.2.2.1).2.1 (mT q.2.2.1 q.2.2.2.1).2.2.1)
theorem mFrc_all : mFrP.all mFrc = true := by decide +kernel
theorem mFr_map : mFr = mFrP.map (fun q => (q.1, q.2.1, q.2.2.1, q.2.2.2.1)) := by decide +kernel
theorem mFr_ok {o i ci k : Nat} (h : (o, i, ci, k) ∈ mFr) : ci < 10 ∧ k < mN ci ∧ Cond.fieldLink (mCn o) i (mCn ci) (mT ci k).2.1 (mT ci k).2.2.1 ∈ mTs := by
  rw [mFr_map] at h
  obtain ⟨q, hq, e⟩ := List.mem_map.mp h
  have h1 := List.all_eq_true.mp mFrc_all q hq
  simp only [mFrc, Bool.and_eq_true, Nat.blt_eq] at h1
  cases e
  exact ⟨h1.1.1, h1.1.2, mAtw_mem h1.2⟩
def mMp : List (Nat × Nat × Nat × Nat × Nat × Nat) := [(0, 1, 86, 85, 0, 71), (1, 0, 358, 356, 357, 71), (2, 0, 378, 376, 377, 71), (3, 0, 386, 384, 385, 71), (4, 0, 409, 407, 408, 71), (5, 0, 413, 411, 412, 71), (6, 0, 448, 446, 447, 71), (7, 0, 689, 687, 688, 71), (8, 0, 693, 691, 692, 71), (9, 0, 697, 695, 696, 71), (10, 0, 701, 699, 700, 71), (11, 0, 705, 703, 704, 71), (12, 0, 491, 490, 11, 71), (13, 0, 495, 494, 12, 71), (14, 0, 504, 503, 13, 71), (15, 0, 508, 507, 14, 71), (16, 0, 512, 511, 15, 71), (17, 0, 552, 551, 18, 71), (18, 0, 576, 575, 19, 71), (19, 0, 592, 591, 21, 71), (20, 0, 612, 611, 23, 71), (21, 0, 619, 618, 24, 71), (22, 0, 623, 622, 25, 71), (23, 0, 631, 630, 26, 71), (24, 0, 639, 638, 28, 71), (25, 0, 648, 647, 29, 71), (26, 0, 661, 660, 30, 71), (27, 0, 665, 664, 31, 71), (28, 0, 677, 676, 32, 71), (29, 0, 685, 684, 33, 71), (30, 0, 475, 474, 9, 71), (31, 0, 479, 478, 10, 71), (32, 0, 382, 381, 0, 71), (33, 0, 390, 389, 1, 71), (34, 0, 456, 455, 7, 71), (35, 0, 452, 451, 6, 71), (36, 0, 635, 634, 27, 71), (37, 0, 425, 424, 3, 71), (38, 0, 713, 712, 34, 71), (39, 0, 433, 432, 5, 71), (40, 0, 429, 428, 4, 71), (41, 0, 582, 581, 20, 71), (42, 0, 397, 396, 2, 71), (43, 0, 596, 595, 22, 71), (44, 2, 436, 435, 0, 71), (45, 2, 365, 364, 0, 71), (46, 2, 416, 415, 0, 71), (47, 2, 393, 392, 0, 71), (48, 2, 522, 521, 0, 71), (49, 2, 519, 518, 0, 71), (50, 1, 718, 717, 0, 80), (51, 2, 862, 861, 0, 80), (52, 0, 859, 858, 36, 80), (53, 0, 855, 854, 35, 80), (54, 0, 894, 893, 43, 80), (55, 0, 866, 865, 37, 80), (56, 0, 1005, 1004, 65, 80), (57, 0, 870, 869, 38, 80), (58, 0, 851, 849, 850, 80), (59, 0, 882, 881, 41, 80), (60, 0, 886, 885, 42, 80), (61, 0, 878, 877, 40, 80), (62, 0, 874, 873, 39, 80), (63, 0, 890, 888, 889, 80), (64, 0, 914, 913, 45, 80), (65, 0, 902, 901, 44, 80), (66, 0, 898, 896, 897, 80), (67, 0, 906, 904, 905, 80), (68, 0, 942, 941, 50, 80), (69, 0, 918, 917, 46, 80), (70, 0, 922, 921, 47, 80), (71, 0, 910, 908, 909, 80), (72, 0, 934, 933, 49, 80), (73, 0, 930, 929, 48, 80), (74, 0, 926, 924, 925, 80), (75, 0, 969, 968, 56, 80), (76, 0, 973, 972, 57, 80), (77, 0, 965, 964, 55, 80), (78, 2, 957, 956, 0, 80), (79, 0, 961, 960, 54, 80), (80, 0, 997, 996, 63, 80), (81, 0, 993, 992, 62, 80), (82, 0, 977, 976, 58, 80), (83, 0, 989, 988, 61, 80), (84, 0, 938, 936, 937, 80), (85, 0, 946, 945, 51, 80), (86, 0, 950, 949, 52, 80), (87, 0, 954, 953, 53, 80), (88, 0, 981, 980, 59, 80), (89, 0, 985, 984, 60, 80), (90, 0, 1001, 1000, 64, 80), (91, 0, 1009, 1008, 66, 80), (92, 0, 1013, 1012, 67, 80), (93, 0, 1017, 1016, 68, 80), (94, 0, 1021, 1020, 69, 80), (95, 0, 1025, 1023, 1024, 80), (96, 0, 1029, 1027, 1028, 80), (97, 0, 1033, 1031, 1032, 80), (98, 0, 1037, 1035, 1036, 80), (99, 1, 154, 153, 0, 74), (100, 0, 572, 570, 571, 74), (101, 0, 568, 566, 567, 74), (102, 0, 669, 667, 668, 74), (103, 0, 644, 642, 643, 74), (104, 0, 657, 655, 656, 74), (105, 0, 548, 546, 547, 74), (106, 0, 653, 651, 652, 74), (107, 0, 600, 598, 599, 74), (108, 0, 487, 485, 486, 74), (109, 1, 296, 295, 0, 78), (110, 0, 405, 403, 404, 78), (111, 0, 420, 418, 419, 78), (112, 0, 464, 462, 463, 78), (113, 0, 468, 467, 8, 78), (114, 1, 161, 160, 0, 75), (115, 1, 101, 100, 0, 73), (116, 0, 144, 142, 143, 73), (117, 0, 608, 606, 607, 73), (118, 1, 180, 179, 0, 76), (119, 0, 673, 671, 672, 76), (120, 0, 681, 679, 680, 76), (121, 1, 248, 247, 0, 77), (122, 0, 440, 438, 439, 77), (123, 0, 499, 497, 498, 77), (124, 0, 483, 481, 482, 77), (125, 0, 444, 442, 443, 77), (126, 0, 401, 399, 400, 77), (127, 0, 460, 458, 459, 77), (128, 0, 560, 558, 559, 77), (129, 0, 564, 562, 563, 77), (130, 0, 556, 554, 555, 77), (131, 0, 627, 625, 626, 77), (132, 1, 94, 93, 0, 72), (133, 0, 362, 360, 361, 72), (134, 0, 373, 371, 372, 72), (135, 0, 369, 367, 368, 72), (136, 0, 604, 602, 603, 72), (137, 0, 586, 584, 585, 72), (138, 0, 709, 707, 708, 72), (139, 1, 316, 315, 0, 79), (140, 0, 516, 514, 515, 79), (141, 0, 526, 524, 525, 79), (142, 0, 539, 537, 538, 79), (143, 0, 535, 533, 534, 79), (144, 0, 544, 543, 17, 79), (145, 0, 531, 530, 16, 79)]
/-- how a method is called: 0 by its receiver, 1 a constructor, 2 static -/
def mKd (y : Nat) : Nat := (bif Nat.ble y 72 then (bif Nat.ble y 35 then (bif Nat.ble y 17 then (bif Nat.ble y 8 then (bif Nat.ble y 3 then (bif Nat.ble y 1 then (bif Nat.ble y 0 then 1 else 0) else (bif Nat.ble y 2 then 0 else 0)) else (bif Nat.ble y 5 then (bif Nat.ble y 4 then 0 else 0) else (bif Nat.ble y 6 then 0 else (bif Nat.ble y 7 then 0 else 0)))) else (bif Nat.ble y 12 then (bif Nat.ble y 10 then (bif Nat.ble y 9 then 0 else 0) else (bif Nat.ble y 11 then 0 else 0)) else (bif Nat.ble y 14 then (bif Nat.ble y 13 then 0 else 0) else (bif Nat.ble y 15 then 0 else (bif Nat.ble y 16 then 0 else 0))))) else (bif Nat.ble y 26 then (bif Nat.ble y 21 then (bif Nat.ble y 19 then (bif Nat.ble y 18 then 0 else 0) else (bif Nat.ble y 20 then 0 else 0)) else (bif Nat.ble y 23 then (bif Nat.ble y 22 then 0 else 0) else (bif Nat.ble y 24 then 0 else (bif Nat.ble y 25 then 0 else 0)))) else (bif Nat.ble y 30 then (bif Nat.ble y 28 then (bif Nat.ble y 27 then 0 else 0) else (bif Nat.ble y 29 then 0 else 0)) else (bif Nat.ble y 32 then (bif Nat.ble y 31 then 0 else 0) else (bif Nat.ble y 33 then 0 else (bif Nat.ble y 34 then 0 else 0)))))) else (bif Nat.ble y 53 then (bif Nat.ble y 44 then (bif Nat.ble y 39 then (bif Nat.ble y 37 then (bif Nat.ble y 36 then 0 else 0) else (bif Nat.ble y 38 then 0 else 0)) else (bif Nat.ble y 41 then (bif Nat.ble y 40 then 0 else 0) else (bif Nat.ble y 42 then 0 else (bif Nat.ble y 43 then 0 else 2)))) else (bif Nat.ble y 48 then (bif Nat.ble y 46 then (bif Nat.ble y 45 then 2 else 2) else (bif Nat.ble y 47 then 2 else 2)) else (bif Nat.ble y 50 then (bif Nat.ble y 49 then 2 else 1) else (bif Nat.ble y 51 then 2 else (bif Nat.ble y 52 then 0 else 0))))) else (bif Nat.ble y 62 then (bif Nat.ble y 57 then (bif Nat.ble y 55 then (bif Nat.ble y 54 then 0 else 0) else (bif Nat.ble y 56 then 0 else 0)) else (bif Nat.ble y 59 then (bif Nat.ble y 58 then 0 else 0) else (bif Nat.ble y 60 then 0 else (bif Nat.ble y 61 then 0 else 0)))) else (bif Nat.ble y 67 then (bif Nat.ble y 64 then (bif Nat.ble y 63 then 0 else 0) else (bif Nat.ble y 65 then 0 else (bif Nat.ble y 66 then 0 else 0))) else (bif Nat.ble y 69 then (bif Nat.ble y 68 then 0 else 0) else (bif Nat.ble y 70 then 0 else (bif Nat.ble y 71 then 0 else 0))))))) else (bif Nat.ble y 108 then (bif Nat.ble y 90 then (bif Nat.ble y 81 then (bif Nat.ble y 76 then (bif Nat.ble y 74 then (bif Nat.ble y 73 then 0 else 0) else (bif Nat.ble y 75 then 0 else 0)) else (bif Nat.ble y 78 then (bif Nat.ble y 77 then 0 else 2) else (bif Nat.ble y 79 then 0 else (bif Nat.ble y 80 then 0 else 0)))) else (bif Nat.ble y 85 then (bif Nat.ble y 83 then (bif Nat.ble y 82 then 0 else 0) else (bif Nat.ble y 84 then 0 else 0)) else (bif Nat.ble y 87 then (bif Nat.ble y 86 then 0 else 0) else (bif Nat.ble y 88 then 0 else (bif Nat.ble y 89 then 0 else 0))))) else (bif Nat.ble y 99 then (bif Nat.ble y 94 then (bif Nat.ble y 92 then (bif Nat.ble y 91 then 0 else 0) else (bif Nat.ble y 93 then 0 else 0)) else (bif Nat.ble y 96 then (bif Nat.ble y 95 then 0 else 0) else (bif Nat.ble y 97 then 0 else (bif Nat.ble y 98 then 0 else 1)))) else (bif Nat.ble y 103 then (bif Nat.ble y 101 then (bif Nat.ble y 100 then 0 else 0) else (bif Nat.ble y 102 then 0 else 0)) else (bif Nat.ble y 105 then (bif Nat.ble y 104 then 0 else 0) else (bif Nat.ble y 106 then 0 else (bif Nat.ble y 107 then 0 else 0)))))) else (bif Nat.ble y 126 then (bif Nat.ble y 117 then (bif Nat.ble y 112 then (bif Nat.ble y 110 then (bif Nat.ble y 109 then 1 else 0) else (bif Nat.ble y 111 then 0 else 0)) else (bif Nat.ble y 114 then (bif Nat.ble y 113 then 0 else 1) else (bif Nat.ble y 115 then 1 else (bif Nat.ble y 116 then 0 else 0)))) else (bif Nat.ble y 121 then (bif Nat.ble y 119 then (bif Nat.ble y 118 then 1 else 0) else (bif Nat.ble y 120 then 0 else 1)) else (bif Nat.ble y 123 then (bif Nat.ble y 122 then 0 else 0) else (bif Nat.ble y 124 then 0 else (bif Nat.ble y 125 then 0 else 0))))) else (bif Nat.ble y 135 then (bif Nat.ble y 130 then (bif Nat.ble y 128 then (bif Nat.ble y 127 then 0 else 0) else (bif Nat.ble y 129 then 0 else 0)) else (bif Nat.ble y 132 then (bif Nat.ble y 131 then 0 else 1) else (bif Nat.ble y 133 then 0 else (bif Nat.ble y 134 then 0 else 0)))) else (bif Nat.ble y 140 then (bif Nat.ble y 137 then (bif Nat.ble y 136 then 0 else 0) else (bif Nat.ble y 138 then 0 else (bif Nat.ble y 139 then 1 else 0))) else (bif Nat.ble y 142 then (bif Nat.ble y 141 then 0 else 0) else (bif Nat.ble y 143 then 0 else (bif Nat.ble y 144 then 0 else 0))))))))
def mMc (q : Nat × Nat × Nat × Nat × Nat × Nat) : Bool := Nat.beq (mKd q.1) q.2.1 && mAtw q.2.2.2.2.2 (.initialized (mName q.1).cls) && decide ((mName q.1).cls = mCn (mOwn q.1)) && Nat.ble (mMaxL q.1) 9 && Nat.ble (mArg q.1) (mMaxL q.1) && Nat.blt (mOwn q.1) 10 && plainName (mName q.1).cls &&
  decide ((mName q.1).cls ≠ "java/lang/invoke/MethodHandle" ∧ (mName q.1).cls ≠ "java/lang/invoke/VarHandle") &&
  (match q.2.1 with
  | 0 => mAtw q.2.2.2.1 (.instanceMethod (mName q.1)) && mAtw q.2.2.2.2.1 (.selects (mName q.1).cls (mName q.1) (mName q.1)) && decide ((parseMethodDescriptor (mName q.1).desc).map (fun d => d.parameters.length + 1) = some (mArg q.1))
  | 1 => mAtw q.2.2.2.1 (.instanceMethod (mName q.1)) && decide ((mName q.1).name = "<init>") && decide (mRet q.1 = none) && decide ((parseMethodDescriptor (mName q.1).desc).map (fun d => d.parameters.length + 1) = some (mArg q.1))
  | _ => mAtw q.2.2.2.1 (.static (mName q.1)) && decide ((parseMethodDescriptor (mName q.1).desc).map (fun d => d.parameters.length) = some (mArg q.1)))
theorem mMp_at : (List.range 146).all (fun y => decide (mMp[y]?.map (·.1) = some y)) = true := by decide +kernel
theorem mMc_0 : ((mMp.drop 0).take 10).all mMc = true := by decide +kernel
theorem mMc_1 : ((mMp.drop 10).take 10).all mMc = true := by decide +kernel
theorem mMc_2 : ((mMp.drop 20).take 10).all mMc = true := by decide +kernel
theorem mMc_3 : ((mMp.drop 30).take 10).all mMc = true := by decide +kernel
theorem mMc_4 : ((mMp.drop 40).take 10).all mMc = true := by decide +kernel
theorem mMc_5 : ((mMp.drop 50).take 10).all mMc = true := by decide +kernel
theorem mMc_6 : ((mMp.drop 60).take 10).all mMc = true := by decide +kernel
theorem mMc_7 : ((mMp.drop 70).take 10).all mMc = true := by decide +kernel
theorem mMc_8 : ((mMp.drop 80).take 10).all mMc = true := by decide +kernel
theorem mMc_9 : ((mMp.drop 90).take 10).all mMc = true := by decide +kernel
theorem mMc_10 : ((mMp.drop 100).take 10).all mMc = true := by decide +kernel
theorem mMc_11 : ((mMp.drop 110).take 10).all mMc = true := by decide +kernel
theorem mMc_12 : ((mMp.drop 120).take 10).all mMc = true := by decide +kernel
theorem mMc_13 : ((mMp.drop 130).take 10).all mMc = true := by decide +kernel
theorem mMc_14 : ((mMp.drop 140).take 10).all mMc = true := by decide +kernel
theorem mMc_all : ∀ q ∈ mMp, mMc q = true := by
  intro q hq
  have e : mMp = (mMp.drop 0).take 10 ++ ((mMp.drop 10).take 10 ++ ((mMp.drop 20).take 10 ++ ((mMp.drop 30).take 10 ++ ((mMp.drop 40).take 10 ++ ((mMp.drop 50).take 10 ++ ((mMp.drop 60).take 10 ++ ((mMp.drop 70).take 10 ++ ((mMp.drop 80).take 10 ++ ((mMp.drop 90).take 10 ++ ((mMp.drop 100).take 10 ++ ((mMp.drop 110).take 10 ++ ((mMp.drop 120).take 10 ++ ((mMp.drop 130).take 10 ++ ((mMp.drop 140).take 10)))))))))))))) := by decide +kernel
  rw [e] at hq
  simp only [List.mem_append] at hq
  rcases hq with h | h | h | h | h | h | h | h | h | h | h | h | h | h | h
  · exact List.all_eq_true.mp mMc_0 q h
  · exact List.all_eq_true.mp mMc_1 q h
  · exact List.all_eq_true.mp mMc_2 q h
  · exact List.all_eq_true.mp mMc_3 q h
  · exact List.all_eq_true.mp mMc_4 q h
  · exact List.all_eq_true.mp mMc_5 q h
  · exact List.all_eq_true.mp mMc_6 q h
  · exact List.all_eq_true.mp mMc_7 q h
  · exact List.all_eq_true.mp mMc_8 q h
  · exact List.all_eq_true.mp mMc_9 q h
  · exact List.all_eq_true.mp mMc_10 q h
  · exact List.all_eq_true.mp mMc_11 q h
  · exact List.all_eq_true.mp mMc_12 q h
  · exact List.all_eq_true.mp mMc_13 q h
  · exact List.all_eq_true.mp mMc_14 q h
set_option maxRecDepth 100000 in
theorem mcw_0 : lw_tbl[86]? = some (.code (mName 0) (mCode 0) (mMaxL 0) (mRet 0)) := rfl
set_option maxRecDepth 100000 in
theorem mcw_1 : lw_tbl[358]? = some (.code (mName 1) (mCode 1) (mMaxL 1) (mRet 1)) := rfl
set_option maxRecDepth 100000 in
theorem mcw_2 : lw_tbl[378]? = some (.code (mName 2) (mCode 2) (mMaxL 2) (mRet 2)) := rfl
set_option maxRecDepth 100000 in
theorem mcw_3 : lw_tbl[386]? = some (.code (mName 3) (mCode 3) (mMaxL 3) (mRet 3)) := rfl
set_option maxRecDepth 100000 in
theorem mcw_4 : lw_tbl[409]? = some (.code (mName 4) (mCode 4) (mMaxL 4) (mRet 4)) := rfl
set_option maxRecDepth 100000 in
theorem mcw_5 : lw_tbl[413]? = some (.code (mName 5) (mCode 5) (mMaxL 5) (mRet 5)) := rfl
set_option maxRecDepth 100000 in
theorem mcw_6 : lw_tbl[448]? = some (.code (mName 6) (mCode 6) (mMaxL 6) (mRet 6)) := rfl
set_option maxRecDepth 100000 in
theorem mcw_7 : lw_tbl[689]? = some (.code (mName 7) (mCode 7) (mMaxL 7) (mRet 7)) := rfl
set_option maxRecDepth 100000 in
theorem mcw_8 : lw_tbl[693]? = some (.code (mName 8) (mCode 8) (mMaxL 8) (mRet 8)) := rfl
set_option maxRecDepth 100000 in
theorem mcw_9 : lw_tbl[697]? = some (.code (mName 9) (mCode 9) (mMaxL 9) (mRet 9)) := rfl
set_option maxRecDepth 100000 in
theorem mcw_10 : lw_tbl[701]? = some (.code (mName 10) (mCode 10) (mMaxL 10) (mRet 10)) := rfl
set_option maxRecDepth 100000 in
theorem mcw_11 : lw_tbl[705]? = some (.code (mName 11) (mCode 11) (mMaxL 11) (mRet 11)) := rfl
set_option maxRecDepth 100000 in
theorem mcw_12 : lw_tbl[491]? = some (.code (mName 12) (mCode 12) (mMaxL 12) (mRet 12)) := rfl
set_option maxRecDepth 100000 in
theorem mcw_13 : lw_tbl[495]? = some (.code (mName 13) (mCode 13) (mMaxL 13) (mRet 13)) := rfl
set_option maxRecDepth 100000 in
theorem mcw_14 : lw_tbl[504]? = some (.code (mName 14) (mCode 14) (mMaxL 14) (mRet 14)) := rfl
set_option maxRecDepth 100000 in
theorem mcw_15 : lw_tbl[508]? = some (.code (mName 15) (mCode 15) (mMaxL 15) (mRet 15)) := rfl
set_option maxRecDepth 100000 in
theorem mcw_16 : lw_tbl[512]? = some (.code (mName 16) (mCode 16) (mMaxL 16) (mRet 16)) := rfl
set_option maxRecDepth 100000 in
theorem mcw_17 : lw_tbl[552]? = some (.code (mName 17) (mCode 17) (mMaxL 17) (mRet 17)) := rfl
set_option maxRecDepth 100000 in
theorem mcw_18 : lw_tbl[576]? = some (.code (mName 18) (mCode 18) (mMaxL 18) (mRet 18)) := rfl
set_option maxRecDepth 100000 in
theorem mcw_19 : lw_tbl[592]? = some (.code (mName 19) (mCode 19) (mMaxL 19) (mRet 19)) := rfl
set_option maxRecDepth 100000 in
theorem mcw_20 : lw_tbl[612]? = some (.code (mName 20) (mCode 20) (mMaxL 20) (mRet 20)) := rfl
set_option maxRecDepth 100000 in
theorem mcw_21 : lw_tbl[619]? = some (.code (mName 21) (mCode 21) (mMaxL 21) (mRet 21)) := rfl
set_option maxRecDepth 100000 in
theorem mcw_22 : lw_tbl[623]? = some (.code (mName 22) (mCode 22) (mMaxL 22) (mRet 22)) := rfl
set_option maxRecDepth 100000 in
theorem mcw_23 : lw_tbl[631]? = some (.code (mName 23) (mCode 23) (mMaxL 23) (mRet 23)) := rfl
set_option maxRecDepth 100000 in
theorem mcw_24 : lw_tbl[639]? = some (.code (mName 24) (mCode 24) (mMaxL 24) (mRet 24)) := rfl
set_option maxRecDepth 100000 in
theorem mcw_25 : lw_tbl[648]? = some (.code (mName 25) (mCode 25) (mMaxL 25) (mRet 25)) := rfl
set_option maxRecDepth 100000 in
theorem mcw_26 : lw_tbl[661]? = some (.code (mName 26) (mCode 26) (mMaxL 26) (mRet 26)) := rfl
set_option maxRecDepth 100000 in
theorem mcw_27 : lw_tbl[665]? = some (.code (mName 27) (mCode 27) (mMaxL 27) (mRet 27)) := rfl
set_option maxRecDepth 100000 in
theorem mcw_28 : lw_tbl[677]? = some (.code (mName 28) (mCode 28) (mMaxL 28) (mRet 28)) := rfl
set_option maxRecDepth 100000 in
theorem mcw_29 : lw_tbl[685]? = some (.code (mName 29) (mCode 29) (mMaxL 29) (mRet 29)) := rfl
set_option maxRecDepth 100000 in
theorem mcw_30 : lw_tbl[475]? = some (.code (mName 30) (mCode 30) (mMaxL 30) (mRet 30)) := rfl
set_option maxRecDepth 100000 in
theorem mcw_31 : lw_tbl[479]? = some (.code (mName 31) (mCode 31) (mMaxL 31) (mRet 31)) := rfl
set_option maxRecDepth 100000 in
theorem mcw_32 : lw_tbl[382]? = some (.code (mName 32) (mCode 32) (mMaxL 32) (mRet 32)) := rfl
set_option maxRecDepth 100000 in
theorem mcw_33 : lw_tbl[390]? = some (.code (mName 33) (mCode 33) (mMaxL 33) (mRet 33)) := rfl
set_option maxRecDepth 100000 in
theorem mcw_34 : lw_tbl[456]? = some (.code (mName 34) (mCode 34) (mMaxL 34) (mRet 34)) := rfl
set_option maxRecDepth 100000 in
theorem mcw_35 : lw_tbl[452]? = some (.code (mName 35) (mCode 35) (mMaxL 35) (mRet 35)) := rfl
set_option maxRecDepth 100000 in
theorem mcw_36 : lw_tbl[635]? = some (.code (mName 36) (mCode 36) (mMaxL 36) (mRet 36)) := rfl
set_option maxRecDepth 100000 in
theorem mcw_37 : lw_tbl[425]? = some (.code (mName 37) (mCode 37) (mMaxL 37) (mRet 37)) := rfl
set_option maxRecDepth 100000 in
theorem mcw_38 : lw_tbl[713]? = some (.code (mName 38) (mCode 38) (mMaxL 38) (mRet 38)) := rfl
set_option maxRecDepth 100000 in
theorem mcw_39 : lw_tbl[433]? = some (.code (mName 39) (mCode 39) (mMaxL 39) (mRet 39)) := rfl
set_option maxRecDepth 100000 in
theorem mcw_40 : lw_tbl[429]? = some (.code (mName 40) (mCode 40) (mMaxL 40) (mRet 40)) := rfl
set_option maxRecDepth 100000 in
theorem mcw_41 : lw_tbl[582]? = some (.code (mName 41) (mCode 41) (mMaxL 41) (mRet 41)) := rfl
set_option maxRecDepth 100000 in
theorem mcw_42 : lw_tbl[397]? = some (.code (mName 42) (mCode 42) (mMaxL 42) (mRet 42)) := rfl
set_option maxRecDepth 100000 in
theorem mcw_43 : lw_tbl[596]? = some (.code (mName 43) (mCode 43) (mMaxL 43) (mRet 43)) := rfl
set_option maxRecDepth 100000 in
theorem mcw_44 : lw_tbl[436]? = some (.code (mName 44) (mCode 44) (mMaxL 44) (mRet 44)) := rfl
set_option maxRecDepth 100000 in
theorem mcw_45 : lw_tbl[365]? = some (.code (mName 45) (mCode 45) (mMaxL 45) (mRet 45)) := rfl
set_option maxRecDepth 100000 in
theorem mcw_46 : lw_tbl[416]? = some (.code (mName 46) (mCode 46) (mMaxL 46) (mRet 46)) := rfl
set_option maxRecDepth 100000 in
theorem mcw_47 : lw_tbl[393]? = some (.code (mName 47) (mCode 47) (mMaxL 47) (mRet 47)) := rfl
set_option maxRecDepth 100000 in
theorem mcw_48 : lw_tbl[522]? = some (.code (mName 48) (mCode 48) (mMaxL 48) (mRet 48)) := rfl
set_option maxRecDepth 100000 in
theorem mcw_49 : lw_tbl[519]? = some (.code (mName 49) (mCode 49) (mMaxL 49) (mRet 49)) := rfl
set_option maxRecDepth 100000 in
theorem mcw_50 : lw_tbl[718]? = some (.code (mName 50) (mCode 50) (mMaxL 50) (mRet 50)) := rfl
set_option maxRecDepth 100000 in
theorem mcw_51 : lw_tbl[862]? = some (.code (mName 51) (mCode 51) (mMaxL 51) (mRet 51)) := rfl
set_option maxRecDepth 100000 in
theorem mcw_52 : lw_tbl[859]? = some (.code (mName 52) (mCode 52) (mMaxL 52) (mRet 52)) := rfl
set_option maxRecDepth 100000 in
theorem mcw_53 : lw_tbl[855]? = some (.code (mName 53) (mCode 53) (mMaxL 53) (mRet 53)) := rfl
set_option maxRecDepth 100000 in
theorem mcw_54 : lw_tbl[894]? = some (.code (mName 54) (mCode 54) (mMaxL 54) (mRet 54)) := rfl
set_option maxRecDepth 100000 in
theorem mcw_55 : lw_tbl[866]? = some (.code (mName 55) (mCode 55) (mMaxL 55) (mRet 55)) := rfl
set_option maxRecDepth 100000 in
theorem mcw_56 : lw_tbl[1005]? = some (.code (mName 56) (mCode 56) (mMaxL 56) (mRet 56)) := rfl
set_option maxRecDepth 100000 in
theorem mcw_57 : lw_tbl[870]? = some (.code (mName 57) (mCode 57) (mMaxL 57) (mRet 57)) := rfl
set_option maxRecDepth 100000 in
theorem mcw_58 : lw_tbl[851]? = some (.code (mName 58) (mCode 58) (mMaxL 58) (mRet 58)) := rfl
set_option maxRecDepth 100000 in
theorem mcw_59 : lw_tbl[882]? = some (.code (mName 59) (mCode 59) (mMaxL 59) (mRet 59)) := rfl
set_option maxRecDepth 100000 in
theorem mcw_60 : lw_tbl[886]? = some (.code (mName 60) (mCode 60) (mMaxL 60) (mRet 60)) := rfl
set_option maxRecDepth 100000 in
theorem mcw_61 : lw_tbl[878]? = some (.code (mName 61) (mCode 61) (mMaxL 61) (mRet 61)) := rfl
set_option maxRecDepth 100000 in
theorem mcw_62 : lw_tbl[874]? = some (.code (mName 62) (mCode 62) (mMaxL 62) (mRet 62)) := rfl
set_option maxRecDepth 100000 in
theorem mcw_63 : lw_tbl[890]? = some (.code (mName 63) (mCode 63) (mMaxL 63) (mRet 63)) := rfl
set_option maxRecDepth 100000 in
theorem mcw_64 : lw_tbl[914]? = some (.code (mName 64) (mCode 64) (mMaxL 64) (mRet 64)) := rfl
set_option maxRecDepth 100000 in
theorem mcw_65 : lw_tbl[902]? = some (.code (mName 65) (mCode 65) (mMaxL 65) (mRet 65)) := rfl
set_option maxRecDepth 100000 in
theorem mcw_66 : lw_tbl[898]? = some (.code (mName 66) (mCode 66) (mMaxL 66) (mRet 66)) := rfl
set_option maxRecDepth 100000 in
theorem mcw_67 : lw_tbl[906]? = some (.code (mName 67) (mCode 67) (mMaxL 67) (mRet 67)) := rfl
set_option maxRecDepth 100000 in
theorem mcw_68 : lw_tbl[942]? = some (.code (mName 68) (mCode 68) (mMaxL 68) (mRet 68)) := rfl
set_option maxRecDepth 100000 in
theorem mcw_69 : lw_tbl[918]? = some (.code (mName 69) (mCode 69) (mMaxL 69) (mRet 69)) := rfl
set_option maxRecDepth 100000 in
theorem mcw_70 : lw_tbl[922]? = some (.code (mName 70) (mCode 70) (mMaxL 70) (mRet 70)) := rfl
set_option maxRecDepth 100000 in
theorem mcw_71 : lw_tbl[910]? = some (.code (mName 71) (mCode 71) (mMaxL 71) (mRet 71)) := rfl
set_option maxRecDepth 100000 in
theorem mcw_72 : lw_tbl[934]? = some (.code (mName 72) (mCode 72) (mMaxL 72) (mRet 72)) := rfl
set_option maxRecDepth 100000 in
theorem mcw_73 : lw_tbl[930]? = some (.code (mName 73) (mCode 73) (mMaxL 73) (mRet 73)) := rfl
set_option maxRecDepth 100000 in
theorem mcw_74 : lw_tbl[926]? = some (.code (mName 74) (mCode 74) (mMaxL 74) (mRet 74)) := rfl
set_option maxRecDepth 100000 in
theorem mcw_75 : lw_tbl[969]? = some (.code (mName 75) (mCode 75) (mMaxL 75) (mRet 75)) := rfl
set_option maxRecDepth 100000 in
theorem mcw_76 : lw_tbl[973]? = some (.code (mName 76) (mCode 76) (mMaxL 76) (mRet 76)) := rfl
set_option maxRecDepth 100000 in
theorem mcw_77 : lw_tbl[965]? = some (.code (mName 77) (mCode 77) (mMaxL 77) (mRet 77)) := rfl
set_option maxRecDepth 100000 in
theorem mcw_78 : lw_tbl[957]? = some (.code (mName 78) (mCode 78) (mMaxL 78) (mRet 78)) := rfl
set_option maxRecDepth 100000 in
theorem mcw_79 : lw_tbl[961]? = some (.code (mName 79) (mCode 79) (mMaxL 79) (mRet 79)) := rfl
set_option maxRecDepth 100000 in
theorem mcw_80 : lw_tbl[997]? = some (.code (mName 80) (mCode 80) (mMaxL 80) (mRet 80)) := rfl
set_option maxRecDepth 100000 in
theorem mcw_81 : lw_tbl[993]? = some (.code (mName 81) (mCode 81) (mMaxL 81) (mRet 81)) := rfl
set_option maxRecDepth 100000 in
theorem mcw_82 : lw_tbl[977]? = some (.code (mName 82) (mCode 82) (mMaxL 82) (mRet 82)) := rfl
set_option maxRecDepth 100000 in
theorem mcw_83 : lw_tbl[989]? = some (.code (mName 83) (mCode 83) (mMaxL 83) (mRet 83)) := rfl
set_option maxRecDepth 100000 in
theorem mcw_84 : lw_tbl[938]? = some (.code (mName 84) (mCode 84) (mMaxL 84) (mRet 84)) := rfl
set_option maxRecDepth 100000 in
theorem mcw_85 : lw_tbl[946]? = some (.code (mName 85) (mCode 85) (mMaxL 85) (mRet 85)) := rfl
set_option maxRecDepth 100000 in
theorem mcw_86 : lw_tbl[950]? = some (.code (mName 86) (mCode 86) (mMaxL 86) (mRet 86)) := rfl
set_option maxRecDepth 100000 in
theorem mcw_87 : lw_tbl[954]? = some (.code (mName 87) (mCode 87) (mMaxL 87) (mRet 87)) := rfl
set_option maxRecDepth 100000 in
theorem mcw_88 : lw_tbl[981]? = some (.code (mName 88) (mCode 88) (mMaxL 88) (mRet 88)) := rfl
set_option maxRecDepth 100000 in
theorem mcw_89 : lw_tbl[985]? = some (.code (mName 89) (mCode 89) (mMaxL 89) (mRet 89)) := rfl
set_option maxRecDepth 100000 in
theorem mcw_90 : lw_tbl[1001]? = some (.code (mName 90) (mCode 90) (mMaxL 90) (mRet 90)) := rfl
set_option maxRecDepth 100000 in
theorem mcw_91 : lw_tbl[1009]? = some (.code (mName 91) (mCode 91) (mMaxL 91) (mRet 91)) := rfl
set_option maxRecDepth 100000 in
theorem mcw_92 : lw_tbl[1013]? = some (.code (mName 92) (mCode 92) (mMaxL 92) (mRet 92)) := rfl
set_option maxRecDepth 100000 in
theorem mcw_93 : lw_tbl[1017]? = some (.code (mName 93) (mCode 93) (mMaxL 93) (mRet 93)) := rfl
set_option maxRecDepth 100000 in
theorem mcw_94 : lw_tbl[1021]? = some (.code (mName 94) (mCode 94) (mMaxL 94) (mRet 94)) := rfl
set_option maxRecDepth 100000 in
theorem mcw_95 : lw_tbl[1025]? = some (.code (mName 95) (mCode 95) (mMaxL 95) (mRet 95)) := rfl
set_option maxRecDepth 100000 in
theorem mcw_96 : lw_tbl[1029]? = some (.code (mName 96) (mCode 96) (mMaxL 96) (mRet 96)) := rfl
set_option maxRecDepth 100000 in
theorem mcw_97 : lw_tbl[1033]? = some (.code (mName 97) (mCode 97) (mMaxL 97) (mRet 97)) := rfl
set_option maxRecDepth 100000 in
theorem mcw_98 : lw_tbl[1037]? = some (.code (mName 98) (mCode 98) (mMaxL 98) (mRet 98)) := rfl
set_option maxRecDepth 100000 in
theorem mcw_99 : lw_tbl[154]? = some (.code (mName 99) (mCode 99) (mMaxL 99) (mRet 99)) := rfl
set_option maxRecDepth 100000 in
theorem mcw_100 : lw_tbl[572]? = some (.code (mName 100) (mCode 100) (mMaxL 100) (mRet 100)) := rfl
set_option maxRecDepth 100000 in
theorem mcw_101 : lw_tbl[568]? = some (.code (mName 101) (mCode 101) (mMaxL 101) (mRet 101)) := rfl
set_option maxRecDepth 100000 in
theorem mcw_102 : lw_tbl[669]? = some (.code (mName 102) (mCode 102) (mMaxL 102) (mRet 102)) := rfl
set_option maxRecDepth 100000 in
theorem mcw_103 : lw_tbl[644]? = some (.code (mName 103) (mCode 103) (mMaxL 103) (mRet 103)) := rfl
set_option maxRecDepth 100000 in
theorem mcw_104 : lw_tbl[657]? = some (.code (mName 104) (mCode 104) (mMaxL 104) (mRet 104)) := rfl
set_option maxRecDepth 100000 in
theorem mcw_105 : lw_tbl[548]? = some (.code (mName 105) (mCode 105) (mMaxL 105) (mRet 105)) := rfl
set_option maxRecDepth 100000 in
theorem mcw_106 : lw_tbl[653]? = some (.code (mName 106) (mCode 106) (mMaxL 106) (mRet 106)) := rfl
set_option maxRecDepth 100000 in
theorem mcw_107 : lw_tbl[600]? = some (.code (mName 107) (mCode 107) (mMaxL 107) (mRet 107)) := rfl
set_option maxRecDepth 100000 in
theorem mcw_108 : lw_tbl[487]? = some (.code (mName 108) (mCode 108) (mMaxL 108) (mRet 108)) := rfl
set_option maxRecDepth 100000 in
theorem mcw_109 : lw_tbl[296]? = some (.code (mName 109) (mCode 109) (mMaxL 109) (mRet 109)) := rfl
set_option maxRecDepth 100000 in
theorem mcw_110 : lw_tbl[405]? = some (.code (mName 110) (mCode 110) (mMaxL 110) (mRet 110)) := rfl
set_option maxRecDepth 100000 in
theorem mcw_111 : lw_tbl[420]? = some (.code (mName 111) (mCode 111) (mMaxL 111) (mRet 111)) := rfl
set_option maxRecDepth 100000 in
theorem mcw_112 : lw_tbl[464]? = some (.code (mName 112) (mCode 112) (mMaxL 112) (mRet 112)) := rfl
set_option maxRecDepth 100000 in
theorem mcw_113 : lw_tbl[468]? = some (.code (mName 113) (mCode 113) (mMaxL 113) (mRet 113)) := rfl
set_option maxRecDepth 100000 in
theorem mcw_114 : lw_tbl[161]? = some (.code (mName 114) (mCode 114) (mMaxL 114) (mRet 114)) := rfl
set_option maxRecDepth 100000 in
theorem mcw_115 : lw_tbl[101]? = some (.code (mName 115) (mCode 115) (mMaxL 115) (mRet 115)) := rfl
set_option maxRecDepth 100000 in
theorem mcw_116 : lw_tbl[144]? = some (.code (mName 116) (mCode 116) (mMaxL 116) (mRet 116)) := rfl
set_option maxRecDepth 100000 in
theorem mcw_117 : lw_tbl[608]? = some (.code (mName 117) (mCode 117) (mMaxL 117) (mRet 117)) := rfl
set_option maxRecDepth 100000 in
theorem mcw_118 : lw_tbl[180]? = some (.code (mName 118) (mCode 118) (mMaxL 118) (mRet 118)) := rfl
set_option maxRecDepth 100000 in
theorem mcw_119 : lw_tbl[673]? = some (.code (mName 119) (mCode 119) (mMaxL 119) (mRet 119)) := rfl
set_option maxRecDepth 100000 in
theorem mcw_120 : lw_tbl[681]? = some (.code (mName 120) (mCode 120) (mMaxL 120) (mRet 120)) := rfl
set_option maxRecDepth 100000 in
theorem mcw_121 : lw_tbl[248]? = some (.code (mName 121) (mCode 121) (mMaxL 121) (mRet 121)) := rfl
set_option maxRecDepth 100000 in
theorem mcw_122 : lw_tbl[440]? = some (.code (mName 122) (mCode 122) (mMaxL 122) (mRet 122)) := rfl
set_option maxRecDepth 100000 in
theorem mcw_123 : lw_tbl[499]? = some (.code (mName 123) (mCode 123) (mMaxL 123) (mRet 123)) := rfl
set_option maxRecDepth 100000 in
theorem mcw_124 : lw_tbl[483]? = some (.code (mName 124) (mCode 124) (mMaxL 124) (mRet 124)) := rfl
set_option maxRecDepth 100000 in
theorem mcw_125 : lw_tbl[444]? = some (.code (mName 125) (mCode 125) (mMaxL 125) (mRet 125)) := rfl
set_option maxRecDepth 100000 in
theorem mcw_126 : lw_tbl[401]? = some (.code (mName 126) (mCode 126) (mMaxL 126) (mRet 126)) := rfl
set_option maxRecDepth 100000 in
theorem mcw_127 : lw_tbl[460]? = some (.code (mName 127) (mCode 127) (mMaxL 127) (mRet 127)) := rfl
set_option maxRecDepth 100000 in
theorem mcw_128 : lw_tbl[560]? = some (.code (mName 128) (mCode 128) (mMaxL 128) (mRet 128)) := rfl
set_option maxRecDepth 100000 in
theorem mcw_129 : lw_tbl[564]? = some (.code (mName 129) (mCode 129) (mMaxL 129) (mRet 129)) := rfl
set_option maxRecDepth 100000 in
theorem mcw_130 : lw_tbl[556]? = some (.code (mName 130) (mCode 130) (mMaxL 130) (mRet 130)) := rfl
set_option maxRecDepth 100000 in
theorem mcw_131 : lw_tbl[627]? = some (.code (mName 131) (mCode 131) (mMaxL 131) (mRet 131)) := rfl
set_option maxRecDepth 100000 in
theorem mcw_132 : lw_tbl[94]? = some (.code (mName 132) (mCode 132) (mMaxL 132) (mRet 132)) := rfl
set_option maxRecDepth 100000 in
theorem mcw_133 : lw_tbl[362]? = some (.code (mName 133) (mCode 133) (mMaxL 133) (mRet 133)) := rfl
set_option maxRecDepth 100000 in
theorem mcw_134 : lw_tbl[373]? = some (.code (mName 134) (mCode 134) (mMaxL 134) (mRet 134)) := rfl
set_option maxRecDepth 100000 in
theorem mcw_135 : lw_tbl[369]? = some (.code (mName 135) (mCode 135) (mMaxL 135) (mRet 135)) := rfl
set_option maxRecDepth 100000 in
theorem mcw_136 : lw_tbl[604]? = some (.code (mName 136) (mCode 136) (mMaxL 136) (mRet 136)) := rfl
set_option maxRecDepth 100000 in
theorem mcw_137 : lw_tbl[586]? = some (.code (mName 137) (mCode 137) (mMaxL 137) (mRet 137)) := rfl
set_option maxRecDepth 100000 in
theorem mcw_138 : lw_tbl[709]? = some (.code (mName 138) (mCode 138) (mMaxL 138) (mRet 138)) := rfl
set_option maxRecDepth 100000 in
theorem mcw_139 : lw_tbl[316]? = some (.code (mName 139) (mCode 139) (mMaxL 139) (mRet 139)) := rfl
set_option maxRecDepth 100000 in
theorem mcw_140 : lw_tbl[516]? = some (.code (mName 140) (mCode 140) (mMaxL 140) (mRet 140)) := rfl
set_option maxRecDepth 100000 in
theorem mcw_141 : lw_tbl[526]? = some (.code (mName 141) (mCode 141) (mMaxL 141) (mRet 141)) := rfl
set_option maxRecDepth 100000 in
theorem mcw_142 : lw_tbl[539]? = some (.code (mName 142) (mCode 142) (mMaxL 142) (mRet 142)) := rfl
set_option maxRecDepth 100000 in
theorem mcw_143 : lw_tbl[535]? = some (.code (mName 143) (mCode 143) (mMaxL 143) (mRet 143)) := rfl
set_option maxRecDepth 100000 in
theorem mcw_144 : lw_tbl[544]? = some (.code (mName 144) (mCode 144) (mMaxL 144) (mRet 144)) := rfl
set_option maxRecDepth 100000 in
theorem mcw_145 : lw_tbl[531]? = some (.code (mName 145) (mCode 145) (mMaxL 145) (mRet 145)) := rfl
theorem mCw : ∀ y : Nat, y < 146 → Cond.code (mName y) (mCode y) (mMaxL y) (mRet y) ∈ lw_tbl
  | 0, _ => List.mem_of_getElem? mcw_0
  | 1, _ => List.mem_of_getElem? mcw_1
  | 2, _ => List.mem_of_getElem? mcw_2
  | 3, _ => List.mem_of_getElem? mcw_3
  | 4, _ => List.mem_of_getElem? mcw_4
  | 5, _ => List.mem_of_getElem? mcw_5
  | 6, _ => List.mem_of_getElem? mcw_6
  | 7, _ => List.mem_of_getElem? mcw_7
  | 8, _ => List.mem_of_getElem? mcw_8
  | 9, _ => List.mem_of_getElem? mcw_9
  | 10, _ => List.mem_of_getElem? mcw_10
  | 11, _ => List.mem_of_getElem? mcw_11
  | 12, _ => List.mem_of_getElem? mcw_12
  | 13, _ => List.mem_of_getElem? mcw_13
  | 14, _ => List.mem_of_getElem? mcw_14
  | 15, _ => List.mem_of_getElem? mcw_15
  | 16, _ => List.mem_of_getElem? mcw_16
  | 17, _ => List.mem_of_getElem? mcw_17
  | 18, _ => List.mem_of_getElem? mcw_18
  | 19, _ => List.mem_of_getElem? mcw_19
  | 20, _ => List.mem_of_getElem? mcw_20
  | 21, _ => List.mem_of_getElem? mcw_21
  | 22, _ => List.mem_of_getElem? mcw_22
  | 23, _ => List.mem_of_getElem? mcw_23
  | 24, _ => List.mem_of_getElem? mcw_24
  | 25, _ => List.mem_of_getElem? mcw_25
  | 26, _ => List.mem_of_getElem? mcw_26
  | 27, _ => List.mem_of_getElem? mcw_27
  | 28, _ => List.mem_of_getElem? mcw_28
  | 29, _ => List.mem_of_getElem? mcw_29
  | 30, _ => List.mem_of_getElem? mcw_30
  | 31, _ => List.mem_of_getElem? mcw_31
  | 32, _ => List.mem_of_getElem? mcw_32
  | 33, _ => List.mem_of_getElem? mcw_33
  | 34, _ => List.mem_of_getElem? mcw_34
  | 35, _ => List.mem_of_getElem? mcw_35
  | 36, _ => List.mem_of_getElem? mcw_36
  | 37, _ => List.mem_of_getElem? mcw_37
  | 38, _ => List.mem_of_getElem? mcw_38
  | 39, _ => List.mem_of_getElem? mcw_39
  | 40, _ => List.mem_of_getElem? mcw_40
  | 41, _ => List.mem_of_getElem? mcw_41
  | 42, _ => List.mem_of_getElem? mcw_42
  | 43, _ => List.mem_of_getElem? mcw_43
  | 44, _ => List.mem_of_getElem? mcw_44
  | 45, _ => List.mem_of_getElem? mcw_45
  | 46, _ => List.mem_of_getElem? mcw_46
  | 47, _ => List.mem_of_getElem? mcw_47
  | 48, _ => List.mem_of_getElem? mcw_48
  | 49, _ => List.mem_of_getElem? mcw_49
  | 50, _ => List.mem_of_getElem? mcw_50
  | 51, _ => List.mem_of_getElem? mcw_51
  | 52, _ => List.mem_of_getElem? mcw_52
  | 53, _ => List.mem_of_getElem? mcw_53
  | 54, _ => List.mem_of_getElem? mcw_54
  | 55, _ => List.mem_of_getElem? mcw_55
  | 56, _ => List.mem_of_getElem? mcw_56
  | 57, _ => List.mem_of_getElem? mcw_57
  | 58, _ => List.mem_of_getElem? mcw_58
  | 59, _ => List.mem_of_getElem? mcw_59
  | 60, _ => List.mem_of_getElem? mcw_60
  | 61, _ => List.mem_of_getElem? mcw_61
  | 62, _ => List.mem_of_getElem? mcw_62
  | 63, _ => List.mem_of_getElem? mcw_63
  | 64, _ => List.mem_of_getElem? mcw_64
  | 65, _ => List.mem_of_getElem? mcw_65
  | 66, _ => List.mem_of_getElem? mcw_66
  | 67, _ => List.mem_of_getElem? mcw_67
  | 68, _ => List.mem_of_getElem? mcw_68
  | 69, _ => List.mem_of_getElem? mcw_69
  | 70, _ => List.mem_of_getElem? mcw_70
  | 71, _ => List.mem_of_getElem? mcw_71
  | 72, _ => List.mem_of_getElem? mcw_72
  | 73, _ => List.mem_of_getElem? mcw_73
  | 74, _ => List.mem_of_getElem? mcw_74
  | 75, _ => List.mem_of_getElem? mcw_75
  | 76, _ => List.mem_of_getElem? mcw_76
  | 77, _ => List.mem_of_getElem? mcw_77
  | 78, _ => List.mem_of_getElem? mcw_78
  | 79, _ => List.mem_of_getElem? mcw_79
  | 80, _ => List.mem_of_getElem? mcw_80
  | 81, _ => List.mem_of_getElem? mcw_81
  | 82, _ => List.mem_of_getElem? mcw_82
  | 83, _ => List.mem_of_getElem? mcw_83
  | 84, _ => List.mem_of_getElem? mcw_84
  | 85, _ => List.mem_of_getElem? mcw_85
  | 86, _ => List.mem_of_getElem? mcw_86
  | 87, _ => List.mem_of_getElem? mcw_87
  | 88, _ => List.mem_of_getElem? mcw_88
  | 89, _ => List.mem_of_getElem? mcw_89
  | 90, _ => List.mem_of_getElem? mcw_90
  | 91, _ => List.mem_of_getElem? mcw_91
  | 92, _ => List.mem_of_getElem? mcw_92
  | 93, _ => List.mem_of_getElem? mcw_93
  | 94, _ => List.mem_of_getElem? mcw_94
  | 95, _ => List.mem_of_getElem? mcw_95
  | 96, _ => List.mem_of_getElem? mcw_96
  | 97, _ => List.mem_of_getElem? mcw_97
  | 98, _ => List.mem_of_getElem? mcw_98
  | 99, _ => List.mem_of_getElem? mcw_99
  | 100, _ => List.mem_of_getElem? mcw_100
  | 101, _ => List.mem_of_getElem? mcw_101
  | 102, _ => List.mem_of_getElem? mcw_102
  | 103, _ => List.mem_of_getElem? mcw_103
  | 104, _ => List.mem_of_getElem? mcw_104
  | 105, _ => List.mem_of_getElem? mcw_105
  | 106, _ => List.mem_of_getElem? mcw_106
  | 107, _ => List.mem_of_getElem? mcw_107
  | 108, _ => List.mem_of_getElem? mcw_108
  | 109, _ => List.mem_of_getElem? mcw_109
  | 110, _ => List.mem_of_getElem? mcw_110
  | 111, _ => List.mem_of_getElem? mcw_111
  | 112, _ => List.mem_of_getElem? mcw_112
  | 113, _ => List.mem_of_getElem? mcw_113
  | 114, _ => List.mem_of_getElem? mcw_114
  | 115, _ => List.mem_of_getElem? mcw_115
  | 116, _ => List.mem_of_getElem? mcw_116
  | 117, _ => List.mem_of_getElem? mcw_117
  | 118, _ => List.mem_of_getElem? mcw_118
  | 119, _ => List.mem_of_getElem? mcw_119
  | 120, _ => List.mem_of_getElem? mcw_120
  | 121, _ => List.mem_of_getElem? mcw_121
  | 122, _ => List.mem_of_getElem? mcw_122
  | 123, _ => List.mem_of_getElem? mcw_123
  | 124, _ => List.mem_of_getElem? mcw_124
  | 125, _ => List.mem_of_getElem? mcw_125
  | 126, _ => List.mem_of_getElem? mcw_126
  | 127, _ => List.mem_of_getElem? mcw_127
  | 128, _ => List.mem_of_getElem? mcw_128
  | 129, _ => List.mem_of_getElem? mcw_129
  | 130, _ => List.mem_of_getElem? mcw_130
  | 131, _ => List.mem_of_getElem? mcw_131
  | 132, _ => List.mem_of_getElem? mcw_132
  | 133, _ => List.mem_of_getElem? mcw_133
  | 134, _ => List.mem_of_getElem? mcw_134
  | 135, _ => List.mem_of_getElem? mcw_135
  | 136, _ => List.mem_of_getElem? mcw_136
  | 137, _ => List.mem_of_getElem? mcw_137
  | 138, _ => List.mem_of_getElem? mcw_138
  | 139, _ => List.mem_of_getElem? mcw_139
  | 140, _ => List.mem_of_getElem? mcw_140
  | 141, _ => List.mem_of_getElem? mcw_141
  | 142, _ => List.mem_of_getElem? mcw_142
  | 143, _ => List.mem_of_getElem? mcw_143
  | 144, _ => List.mem_of_getElem? mcw_144
  | 145, _ => List.mem_of_getElem? mcw_145
  | y + 146, h => absurd h (by omega)
theorem mCw_in {y : Nat} (hy : y < 146) : Cond.code (mName y) (mCode y) (mMaxL y) (mRet y) ∈ mTs := List.mem_filter.mpr ⟨mCw y hy, rfl⟩
theorem mMc_of {y : Nat} (hy : y < 146) : ∃ q, q ∈ mMp ∧ q.1 = y ∧ mMc q = true := by
  have h := List.all_eq_true.mp mMp_at y (List.mem_range.mpr hy)
  simp only [decide_eq_true_eq] at h
  cases hq : mMp[y]? with
  | none => rw [hq] at h; cases h
  | some q =>
    rw [hq] at h
    exact ⟨q, List.mem_of_getElem? hq, Option.some.inj h, mMc_all q (List.mem_of_getElem? hq)⟩
def mMrP : List (Nat × Nat × Nat × Nat × Nat) := [(0, 9, 132, 1, 92), (0, 22, 99, 1, 152), (0, 31, 121, 1, 246), (0, 38, 109, 1, 294), (0, 49, 133, 0, 359), (0, 59, 45, 2, 363), (0, 63, 135, 0, 366), (0, 67, 134, 0, 370), (0, 71, 116, 0, 374), (0, 78, 32, 0, 379), (0, 106, 33, 0, 387), (0, 110, 47, 2, 391), (0, 113, 42, 0, 394), (0, 120, 110, 0, 402), (0, 124, 46, 2, 414), (0, 127, 111, 0, 417), (0, 135, 37, 0, 422), (0, 139, 40, 0, 426), (0, 146, 122, 0, 437), (0, 153, 125, 0, 441), (0, 158, 35, 0, 449), (0, 165, 127, 0, 457), (0, 172, 30, 0, 472), (0, 176, 12, 0, 488), (0, 180, 34, 0, 453), (0, 215, 136, 0, 601), (0, 222, 137, 0, 583), (0, 226, 39, 0, 430), (0, 242, 138, 0, 706), (0, 246, 38, 0, 710), (0, 250, 13, 0, 492), (0, 254, 14, 0, 501), (0, 258, 15, 0, 505), (0, 261, 16, 0, 509), (0, 264, 17, 0, 549), (0, 268, 18, 0, 573), (0, 271, 19, 0, 589), (0, 274, 20, 0, 609), (0, 277, 21, 0, 616), (0, 280, 22, 0, 620), (0, 283, 23, 0, 628), (0, 286, 24, 0, 636), (0, 289, 25, 0, 645), (0, 292, 26, 0, 658), (0, 295, 27, 0, 662), (0, 298, 28, 0, 674), (0, 301, 29, 0, 682), (0, 304, 123, 0, 496), (0, 308, 124, 0, 480), (0, 311, 140, 0, 513), (0, 318, 130, 0, 553), (0, 322, 49, 2, 577), (0, 325, 48, 2, 520), (0, 329, 141, 0, 578), (0, 333, 41, 0, 579), (0, 336, 128, 0, 588), (0, 339, 43, 0, 593), (0, 342, 117, 0, 605), (0, 343, 129, 0, 613), (0, 346, 101, 0, 614), (0, 349, 100, 0, 615), (0, 352, 131, 0, 624), (0, 355, 36, 0, 632), (0, 359, 142, 0, 640), (0, 366, 103, 0, 641), (0, 370, 143, 0, 649), (0, 373, 106, 0, 650), (0, 377, 104, 0, 654), (0, 381, 102, 0, 666), (0, 385, 119, 0, 670), (0, 388, 120, 0, 678), (0, 391, 31, 0, 476), (0, 395, 108, 0, 484), (0, 398, 44, 2, 434), (0, 402, 126, 0, 398), (0, 405, 107, 0, 597), (9, 119, 51, 2, 860), (9, 123, 52, 0, 856), (9, 131, 62, 0, 871), (9, 135, 53, 0, 852), (9, 138, 55, 0, 863), (9, 142, 57, 0, 867), (9, 146, 59, 0, 879), (9, 150, 61, 0, 875), (9, 154, 60, 0, 883), (9, 157, 54, 0, 891), (9, 160, 65, 0, 899), (9, 163, 64, 0, 911), (9, 166, 69, 0, 915), (9, 170, 70, 0, 919), (9, 174, 72, 0, 931), (9, 177, 73, 0, 927), (9, 181, 76, 0, 970), (9, 190, 77, 0, 962), (9, 194, 75, 0, 966), (9, 197, 81, 0, 990), (9, 200, 80, 0, 994), (9, 203, 82, 0, 974), (9, 209, 68, 0, 939), (9, 216, 85, 0, 943), (9, 219, 88, 0, 978), (9, 222, 93, 0, 1014), (9, 225, 86, 0, 947), (9, 228, 87, 0, 951), (9, 231, 78, 2, 955), (9, 234, 79, 0, 958), (9, 237, 89, 0, 982), (9, 240, 83, 0, 986), (9, 243, 90, 0, 998), (9, 246, 91, 0, 1006), (9, 249, 92, 0, 1010), (9, 252, 56, 0, 1002), (9, 258, 94, 0, 1018), (3, 24, 118, 1, 178), (3, 38, 100, 0, 569), (7, 29, 113, 0, 465), (6, 53, 125, 0, 500), (6, 57, 112, 0, 461), (6, 75, 128, 0, 557), (6, 79, 129, 0, 561), (6, 83, 101, 0, 565), (1, 17, 115, 1, 99), (1, 20, 116, 0, 141), (8, 13, 141, 0, 523), (8, 36, 145, 0, 528), (8, 40, 135, 0, 540), (8, 46, 144, 0, 541), (8, 54, 105, 0, 545), (8, 62, 143, 0, 532), (8, 72, 142, 0, 536), (10, 9, 0, 1, 84), (10, 12, 50, 1, 716), (10, 13, 1, 0, 355), (10, 17, 58, 0, 848), (10, 18, 2, 0, 375), (10, 22, 63, 0, 887), (10, 23, 3, 0, 383), (10, 26, 66, 0, 895), (10, 27, 4, 0, 406), (10, 31, 67, 0, 903), (10, 32, 5, 0, 410), (10, 36, 71, 0, 907), (10, 37, 6, 0, 445), (10, 40, 84, 0, 935), (10, 41, 7, 0, 686), (10, 45, 74, 0, 923), (10, 46, 8, 0, 690), (10, 50, 95, 0, 1022), (10, 51, 9, 0, 694), (10, 54, 96, 0, 1026), (10, 55, 10, 0, 698), (10, 58, 97, 0, 1030), (10, 59, 11, 0, 702), (10, 62, 98, 0, 1034)]
def mMrc (q : Nat × Nat × Nat × Nat × Nat) : Bool := Nat.blt q.2.2.1 146 && Nat.beq (mKd q.2.2.1) q.2.2.2.1 && mAtw q.2.2.2.2 (.methodLink (mCn q.1) q.2.1 (mName q.2.2.1))
theorem mMrc_all : mMrP.all mMrc = true := by decide +kernel
theorem mMr_map : mMr = mMrP.map (fun q => (q.1, q.2.1, q.2.2.1, q.2.2.2.1)) := by decide +kernel
theorem mMr_ok {o i y k : Nat} (h : (o, i, y, k) ∈ mMr) : y < 146 ∧ mKd y = k ∧ Cond.methodLink (mCn o) i (mName y) ∈ mTs := by
  rw [mMr_map] at h
  obtain ⟨q, hq, e⟩ := List.mem_map.mp h
  have h1 := List.all_eq_true.mp mMrc_all q hq
  simp only [mMrc, Bool.and_eq_true, Nat.blt_eq, Nat.beq_eq] at h1
  cases e
  exact ⟨h1.1.1, h1.1.2, mAtw_mem h1.2⟩
def mNrP : List (Nat × Nat × Nat × Nat × Nat) := [(0, 41, 139, 1, 314), (3, 21, 114, 1, 159), (7, 25, 47, 2, 421), (1, 40, 44, 2, 587), (8, 9, 49, 2, 517), (8, 32, 48, 2, 527)]
/-- the words of links to a nest mate's private methods: not among mTs, they ride beside -/
def mNw : List Cond := mNr.map (fun q => .methodLinkNest (mCn q.1) q.2.1 (mName q.2.2.1) "CageKernel")
def mNrc (q : Nat × Nat × Nat × Nat × Nat) : Bool := Nat.blt q.2.2.1 146 && Nat.beq (mKd q.2.2.1) q.2.2.2.1 && decide (lw_tbl[q.2.2.2.2]? = some (.methodLinkNest (mCn q.1) q.2.1 (mName q.2.2.1) "CageKernel"))
theorem mNrc_all : mNrP.all mNrc = true := by decide +kernel
theorem mNr_map : mNr = mNrP.map (fun q => (q.1, q.2.1, q.2.2.1, q.2.2.2.1)) := by decide +kernel
theorem mNr_ok {o i y k : Nat} (h : (o, i, y, k) ∈ mNr) : y < 146 ∧ mKd y = k ∧ Cond.methodLinkNest (mCn o) i (mName y) "CageKernel" ∈ lw_tbl := by
  rw [mNr_map] at h
  obtain ⟨q, hq, e⟩ := List.mem_map.mp h
  have h1 := List.all_eq_true.mp mNrc_all q hq
  simp only [mNrc, Bool.and_eq_true, Nat.blt_eq, Nat.beq_eq, decide_eq_true_eq] at h1
  cases e
  exact ⟨h1.1.1, h1.1.2, List.mem_of_getElem? h1.2⟩
def mCrP : List (Nat × Nat × Nat × Nat) := [(0, 7, 1, 90), (0, 16, 3, 149), (0, 25, 6, 243), (0, 32, 7, 292), (0, 39, 8, 312), (3, 15, 4, 156), (3, 22, 5, 176), (6, 22, 7, 250), (1, 9, 2, 96), (10, 7, 0, 82), (10, 10, 9, 714)]
def mCrc (q : Nat × Nat × Nat × Nat) : Bool := Nat.blt q.2.2.1 10 && mAtw q.2.2.2 (.classLink (mCn q.1) q.2.1 (mCn q.2.2.1))
theorem mCrc_all : mCrP.all mCrc = true := by decide +kernel
theorem mCr_map : mCr = mCrP.map (fun q => (q.1, q.2.1, q.2.2.1)) := by decide +kernel
theorem mCr_ok {o i ci : Nat} (h : (o, i, ci) ∈ mCr) : ci < 10 ∧ Cond.classLink (mCn o) i (mCn ci) ∈ mTs := by
  rw [mCr_map] at h
  obtain ⟨q, hq, e⟩ := List.mem_map.mp h
  have h1 := List.all_eq_true.mp mCrc_all q hq
  simp only [mCrc, Bool.and_eq_true, Nat.blt_eq] at h1
  cases e
  exact ⟨h1.1, mAtw_mem h1.2⟩
def mOrP : List (Nat × Nat × Nat) := [(0, 1, 87), (9, 1, 719), (3, 3, 155), (7, 3, 297), (4, 1, 162), (2, 1, 102), (5, 3, 181), (6, 3, 249), (1, 3, 95), (8, 3, 317)]
def mOrc (q : Nat × Nat × Nat) : Bool := mAtw q.2.2 (.methodLink (mCn q.1) q.2.1 objectInit)
theorem mOrc_all : mOrP.all mOrc = true := by decide +kernel
theorem mOr_map : mOr = mOrP.map (fun q => (q.1, q.2.1)) := by decide +kernel
theorem mOr_ok {o i : Nat} (h : (o, i) ∈ mOr) : Cond.methodLink (mCn o) i objectInit ∈ mTs := by
  rw [mOr_map] at h
  obtain ⟨q, hq, e⟩ := List.mem_map.mp h
  have h1 := List.all_eq_true.mp mOrc_all q hq
  cases e
  exact mAtw_mem h1
theorem mO_inst : Cond.instanceMethod objectInit ∈ mTs := mAtw_mem (i := 88) (by decide +kernel)
set_option maxRecDepth 100000 in
theorem mO_code : Cond.code objectInit ⟨#[0xb1]⟩ 1 none ∈ mTs := List.mem_filter.mpr ⟨List.mem_of_getElem? (i := 89) rfl, rfl⟩
theorem mM_link : Cond.methodLink "CageKernel$Task" 61 Lib.Math.min.name ∈ mTs := mAtw_mem (i := 469) (by decide +kernel)
theorem mM_stat : Cond.static Lib.Math.min.name ∈ mTs := mAtw_mem (i := 470) (by decide +kernel)
theorem mM_init : Cond.initialized "java/lang/Math" ∈ mTs := mAtw_mem (i := 81) (by decide +kernel)
set_option maxRecDepth 100000 in
theorem mM_code : Cond.code Lib.Math.min.name Lib.Math.min.code 2 (some .int) ∈ mTs := List.mem_filter.mpr ⟨List.mem_of_getElem? (i := 471) rfl, rfl⟩
theorem mA_int : Cond.arrayClass .int ∈ mTs := mAtw_mem (i := 191) (by decide +kernel)
theorem mA_boolean : Cond.arrayClass .boolean ∈ mTs := mAtw_mem (i := 847) (by decide +kernel)
theorem mK_inst_0 : Cond.instantiable (mCn 0) (mN 0) ∈ mTs := mAtw_mem (i := 83) (by decide +kernel)
theorem mK_init_0 : Cond.initialized (mCn 0) ∈ mTs := mAtw_mem (i := 71) (by decide +kernel)
theorem mK_lay_0 : ∀ w ∈ u_ws (mCn 0) (mT 0) (mN 0), w ∈ mTs := by
  have h : (List.range (mN 0)).all (fun k => mAtw (([336, 338, 340, 342, 344, 346, 348, 350, 352] : List Nat).getD k 0) (u_lay (mCn 0) (mT 0) k)) = true := by decide +kernel
  intro w hw
  obtain ⟨k, hk, rfl⟩ := List.mem_map.mp hw
  exact mAtw_mem (List.all_eq_true.mp h k hk)
theorem mK_nm_0 : ∀ a, a < mN 0 → ∀ b, b < mN 0 → a ≠ b → (mT 0 a).2.1 ≠ (mT 0 b).2.1 := by decide +kernel
theorem mK_ty_0 : ∀ k, k < mN 0 → parseFieldDescriptor (mT 0 k).2.2.1 = some (mTy 0 k) := by decide +kernel
theorem mK_own_0 : ∀ k, k < mN 0 → (mT 0 k).1 = mCn 0 := by decide +kernel
theorem mK_bl_0 : ∀ k, k < mN 0 → defaultValue (mTy 0 k) = vp_V (mBlank 0) k := by decide +kernel
theorem mK_inst_1 : Cond.instantiable (mCn 1) (mN 1) ∈ mTs := mAtw_mem (i := 91) (by decide +kernel)
theorem mK_init_1 : Cond.initialized (mCn 1) ∈ mTs := mAtw_mem (i := 72) (by decide +kernel)
theorem mK_lay_1 : ∀ w ∈ u_ws (mCn 1) (mT 1) (mN 1), w ∈ mTs := by
  have h : (List.range (mN 1)).all (fun k => mAtw (([146] : List Nat).getD k 0) (u_lay (mCn 1) (mT 1) k)) = true := by decide +kernel
  intro w hw
  obtain ⟨k, hk, rfl⟩ := List.mem_map.mp hw
  exact mAtw_mem (List.all_eq_true.mp h k hk)
theorem mK_nm_1 : ∀ a, a < mN 1 → ∀ b, b < mN 1 → a ≠ b → (mT 1 a).2.1 ≠ (mT 1 b).2.1 := by decide +kernel
theorem mK_ty_1 : ∀ k, k < mN 1 → parseFieldDescriptor (mT 1 k).2.2.1 = some (mTy 1 k) := by decide +kernel
theorem mK_own_1 : ∀ k, k < mN 1 → (mT 1 k).1 = mCn 1 := by decide +kernel
theorem mK_bl_1 : ∀ k, k < mN 1 → defaultValue (mTy 1 k) = vp_V (mBlank 1) k := by decide +kernel
theorem mK_inst_2 : Cond.instantiable (mCn 2) (mN 2) ∈ mTs := mAtw_mem (i := 98) (by decide +kernel)
theorem mK_init_2 : Cond.initialized (mCn 2) ∈ mTs := mAtw_mem (i := 73) (by decide +kernel)
theorem mK_lay_2 : ∀ w ∈ u_ws (mCn 2) (mT 2) (mN 2), w ∈ mTs := by
  have h : (List.range (mN 2)).all (fun k => mAtw (([124, 126, 128, 130, 132, 134, 136, 138] : List Nat).getD k 0) (u_lay (mCn 2) (mT 2) k)) = true := by decide +kernel
  intro w hw
  obtain ⟨k, hk, rfl⟩ := List.mem_map.mp hw
  exact mAtw_mem (List.all_eq_true.mp h k hk)
theorem mK_nm_2 : ∀ a, a < mN 2 → ∀ b, b < mN 2 → a ≠ b → (mT 2 a).2.1 ≠ (mT 2 b).2.1 := by decide +kernel
theorem mK_ty_2 : ∀ k, k < mN 2 → parseFieldDescriptor (mT 2 k).2.2.1 = some (mTy 2 k) := by decide +kernel
theorem mK_own_2 : ∀ k, k < mN 2 → (mT 2 k).1 = mCn 2 := by decide +kernel
theorem mK_bl_2 : ∀ k, k < mN 2 → defaultValue (mTy 2 k) = vp_V (mBlank 2) k := by decide +kernel
theorem mK_inst_3 : Cond.instantiable (mCn 3) (mN 3) ∈ mTs := mAtw_mem (i := 151) (by decide +kernel)
theorem mK_init_3 : Cond.initialized (mCn 3) ∈ mTs := mAtw_mem (i := 74) (by decide +kernel)
theorem mK_lay_3 : ∀ w ∈ u_ws (mCn 3) (mT 3) (mN 3), w ∈ mTs := by
  have h : (List.range (mN 3)).all (fun k => mAtw (([216, 218, 220, 222, 224, 226, 228, 230, 232, 234, 236, 238, 240] : List Nat).getD k 0) (u_lay (mCn 3) (mT 3) k)) = true := by decide +kernel
  intro w hw
  obtain ⟨k, hk, rfl⟩ := List.mem_map.mp hw
  exact mAtw_mem (List.all_eq_true.mp h k hk)
theorem mK_nm_3 : ∀ a, a < mN 3 → ∀ b, b < mN 3 → a ≠ b → (mT 3 a).2.1 ≠ (mT 3 b).2.1 := by decide +kernel
theorem mK_ty_3 : ∀ k, k < mN 3 → parseFieldDescriptor (mT 3 k).2.2.1 = some (mTy 3 k) := by decide +kernel
theorem mK_own_3 : ∀ k, k < mN 3 → (mT 3 k).1 = mCn 3 := by decide +kernel
theorem mK_bl_3 : ∀ k, k < mN 3 → defaultValue (mTy 3 k) = vp_V (mBlank 3) k := by decide +kernel
theorem mK_inst_4 : Cond.instantiable (mCn 4) (mN 4) ∈ mTs := mAtw_mem (i := 158) (by decide +kernel)
theorem mK_init_4 : Cond.initialized (mCn 4) ∈ mTs := mAtw_mem (i := 75) (by decide +kernel)
theorem mK_lay_4 : ∀ w ∈ u_ws (mCn 4) (mT 4) (mN 4), w ∈ mTs := by
  have h : (List.range (mN 4)).all (fun k => mAtw (([169, 171, 173] : List Nat).getD k 0) (u_lay (mCn 4) (mT 4) k)) = true := by decide +kernel
  intro w hw
  obtain ⟨k, hk, rfl⟩ := List.mem_map.mp hw
  exact mAtw_mem (List.all_eq_true.mp h k hk)
theorem mK_nm_4 : ∀ a, a < mN 4 → ∀ b, b < mN 4 → a ≠ b → (mT 4 a).2.1 ≠ (mT 4 b).2.1 := by decide +kernel
theorem mK_ty_4 : ∀ k, k < mN 4 → parseFieldDescriptor (mT 4 k).2.2.1 = some (mTy 4 k) := by decide +kernel
theorem mK_own_4 : ∀ k, k < mN 4 → (mT 4 k).1 = mCn 4 := by decide +kernel
theorem mK_bl_4 : ∀ k, k < mN 4 → defaultValue (mTy 4 k) = vp_V (mBlank 4) k := by decide +kernel
theorem mK_inst_5 : Cond.instantiable (mCn 5) (mN 5) ∈ mTs := mAtw_mem (i := 177) (by decide +kernel)
theorem mK_init_5 : Cond.initialized (mCn 5) ∈ mTs := mAtw_mem (i := 76) (by decide +kernel)
theorem mK_lay_5 : ∀ w ∈ u_ws (mCn 5) (mT 5) (mN 5), w ∈ mTs := by
  have h : (List.range (mN 5)).all (fun k => mAtw (([186, 188] : List Nat).getD k 0) (u_lay (mCn 5) (mT 5) k)) = true := by decide +kernel
  intro w hw
  obtain ⟨k, hk, rfl⟩ := List.mem_map.mp hw
  exact mAtw_mem (List.all_eq_true.mp h k hk)
theorem mK_nm_5 : ∀ a, a < mN 5 → ∀ b, b < mN 5 → a ≠ b → (mT 5 a).2.1 ≠ (mT 5 b).2.1 := by decide +kernel
theorem mK_ty_5 : ∀ k, k < mN 5 → parseFieldDescriptor (mT 5 k).2.2.1 = some (mTy 5 k) := by decide +kernel
theorem mK_own_5 : ∀ k, k < mN 5 → (mT 5 k).1 = mCn 5 := by decide +kernel
theorem mK_bl_5 : ∀ k, k < mN 5 → defaultValue (mTy 5 k) = vp_V (mBlank 5) k := by decide +kernel
theorem mK_inst_6 : Cond.instantiable (mCn 6) (mN 6) ∈ mTs := mAtw_mem (i := 245) (by decide +kernel)
theorem mK_init_6 : Cond.initialized (mCn 6) ∈ mTs := mAtw_mem (i := 77) (by decide +kernel)
theorem mK_lay_6 : ∀ w ∈ u_ws (mCn 6) (mT 6) (mN 6), w ∈ mTs := by
  have h : (List.range (mN 6)).all (fun k => mAtw (([271, 273, 275, 277, 279, 281, 283, 285, 287, 289] : List Nat).getD k 0) (u_lay (mCn 6) (mT 6) k)) = true := by decide +kernel
  intro w hw
  obtain ⟨k, hk, rfl⟩ := List.mem_map.mp hw
  exact mAtw_mem (List.all_eq_true.mp h k hk)
theorem mK_nm_6 : ∀ a, a < mN 6 → ∀ b, b < mN 6 → a ≠ b → (mT 6 a).2.1 ≠ (mT 6 b).2.1 := by decide +kernel
theorem mK_ty_6 : ∀ k, k < mN 6 → parseFieldDescriptor (mT 6 k).2.2.1 = some (mTy 6 k) := by decide +kernel
theorem mK_own_6 : ∀ k, k < mN 6 → (mT 6 k).1 = mCn 6 := by decide +kernel
theorem mK_bl_6 : ∀ k, k < mN 6 → defaultValue (mTy 6 k) = vp_V (mBlank 6) k := by decide +kernel
theorem mK_inst_7 : Cond.instantiable (mCn 7) (mN 7) ∈ mTs := mAtw_mem (i := 293) (by decide +kernel)
theorem mK_init_7 : Cond.initialized (mCn 7) ∈ mTs := mAtw_mem (i := 78) (by decide +kernel)
theorem mK_lay_7 : ∀ w ∈ u_ws (mCn 7) (mT 7) (mN 7), w ∈ mTs := by
  have h : (List.range (mN 7)).all (fun k => mAtw (([303, 305, 307, 309] : List Nat).getD k 0) (u_lay (mCn 7) (mT 7) k)) = true := by decide +kernel
  intro w hw
  obtain ⟨k, hk, rfl⟩ := List.mem_map.mp hw
  exact mAtw_mem (List.all_eq_true.mp h k hk)
theorem mK_nm_7 : ∀ a, a < mN 7 → ∀ b, b < mN 7 → a ≠ b → (mT 7 a).2.1 ≠ (mT 7 b).2.1 := by decide +kernel
theorem mK_ty_7 : ∀ k, k < mN 7 → parseFieldDescriptor (mT 7 k).2.2.1 = some (mTy 7 k) := by decide +kernel
theorem mK_own_7 : ∀ k, k < mN 7 → (mT 7 k).1 = mCn 7 := by decide +kernel
theorem mK_bl_7 : ∀ k, k < mN 7 → defaultValue (mTy 7 k) = vp_V (mBlank 7) k := by decide +kernel
theorem mK_inst_8 : Cond.instantiable (mCn 8) (mN 8) ∈ mTs := mAtw_mem (i := 313) (by decide +kernel)
theorem mK_init_8 : Cond.initialized (mCn 8) ∈ mTs := mAtw_mem (i := 79) (by decide +kernel)
theorem mK_lay_8 : ∀ w ∈ u_ws (mCn 8) (mT 8) (mN 8), w ∈ mTs := by
  have h : (List.range (mN 8)).all (fun k => mAtw (([322, 324] : List Nat).getD k 0) (u_lay (mCn 8) (mT 8) k)) = true := by decide +kernel
  intro w hw
  obtain ⟨k, hk, rfl⟩ := List.mem_map.mp hw
  exact mAtw_mem (List.all_eq_true.mp h k hk)
theorem mK_nm_8 : ∀ a, a < mN 8 → ∀ b, b < mN 8 → a ≠ b → (mT 8 a).2.1 ≠ (mT 8 b).2.1 := by decide +kernel
theorem mK_ty_8 : ∀ k, k < mN 8 → parseFieldDescriptor (mT 8 k).2.2.1 = some (mTy 8 k) := by decide +kernel
theorem mK_own_8 : ∀ k, k < mN 8 → (mT 8 k).1 = mCn 8 := by decide +kernel
theorem mK_bl_8 : ∀ k, k < mN 8 → defaultValue (mTy 8 k) = vp_V (mBlank 8) k := by decide +kernel
theorem mK_inst_9 : Cond.instantiable (mCn 9) (mN 9) ∈ mTs := mAtw_mem (i := 715) (by decide +kernel)
theorem mK_init_9 : Cond.initialized (mCn 9) ∈ mTs := mAtw_mem (i := 80) (by decide +kernel)
theorem mK_lay_9 : ∀ w ∈ u_ws (mCn 9) (mT 9) (mN 9), w ∈ mTs := by
  have h : (List.range (mN 9)).all (fun k => mAtw (([762, 764, 766, 768, 770, 772, 774, 776, 778, 780, 782, 784, 786, 788, 790, 792, 794, 796, 798, 800, 802, 804, 806, 808, 810, 812, 814, 816, 818, 820, 822, 824, 826, 828, 830, 832, 834, 836, 838, 840, 842, 844] : List Nat).getD k 0) (u_lay (mCn 9) (mT 9) k)) = true := by decide +kernel
  intro w hw
  obtain ⟨k, hk, rfl⟩ := List.mem_map.mp hw
  exact mAtw_mem (List.all_eq_true.mp h k hk)
theorem mK_nm_9 : ∀ a, a < mN 9 → ∀ b, b < mN 9 → a ≠ b → (mT 9 a).2.1 ≠ (mT 9 b).2.1 := by decide +kernel
theorem mK_ty_9 : ∀ k, k < mN 9 → parseFieldDescriptor (mT 9 k).2.2.1 = some (mTy 9 k) := by decide +kernel
theorem mK_own_9 : ∀ k, k < mN 9 → (mT 9 k).1 = mCn 9 := by decide +kernel
theorem mK_bl_9 : ∀ k, k < mN 9 → defaultValue (mTy 9 k) = vp_V (mBlank 9) k := by decide +kernel
theorem mCl_at : ∀ ci : Nat, ci < 10 → mCl[ci]? = some (mCn ci, mT ci, mN ci)
  | 0, _ => rfl
  | 1, _ => rfl
  | 2, _ => rfl
  | 3, _ => rfl
  | 4, _ => rfl
  | 5, _ => rfl
  | 6, _ => rfl
  | 7, _ => rfl
  | 8, _ => rfl
  | 9, _ => rfl
  | k + 10, h => absurd h (by omega)
theorem mK_inst : ∀ ci : Nat, ci < 10 → Cond.instantiable (mCn ci) (mN ci) ∈ mTs
  | 0, _ => mK_inst_0
  | 1, _ => mK_inst_1
  | 2, _ => mK_inst_2
  | 3, _ => mK_inst_3
  | 4, _ => mK_inst_4
  | 5, _ => mK_inst_5
  | 6, _ => mK_inst_6
  | 7, _ => mK_inst_7
  | 8, _ => mK_inst_8
  | 9, _ => mK_inst_9
  | k + 10, h => absurd h (by omega)
theorem mK_init : ∀ ci : Nat, ci < 10 → Cond.initialized (mCn ci) ∈ mTs
  | 0, _ => mK_init_0
  | 1, _ => mK_init_1
  | 2, _ => mK_init_2
  | 3, _ => mK_init_3
  | 4, _ => mK_init_4
  | 5, _ => mK_init_5
  | 6, _ => mK_init_6
  | 7, _ => mK_init_7
  | 8, _ => mK_init_8
  | 9, _ => mK_init_9
  | k + 10, h => absurd h (by omega)
theorem mK_lay : ∀ ci : Nat, ci < 10 → ∀ w ∈ u_ws (mCn ci) (mT ci) (mN ci), w ∈ mTs
  | 0, _ => mK_lay_0
  | 1, _ => mK_lay_1
  | 2, _ => mK_lay_2
  | 3, _ => mK_lay_3
  | 4, _ => mK_lay_4
  | 5, _ => mK_lay_5
  | 6, _ => mK_lay_6
  | 7, _ => mK_lay_7
  | 8, _ => mK_lay_8
  | 9, _ => mK_lay_9
  | k + 10, h => absurd h (by omega)
theorem mK_nm : ∀ ci : Nat, ci < 10 → ∀ a, a < mN ci → ∀ b, b < mN ci → a ≠ b → (mT ci a).2.1 ≠ (mT ci b).2.1
  | 0, _ => mK_nm_0
  | 1, _ => mK_nm_1
  | 2, _ => mK_nm_2
  | 3, _ => mK_nm_3
  | 4, _ => mK_nm_4
  | 5, _ => mK_nm_5
  | 6, _ => mK_nm_6
  | 7, _ => mK_nm_7
  | 8, _ => mK_nm_8
  | 9, _ => mK_nm_9
  | k + 10, h => absurd h (by omega)
theorem mK_ty : ∀ ci : Nat, ci < 10 → ∀ k, k < mN ci → parseFieldDescriptor (mT ci k).2.2.1 = some (mTy ci k)
  | 0, _ => mK_ty_0
  | 1, _ => mK_ty_1
  | 2, _ => mK_ty_2
  | 3, _ => mK_ty_3
  | 4, _ => mK_ty_4
  | 5, _ => mK_ty_5
  | 6, _ => mK_ty_6
  | 7, _ => mK_ty_7
  | 8, _ => mK_ty_8
  | 9, _ => mK_ty_9
  | k + 10, h => absurd h (by omega)
theorem mK_own : ∀ ci : Nat, ci < 10 → ∀ k, k < mN ci → (mT ci k).1 = mCn ci
  | 0, _ => mK_own_0
  | 1, _ => mK_own_1
  | 2, _ => mK_own_2
  | 3, _ => mK_own_3
  | 4, _ => mK_own_4
  | 5, _ => mK_own_5
  | 6, _ => mK_own_6
  | 7, _ => mK_own_7
  | 8, _ => mK_own_8
  | 9, _ => mK_own_9
  | k + 10, h => absurd h (by omega)
theorem mK_bl : ∀ ci : Nat, ci < 10 → ∀ k, k < mN ci → defaultValue (mTy ci k) = vp_V (mBlank ci) k
  | 0, _ => mK_bl_0
  | 1, _ => mK_bl_1
  | 2, _ => mK_bl_2
  | 3, _ => mK_bl_3
  | 4, _ => mK_bl_4
  | 5, _ => mK_bl_5
  | 6, _ => mK_bl_6
  | 7, _ => mK_bl_7
  | 8, _ => mK_bl_8
  | 9, _ => mK_bl_9
  | k + 10, h => absurd h (by omega)
theorem mK_bn : ∀ ci : Nat, ci < 10 → (mBlank ci).length = mN ci
  | 0, _ => rfl
  | 1, _ => rfl
  | 2, _ => rfl
  | 3, _ => rfl
  | 4, _ => rfl
  | 5, _ => rfl
  | 6, _ => rfl
  | 7, _ => rfl
  | 8, _ => rfl
  | 9, _ => rfl
  | k + 10, h => absurd h (by omega)
theorem mAo_in : ∀ t : Nat, 2 ≤ t → t ≤ 6 → Cond.arrayOver (.object (mCn (mAc t))) ∈ lw_tbl
  | 0, h, _ => absurd h (by omega)
  | 1, h, _ => absurd h (by omega)
  | 2, _, _ => List.mem_of_getElem? (i := 97) (by decide +kernel)
  | 3, _, _ => List.mem_of_getElem? (i := 150) (by decide +kernel)
  | 4, _, _ => List.mem_of_getElem? (i := 157) (by decide +kernel)
  | 5, _, _ => List.mem_of_getElem? (i := 244) (by decide +kernel)
  | 6, _, _ => List.mem_of_getElem? (i := 251) (by decide +kernel)
  | t + 7, _, h => absurd h (by omega)
