def pzGW : List Cond := lw_tbl.filter goodWord
theorem pz_gw {w : Cond} (h : Nat) (hw : lw_tbl[h]? = some w) (hg : goodWord w = true) : w ∈ pzGW := List.mem_filter.mpr ⟨List.mem_of_getElem? hw, hg⟩
theorem pz_gw_lw {w : Cond} (h : w ∈ pzGW) : w ∈ lw_tbl := (List.mem_filter.mp h).1
theorem pz_gw_good {w : Cond} (h : w ∈ pzGW) : (w.onTables && w.keeps) = true ∨ ∃ ty, w = .arrayClass ty := good_of_word (List.mem_filter.mp h).2
def pz_mt (m : Nat) : MethodName × ByteArray × Nat × Option FieldType × Nat := pzMT.getD m (yL_law, cL_law, 4, some .boolean, 7)
def pz_cn (o : Nat) : String := pzRN.getD o ""
def pz_ty (ci : Nat) : Nat → FieldType := match ci with
  | 0 => tyX0
  | 1 => tyX1
  | 2 => tyX2
  | 3 => tyX3
  | 4 => tyX4
  | 5 => tyX5
  | _ => tyX6
def pzFT : List (List Nat) := [[2, 0], [0, 0, 0, 2, 2, 2, 2, 2, 2, 2], [0, 2, 2, 2], [0, 2, 2, 2, 2], [1, 0, 0, 2], [2, 2, 2, 2, 2, 2, 0, 0], [0, 0, 2, 2, 2, 0, 0, 0, 2, 2, 2, 2, 2, 2, 2, 0, 0, 0, 2, 0, 2, 2, 2, 2, 2, 0, 2, 2, 0, 0, 2, 2, 2, 2]]
def pzLF : List (Nat × Nat × Nat × Nat × Nat) := [(0, 12, 0, 0, 127), (0, 18, 0, 1, 129), (0, 22, 4, 3, 191), (0, 53, 1, 5, 85), (0, 77, 1, 6, 88), (1, 9, 1, 0, 72), (1, 15, 1, 1, 75), (1, 18, 1, 2, 77), (1, 21, 1, 3, 79), (1, 25, 1, 4, 81), (1, 28, 1, 5, 83), (1, 31, 1, 6, 86), (1, 34, 1, 7, 89), (1, 38, 1, 8, 91), (1, 42, 1, 9, 93), (1, 45, 4, 3, 190), (2, 9, 2, 0, 164), (2, 15, 2, 1, 166), (2, 19, 2, 2, 168), (2, 22, 2, 3, 169), (2, 29, 1, 0, 73), (3, 9, 3, 0, 141), (3, 15, 3, 1, 143), (3, 19, 3, 2, 144), (3, 22, 3, 3, 145), (3, 25, 3, 4, 146), (4, 9, 4, 0, 184), (4, 15, 4, 1, 186), (4, 19, 4, 2, 188), (4, 22, 4, 3, 189), (5, 13, 5, 0, 202), (5, 20, 5, 1, 203), (5, 24, 5, 2, 204), (5, 30, 5, 3, 205), (5, 37, 5, 4, 206), (5, 44, 5, 5, 207), (5, 48, 5, 6, 208), (5, 52, 5, 7, 209), (5, 82, 3, 0, 142), (5, 85, 1, 0, 74), (5, 89, 1, 3, 80), (5, 93, 1, 4, 82), (5, 96, 1, 5, 84), (5, 102, 1, 6, 87), (5, 105, 1, 7, 90), (5, 111, 1, 8, 92), (5, 115, 1, 9, 94), (5, 147, 1, 2, 78), (5, 156, 0, 0, 128), (5, 172, 2, 0, 165), (5, 175, 2, 1, 167), (5, 206, 4, 0, 185), (5, 210, 4, 3, 192), (5, 216, 4, 1, 187), (5, 237, 1, 1, 76), (6, 9, 6, 2, 598), (6, 13, 6, 3, 599), (6, 16, 6, 4, 600), (6, 19, 6, 8, 604), (6, 22, 6, 9, 605), (6, 25, 6, 10, 606), (6, 28, 6, 11, 607), (6, 31, 6, 12, 608), (6, 35, 6, 13, 609), (6, 38, 6, 14, 610), (6, 41, 6, 18, 614), (6, 44, 6, 20, 616), (6, 47, 6, 21, 617), (6, 50, 6, 22, 618), (6, 53, 6, 23, 619), (6, 56, 6, 24, 620), (6, 59, 6, 26, 622), (6, 62, 6, 27, 623), (6, 65, 6, 30, 626), (6, 68, 6, 31, 627), (6, 71, 6, 32, 628), (6, 74, 6, 33, 629), (6, 77, 6, 0, 596), (6, 87, 6, 6, 602), (6, 94, 6, 15, 611), (6, 117, 6, 16, 612), (6, 120, 6, 5, 601), (6, 123, 6, 17, 613), (6, 126, 6, 7, 603), (6, 129, 6, 29, 625), (6, 183, 6, 19, 615), (6, 189, 6, 25, 621), (6, 214, 6, 28, 624), (6, 239, 6, 1, 597)]
def pzLG : List (Nat × Nat × Nat × Nat) := [(1, 85, 1, 358), (1, 88, 2, 364)]
def pzLKI : List (Nat × Nat × Int32 × Nat) := [(2, 28, 2147483647, 439), (8, 265, 1431655765, 330), (8, 266, 858993459, 331), (8, 267, 252645135, 332)]
def pzLKL : List (Nat × Nat × Nat × Nat) := [(5, 109, 0, 278), (6, 81, 0, 756), (6, 229, 16, 914)]
def pzLC : List (Nat × Nat × Nat × Nat) := [(0, 9, 1, 125), (5, 11, 4, 64), (5, 17, 1, 66), (5, 27, 0, 119), (5, 34, 3, 135), (5, 41, 2, 158), (7, 7, 5, 56), (7, 10, 6, 590)]
def pzLA : List (Nat × Nat × Nat × Nat) := [(5, 11, 4, 64)]
def pzLO : List (Nat × Nat × Nat) := [(0, 3, 124), (1, 3, 71), (2, 3, 163), (3, 3, 140), (4, 3, 183), (5, 3, 61), (6, 1, 595)]
def pzLMA : List (Nat × Nat × Nat × Nat) := [(1, 58, 997, 300), (1, 66, 995, 304), (1, 104, 996, 427), (5, 249, 997, 517)]
def pzLAC : List (Nat × Nat × Nat) := [(5, 219, 547)]
def pzLV : List (Nat × Nat × Nat × Nat × Nat × Nat × Nat) := [(0, 28, 3, 392, 394, 3, 48), (0, 32, 4, 398, 400, 4, 48), (0, 36, 13, 396, 292, 293, 47), (0, 39, 14, 397, 312, 313, 47), (0, 43, 18, 402, 316, 317, 47), (0, 46, 5, 403, 405, 5, 48), (0, 50, 19, 416, 338, 339, 47), (0, 56, 24, 407, 350, 351, 47), (0, 59, 27, 408, 409, 410, 47), (0, 63, 21, 421, 324, 325, 47), (0, 67, 20, 422, 320, 321, 47), (0, 70, 28, 423, 424, 425, 47), (0, 74, 12, 430, 267, 268, 47), (1, 54, 12, 295, 267, 268, 47), (1, 63, 15, 303, 271, 272, 47), (1, 70, 14, 353, 312, 313, 47), (1, 73, 16, 457, 297, 298, 47), (1, 76, 21, 323, 324, 325, 47), (1, 91, 22, 354, 355, 356, 47), (1, 94, 23, 360, 361, 362, 47), (1, 97, 25, 366, 368, 1, 47), (1, 100, 26, 412, 413, 414, 47), (2, 34, 32, 440, 442, 6, 50), (2, 38, 33, 444, 446, 7, 50), (2, 42, 16, 448, 297, 298, 47), (3, 28, 22, 498, 355, 356, 47), (3, 34, 23, 499, 361, 362, 47), (3, 37, 36, 494, 496, 8, 49), (5, 63, 40, 237, 238, 239, 51), (5, 67, 41, 241, 242, 243, 51), (5, 71, 75, 245, 247, 0, 46), (5, 78, 8, 255, 256, 257, 47), (5, 86, 12, 266, 267, 268, 47), (5, 99, 15, 270, 271, 272, 47), (5, 118, 13, 291, 292, 293, 47), (5, 121, 16, 296, 297, 298, 47), (5, 125, 14, 311, 312, 313, 47), (5, 128, 18, 315, 316, 317, 47), (5, 132, 20, 319, 320, 321, 47), (5, 136, 19, 337, 338, 339, 47), (5, 140, 11, 345, 346, 347, 47), (5, 144, 24, 349, 350, 351, 47), (5, 153, 82, 377, 379, 2, 46), (5, 159, 10, 384, 385, 386, 47), (5, 163, 2, 388, 389, 390, 48), (5, 166, 6, 417, 418, 419, 48), (5, 169, 31, 435, 436, 437, 50), (5, 178, 17, 453, 454, 455, 47), (5, 181, 26, 462, 413, 414, 47), (5, 187, 29, 470, 471, 472, 47), (5, 191, 35, 478, 479, 480, 49), (5, 195, 37, 490, 491, 492, 49), (5, 199, 84, 512, 514, 9, 46), (5, 203, 39, 523, 524, 525, 51), (5, 213, 42, 535, 536, 537, 51), (5, 225, 86, 554, 556, 10, 46), (5, 228, 87, 562, 564, 12, 46), (5, 231, 88, 566, 568, 13, 46), (5, 234, 85, 558, 560, 11, 46), (5, 246, 22, 516, 355, 356, 47), (5, 254, 23, 518, 361, 362, 47), (6, 90, 96, 744, 746, 21, 52), (6, 103, 95, 712, 714, 14, 52), (6, 107, 90, 716, 718, 15, 52), (6, 111, 103, 720, 722, 16, 52), (6, 114, 102, 736, 738, 20, 52), (6, 132, 100, 724, 726, 17, 52), (6, 136, 99, 728, 730, 18, 52), (6, 140, 104, 732, 734, 19, 52), (6, 147, 105, 748, 750, 22, 52), (6, 150, 97, 769, 771, 23, 52), (6, 153, 106, 773, 775, 24, 52), (6, 156, 113, 784, 786, 25, 52), (6, 160, 112, 788, 790, 26, 52), (6, 164, 114, 796, 798, 27, 52), (6, 174, 119, 808, 810, 29, 52), (6, 177, 120, 815, 817, 30, 52), (6, 180, 121, 804, 806, 28, 52), (6, 186, 125, 846, 848, 36, 52), (6, 192, 126, 842, 844, 35, 52), (6, 196, 127, 838, 840, 34, 52), (6, 199, 129, 826, 828, 31, 52), (6, 202, 123, 830, 832, 32, 52), (6, 205, 128, 834, 836, 33, 52), (6, 208, 131, 850, 852, 37, 52), (6, 211, 124, 854, 856, 38, 52), (6, 217, 132, 866, 868, 40, 52), (6, 220, 133, 862, 864, 39, 52), (6, 223, 135, 874, 876, 41, 52), (6, 226, 141, 898, 900, 42, 52), (6, 235, 91, 934, 936, 43, 52), (6, 242, 152, 946, 948, 44, 52), (7, 13, 44, 227, 228, 229, 46), (7, 17, 101, 699, 700, 701, 52), (7, 18, 45, 262, 263, 264, 46), (7, 22, 107, 740, 741, 742, 52), (7, 23, 46, 274, 275, 276, 46), (7, 27, 108, 752, 753, 754, 52), (7, 28, 47, 279, 280, 281, 46), (7, 31, 109, 757, 758, 759, 52), (7, 32, 48, 283, 284, 285, 46), (7, 35, 110, 761, 762, 763, 52), (7, 36, 49, 287, 288, 289, 46), (7, 39, 111, 765, 766, 767, 52), (7, 40, 50, 307, 308, 309, 46), (7, 43, 115, 780, 781, 782, 52), (7, 44, 51, 333, 334, 335, 46), (7, 48, 116, 792, 793, 794, 52), (7, 49, 52, 341, 342, 343, 46), (7, 52, 122, 800, 801, 802, 52), (7, 53, 53, 370, 371, 372, 46), (7, 57, 130, 822, 823, 824, 52), (7, 58, 54, 431, 432, 433, 46), (7, 61, 134, 858, 859, 860, 52), (7, 62, 55, 449, 450, 451, 46), (7, 66, 136, 870, 871, 872, 52), (7, 67, 56, 458, 459, 460, 46), (7, 70, 137, 878, 879, 880, 52), (7, 71, 57, 463, 464, 465, 46), (7, 74, 138, 882, 883, 884, 52), (7, 75, 58, 474, 475, 476, 46), (7, 78, 139, 886, 887, 888, 52), (7, 79, 59, 482, 483, 484, 46), (7, 82, 140, 890, 891, 892, 52), (7, 83, 60, 486, 487, 488, 46), (7, 86, 142, 894, 895, 896, 52), (7, 87, 61, 500, 501, 502, 46), (7, 90, 143, 902, 903, 904, 52), (7, 91, 62, 504, 505, 506, 46), (7, 94, 144, 906, 907, 908, 52), (7, 95, 63, 508, 509, 510, 46), (7, 99, 146, 910, 911, 912, 52), (7, 100, 64, 519, 520, 521, 46), (7, 104, 147, 918, 919, 920, 52), (7, 105, 65, 527, 528, 529, 46), (7, 108, 148, 922, 923, 924, 52), (7, 109, 66, 531, 532, 533, 46), (7, 112, 149, 926, 927, 928, 52), (7, 113, 67, 539, 540, 541, 46), (7, 117, 150, 930, 931, 932, 52), (7, 118, 68, 543, 544, 545, 46), (7, 121, 151, 938, 939, 940, 52), (7, 122, 69, 550, 551, 552, 46), (7, 125, 153, 942, 943, 944, 52), (7, 126, 70, 570, 571, 572, 46), (7, 129, 154, 950, 951, 952, 52), (7, 130, 71, 574, 575, 576, 46), (7, 133, 155, 954, 955, 956, 52), (7, 134, 72, 578, 579, 580, 46), (7, 137, 156, 958, 959, 960, 52), (7, 138, 73, 582, 583, 584, 46), (7, 141, 157, 962, 963, 964, 52), (7, 142, 74, 586, 587, 588, 46), (7, 145, 158, 966, 967, 968, 52)]
def pzLS : List (Nat × Nat × Nat × Nat × Nat × Nat) := [(1, 50, 9, 259, 260, 47), (1, 80, 159, 327, 328, 54), (5, 56, 76, 231, 232, 46), (5, 60, 77, 234, 235, 46), (5, 74, 80, 249, 250, 46), (5, 150, 79, 374, 375, 46), (5, 184, 78, 467, 468, 46), (5, 240, 81, 252, 253, 46), (5, 243, 83, 381, 382, 46), (6, 83, 92, 706, 707, 52), (6, 97, 93, 703, 704, 52), (6, 100, 94, 709, 710, 52), (6, 143, 98, 777, 778, 52), (6, 168, 117, 812, 813, 52), (6, 171, 118, 819, 820, 52), (6, 231, 145, 915, 916, 52)]
def pzLI : List (Nat × Nat × Nat × Nat × Nat × Nat) := [(7, 9, 43, 58, 59, 46), (7, 12, 89, 592, 593, 52)]
def pzLN : List (Nat × Nat × Nat × Nat × Nat × Nat) := [(0, 11, 7, 126, 69, 47), (5, 19, 7, 68, 69, 47), (5, 29, 1, 121, 122, 48), (5, 36, 34, 137, 138, 49), (5, 43, 30, 160, 161, 50), (5, 55, 38, 180, 181, 51)]
def pz_y (k : Nat) : MethodName := (pz_mt k).1
set_option maxRecDepth 100000 in
theorem pz_lf_ok : ∀ q ∈ pzLF, (match vwCl[q.2.2.1]? with | some r => decide (q.2.2.2.1 < r.2.2) && decide (lw_tbl[q.2.2.2.2]? = some (.fieldLink (pz_cn q.1) q.2.1 (r.2.1 q.2.2.2.1).1 (r.2.1 q.2.2.2.1).2.1 (r.2.1 q.2.2.2.1).2.2.1)) | none => false) = true := by decide +kernel
def pz_gn (j : Nat) : String := if j = 1 then "COLUMNS_BY_WILL" else "ROWS_BY_WILL"
theorem pz_lg_ok : ∀ q ∈ pzLG, (q.2.2.1 = 1 ∨ q.2.2.1 = 2) ∧ lw_tbl[q.2.2.2]? = some (.fieldLink (pz_cn q.1) q.2.1 "PantomimeHorses$Duchy" (pz_gn q.2.2.1) "[I") := by decide +kernel
theorem pz_lki_ok : ∀ q ∈ pzLKI, lw_tbl[q.2.2.2]? = some (.constant (pz_cn q.1) q.2.1 q.2.2.1) := by decide +kernel
theorem pz_lkl_ok : ∀ q ∈ pzLKL, lw_tbl[q.2.2.2]? = some (.constantLong (pz_cn q.1) q.2.1 (if q.2.2.1 = 0 then -9223372036854775808 else Int64.ofNat q.2.2.1)) := by decide +kernel
theorem pz_lc_ok : ∀ q ∈ pzLC, (match vwCl[q.2.2.1]? with | some r => decide (lw_tbl[q.2.2.2]? = some (.classLink (pz_cn q.1) q.2.1 r.1)) | none => false) = true := by decide +kernel
theorem pz_la_ok : ∀ q ∈ pzLA, lw_tbl[q.2.2.2]? = some (.classLink (pz_cn q.1) q.2.1 RX4) := by decide +kernel
theorem pz_lo_ok : ∀ q ∈ pzLO, lw_tbl[q.2.2]? = some (.methodLink (pz_cn q.1) q.2.1 objectInit) := by decide +kernel
theorem pz_lac_ok : ∀ q ∈ pzLAC, lw_tbl[q.2.2]? = some (.methodLink (pz_cn q.1) q.2.1 arraycopyName) := by decide +kernel
def pz_mn (k : Nat) : MethodName := if k = 997 then Lib.Math.abs.name else if k = 996 then Lib.MathLoose.abs_long.x else Lib.Math.min.name
theorem pz_lma_ok : ∀ q ∈ pzLMA, (q.2.2.1 = 997 ∨ q.2.2.1 = 996 ∨ q.2.2.1 = 995) ∧ lw_tbl[q.2.2.2]? = some (.methodLink (pz_cn q.1) q.2.1 (pz_mn q.2.2.1)) := by decide +kernel
theorem pz_ms997 : Cond.static Lib.Math.abs.name ∈ pzGW := pz_gw 301 (by decide +kernel) rfl
set_option maxRecDepth 100000 in
theorem pz_mc997 : Cond.code Lib.Math.abs.name Lib.Math.abs.code 1 (some .int) ∈ pzGW := pz_gw 302 (by decide +kernel) rfl
theorem pz_ms996 : Cond.static Lib.MathLoose.abs_long.x ∈ pzGW := pz_gw 428 (by decide +kernel) rfl
set_option maxRecDepth 100000 in
theorem pz_mc996 : Cond.code Lib.MathLoose.abs_long.x Lib.MathLoose.abs_long.code 2 (some .long) ∈ pzGW := pz_gw 429 (by decide +kernel) rfl
theorem pz_ms995 : Cond.static Lib.Math.min.name ∈ pzGW := pz_gw 305 (by decide +kernel) rfl
set_option maxRecDepth 100000 in
theorem pz_mc995 : Cond.code Lib.Math.min.name Lib.Math.min.code 2 (some .int) ∈ pzGW := pz_gw 306 (by decide +kernel) rfl
theorem pz_mi : Cond.initialized "java/lang/Math" ∈ pzGW := pz_gw 53 (by decide +kernel) rfl
theorem pz_si : Cond.initialized "java/lang/System" ∈ pzGW := pz_gw 55 (by decide +kernel) rfl
theorem pz_an : Cond.native arraycopyName ∈ pzGW := pz_gw 549 (by decide +kernel) rfl
theorem pz_at : Cond.static arraycopyName ∈ pzGW := pz_gw 548 (by decide +kernel) rfl
set_option maxRecDepth 100000 in
theorem pz_lv_ok : ∀ q ∈ pzLV, lw_tbl[q.2.2.2.1]? = some (.methodLink (pz_cn q.1) q.2.1 (pz_y q.2.2.1)) ∧ lw_tbl[q.2.2.2.2.1]? = some (.instanceMethod (pz_y q.2.2.1)) ∧ lw_tbl[q.2.2.2.2.2.1]? = some (.selects (pz_y q.2.2.1).cls (pz_y q.2.2.1) (pz_y q.2.2.1)) ∧ lw_tbl[q.2.2.2.2.2.2]? = some (.initialized (pz_y q.2.2.1).cls) := by decide +kernel
set_option maxRecDepth 100000 in
theorem pz_ls_ok : ∀ q ∈ pzLS, lw_tbl[q.2.2.2.1]? = some (.methodLink (pz_cn q.1) q.2.1 (pz_y q.2.2.1)) ∧ lw_tbl[q.2.2.2.2.1]? = some (.static (pz_y q.2.2.1)) ∧ lw_tbl[q.2.2.2.2.2]? = some (.initialized (pz_y q.2.2.1).cls) := by decide +kernel
set_option maxRecDepth 100000 in
theorem pz_li_ok : ∀ q ∈ pzLI, lw_tbl[q.2.2.2.1]? = some (.methodLink (pz_cn q.1) q.2.1 (pz_y q.2.2.1)) ∧ lw_tbl[q.2.2.2.2.1]? = some (.instanceMethod (pz_y q.2.2.1)) ∧ lw_tbl[q.2.2.2.2.2]? = some (.initialized (pz_y q.2.2.1).cls) ∧ (pz_y q.2.2.1).name = "<init>" ∧ (pz_mt q.2.2.1).2.2.2.1 = none := by decide +kernel
set_option maxRecDepth 100000 in
theorem pz_ln_ok : ∀ q ∈ pzLN, lw_tbl[q.2.2.2.1]? = some (.methodLinkNest (pz_cn q.1) q.2.1 (pz_y q.2.2.1) "PantomimeHorses") ∧ lw_tbl[q.2.2.2.2.1]? = some (.instanceMethod (pz_y q.2.2.1)) ∧ lw_tbl[q.2.2.2.2.2]? = some (.initialized (pz_y q.2.2.1).cls) ∧ (pz_y q.2.2.1).name = "<init>" ∧ (pz_mt q.2.2.1).2.2.2.1 = none := by decide +kernel
def pz_cwd (k : Nat) : Cond := .code (pz_mt k).1 (pz_mt k).2.1 (pz_mt k).2.2.1 (pz_mt k).2.2.2.1
def pzCW : List Nat := [0, 123, 391, 395, 401, 406, 420, 70, 258, 261, 387, 348, 269, 294, 314, 273, 299, 456, 318, 340, 322, 326, 357, 363, 352, 369, 415, 411, 426, 473, 162, 438, 443, 447, 139, 481, 497, 493, 182, 526, 240, 244, 538, 60, 230, 265, 277, 282, 286, 290, 310, 336, 344, 373, 434, 452, 461, 466, 477, 485, 489, 503, 507, 511, 522, 530, 534, 542, 546, 553, 573, 577, 581, 585, 589, 248, 233, 236, 469, 376, 251, 254, 380, 383, 515, 561, 557, 565, 569, 594, 719, 937, 708, 705, 711, 715, 747, 772, 779, 731, 727, 702, 739, 723, 735, 751, 776, 743, 755, 760, 764, 768, 791, 787, 799, 783, 795, 814, 821, 811, 818, 807, 803, 833, 857, 849, 845, 841, 837, 829, 825, 853, 869, 865, 861, 877, 873, 881, 885, 889, 893, 901, 897, 905, 909, 917, 913, 921, 925, 929, 933, 941, 949, 945, 953, 957, 961, 965, 969, 329]
set_option maxRecDepth 100000 in
theorem pz_cw1 : lw_tbl[123]? = some (pz_cwd 1) := rfl
set_option maxRecDepth 100000 in
theorem pz_cw2 : lw_tbl[391]? = some (pz_cwd 2) := rfl
set_option maxRecDepth 100000 in
theorem pz_cw3 : lw_tbl[395]? = some (pz_cwd 3) := rfl
set_option maxRecDepth 100000 in
theorem pz_cw4 : lw_tbl[401]? = some (pz_cwd 4) := rfl
set_option maxRecDepth 100000 in
theorem pz_cw5 : lw_tbl[406]? = some (pz_cwd 5) := rfl
set_option maxRecDepth 100000 in
theorem pz_cw6 : lw_tbl[420]? = some (pz_cwd 6) := rfl
set_option maxRecDepth 100000 in
theorem pz_cw7 : lw_tbl[70]? = some (pz_cwd 7) := rfl
set_option maxRecDepth 100000 in
theorem pz_cw8 : lw_tbl[258]? = some (pz_cwd 8) := rfl
set_option maxRecDepth 100000 in
theorem pz_cw9 : lw_tbl[261]? = some (pz_cwd 9) := rfl
set_option maxRecDepth 100000 in
theorem pz_cw10 : lw_tbl[387]? = some (pz_cwd 10) := rfl
set_option maxRecDepth 100000 in
theorem pz_cw11 : lw_tbl[348]? = some (pz_cwd 11) := rfl
set_option maxRecDepth 100000 in
theorem pz_cw12 : lw_tbl[269]? = some (pz_cwd 12) := rfl
set_option maxRecDepth 100000 in
theorem pz_cw13 : lw_tbl[294]? = some (pz_cwd 13) := rfl
set_option maxRecDepth 100000 in
theorem pz_cw14 : lw_tbl[314]? = some (pz_cwd 14) := rfl
set_option maxRecDepth 100000 in
theorem pz_cw15 : lw_tbl[273]? = some (pz_cwd 15) := rfl
set_option maxRecDepth 100000 in
theorem pz_cw16 : lw_tbl[299]? = some (pz_cwd 16) := rfl
set_option maxRecDepth 100000 in
theorem pz_cw17 : lw_tbl[456]? = some (pz_cwd 17) := rfl
set_option maxRecDepth 100000 in
theorem pz_cw18 : lw_tbl[318]? = some (pz_cwd 18) := rfl
set_option maxRecDepth 100000 in
theorem pz_cw19 : lw_tbl[340]? = some (pz_cwd 19) := rfl
set_option maxRecDepth 100000 in
theorem pz_cw20 : lw_tbl[322]? = some (pz_cwd 20) := rfl
set_option maxRecDepth 100000 in
theorem pz_cw21 : lw_tbl[326]? = some (pz_cwd 21) := rfl
set_option maxRecDepth 100000 in
theorem pz_cw22 : lw_tbl[357]? = some (pz_cwd 22) := rfl
set_option maxRecDepth 100000 in
theorem pz_cw23 : lw_tbl[363]? = some (pz_cwd 23) := rfl
set_option maxRecDepth 100000 in
theorem pz_cw24 : lw_tbl[352]? = some (pz_cwd 24) := rfl
set_option maxRecDepth 100000 in
theorem pz_cw25 : lw_tbl[369]? = some (pz_cwd 25) := rfl
set_option maxRecDepth 100000 in
theorem pz_cw26 : lw_tbl[415]? = some (pz_cwd 26) := rfl
set_option maxRecDepth 100000 in
theorem pz_cw27 : lw_tbl[411]? = some (pz_cwd 27) := rfl
set_option maxRecDepth 100000 in
theorem pz_cw28 : lw_tbl[426]? = some (pz_cwd 28) := rfl
set_option maxRecDepth 100000 in
theorem pz_cw29 : lw_tbl[473]? = some (pz_cwd 29) := rfl
set_option maxRecDepth 100000 in
theorem pz_cw30 : lw_tbl[162]? = some (pz_cwd 30) := rfl
set_option maxRecDepth 100000 in
theorem pz_cw31 : lw_tbl[438]? = some (pz_cwd 31) := rfl
set_option maxRecDepth 100000 in
theorem pz_cw32 : lw_tbl[443]? = some (pz_cwd 32) := rfl
set_option maxRecDepth 100000 in
theorem pz_cw33 : lw_tbl[447]? = some (pz_cwd 33) := rfl
set_option maxRecDepth 100000 in
theorem pz_cw34 : lw_tbl[139]? = some (pz_cwd 34) := rfl
set_option maxRecDepth 100000 in
theorem pz_cw35 : lw_tbl[481]? = some (pz_cwd 35) := rfl
set_option maxRecDepth 100000 in
theorem pz_cw36 : lw_tbl[497]? = some (pz_cwd 36) := rfl
set_option maxRecDepth 100000 in
theorem pz_cw37 : lw_tbl[493]? = some (pz_cwd 37) := rfl
set_option maxRecDepth 100000 in
theorem pz_cw38 : lw_tbl[182]? = some (pz_cwd 38) := rfl
set_option maxRecDepth 100000 in
theorem pz_cw39 : lw_tbl[526]? = some (pz_cwd 39) := rfl
set_option maxRecDepth 100000 in
theorem pz_cw40 : lw_tbl[240]? = some (pz_cwd 40) := rfl
set_option maxRecDepth 100000 in
theorem pz_cw41 : lw_tbl[244]? = some (pz_cwd 41) := rfl
set_option maxRecDepth 100000 in
theorem pz_cw42 : lw_tbl[538]? = some (pz_cwd 42) := rfl
set_option maxRecDepth 100000 in
theorem pz_cw43 : lw_tbl[60]? = some (pz_cwd 43) := rfl
set_option maxRecDepth 100000 in
theorem pz_cw44 : lw_tbl[230]? = some (pz_cwd 44) := rfl
set_option maxRecDepth 100000 in
theorem pz_cw45 : lw_tbl[265]? = some (pz_cwd 45) := rfl
set_option maxRecDepth 100000 in
theorem pz_cw46 : lw_tbl[277]? = some (pz_cwd 46) := rfl
set_option maxRecDepth 100000 in
theorem pz_cw47 : lw_tbl[282]? = some (pz_cwd 47) := rfl
set_option maxRecDepth 100000 in
theorem pz_cw48 : lw_tbl[286]? = some (pz_cwd 48) := rfl
set_option maxRecDepth 100000 in
theorem pz_cw49 : lw_tbl[290]? = some (pz_cwd 49) := rfl
set_option maxRecDepth 100000 in
theorem pz_cw50 : lw_tbl[310]? = some (pz_cwd 50) := rfl
set_option maxRecDepth 100000 in
theorem pz_cw51 : lw_tbl[336]? = some (pz_cwd 51) := rfl
set_option maxRecDepth 100000 in
theorem pz_cw52 : lw_tbl[344]? = some (pz_cwd 52) := rfl
set_option maxRecDepth 100000 in
theorem pz_cw53 : lw_tbl[373]? = some (pz_cwd 53) := rfl
set_option maxRecDepth 100000 in
theorem pz_cw54 : lw_tbl[434]? = some (pz_cwd 54) := rfl
set_option maxRecDepth 100000 in
theorem pz_cw55 : lw_tbl[452]? = some (pz_cwd 55) := rfl
set_option maxRecDepth 100000 in
theorem pz_cw56 : lw_tbl[461]? = some (pz_cwd 56) := rfl
set_option maxRecDepth 100000 in
theorem pz_cw57 : lw_tbl[466]? = some (pz_cwd 57) := rfl
set_option maxRecDepth 100000 in
theorem pz_cw58 : lw_tbl[477]? = some (pz_cwd 58) := rfl
set_option maxRecDepth 100000 in
theorem pz_cw59 : lw_tbl[485]? = some (pz_cwd 59) := rfl
set_option maxRecDepth 100000 in
theorem pz_cw60 : lw_tbl[489]? = some (pz_cwd 60) := rfl
set_option maxRecDepth 100000 in
theorem pz_cw61 : lw_tbl[503]? = some (pz_cwd 61) := rfl
set_option maxRecDepth 100000 in
theorem pz_cw62 : lw_tbl[507]? = some (pz_cwd 62) := rfl
set_option maxRecDepth 100000 in
theorem pz_cw63 : lw_tbl[511]? = some (pz_cwd 63) := rfl
set_option maxRecDepth 100000 in
theorem pz_cw64 : lw_tbl[522]? = some (pz_cwd 64) := rfl
set_option maxRecDepth 100000 in
theorem pz_cw65 : lw_tbl[530]? = some (pz_cwd 65) := rfl
set_option maxRecDepth 100000 in
theorem pz_cw66 : lw_tbl[534]? = some (pz_cwd 66) := rfl
set_option maxRecDepth 100000 in
theorem pz_cw67 : lw_tbl[542]? = some (pz_cwd 67) := rfl
set_option maxRecDepth 100000 in
theorem pz_cw68 : lw_tbl[546]? = some (pz_cwd 68) := rfl
set_option maxRecDepth 100000 in
theorem pz_cw69 : lw_tbl[553]? = some (pz_cwd 69) := rfl
set_option maxRecDepth 100000 in
theorem pz_cw70 : lw_tbl[573]? = some (pz_cwd 70) := rfl
set_option maxRecDepth 100000 in
theorem pz_cw71 : lw_tbl[577]? = some (pz_cwd 71) := rfl
set_option maxRecDepth 100000 in
theorem pz_cw72 : lw_tbl[581]? = some (pz_cwd 72) := rfl
set_option maxRecDepth 100000 in
theorem pz_cw73 : lw_tbl[585]? = some (pz_cwd 73) := rfl
set_option maxRecDepth 100000 in
theorem pz_cw74 : lw_tbl[589]? = some (pz_cwd 74) := rfl
set_option maxRecDepth 100000 in
theorem pz_cw75 : lw_tbl[248]? = some (pz_cwd 75) := rfl
set_option maxRecDepth 100000 in
theorem pz_cw76 : lw_tbl[233]? = some (pz_cwd 76) := rfl
set_option maxRecDepth 100000 in
theorem pz_cw77 : lw_tbl[236]? = some (pz_cwd 77) := rfl
set_option maxRecDepth 100000 in
theorem pz_cw78 : lw_tbl[469]? = some (pz_cwd 78) := rfl
set_option maxRecDepth 100000 in
theorem pz_cw79 : lw_tbl[376]? = some (pz_cwd 79) := rfl
set_option maxRecDepth 100000 in
theorem pz_cw80 : lw_tbl[251]? = some (pz_cwd 80) := rfl
set_option maxRecDepth 100000 in
theorem pz_cw81 : lw_tbl[254]? = some (pz_cwd 81) := rfl
set_option maxRecDepth 100000 in
theorem pz_cw82 : lw_tbl[380]? = some (pz_cwd 82) := rfl
set_option maxRecDepth 100000 in
theorem pz_cw83 : lw_tbl[383]? = some (pz_cwd 83) := rfl
set_option maxRecDepth 100000 in
theorem pz_cw84 : lw_tbl[515]? = some (pz_cwd 84) := rfl
set_option maxRecDepth 100000 in
theorem pz_cw85 : lw_tbl[561]? = some (pz_cwd 85) := rfl
set_option maxRecDepth 100000 in
theorem pz_cw86 : lw_tbl[557]? = some (pz_cwd 86) := rfl
set_option maxRecDepth 100000 in
theorem pz_cw87 : lw_tbl[565]? = some (pz_cwd 87) := rfl
set_option maxRecDepth 100000 in
theorem pz_cw88 : lw_tbl[569]? = some (pz_cwd 88) := rfl
set_option maxRecDepth 100000 in
theorem pz_cw89 : lw_tbl[594]? = some (pz_cwd 89) := rfl
set_option maxRecDepth 100000 in
theorem pz_cw90 : lw_tbl[719]? = some (pz_cwd 90) := rfl
set_option maxRecDepth 100000 in
theorem pz_cw91 : lw_tbl[937]? = some (pz_cwd 91) := rfl
set_option maxRecDepth 100000 in
theorem pz_cw92 : lw_tbl[708]? = some (pz_cwd 92) := rfl
set_option maxRecDepth 100000 in
theorem pz_cw93 : lw_tbl[705]? = some (pz_cwd 93) := rfl
set_option maxRecDepth 100000 in
theorem pz_cw94 : lw_tbl[711]? = some (pz_cwd 94) := rfl
set_option maxRecDepth 100000 in
theorem pz_cw95 : lw_tbl[715]? = some (pz_cwd 95) := rfl
set_option maxRecDepth 100000 in
theorem pz_cw96 : lw_tbl[747]? = some (pz_cwd 96) := rfl
set_option maxRecDepth 100000 in
theorem pz_cw97 : lw_tbl[772]? = some (pz_cwd 97) := rfl
set_option maxRecDepth 100000 in
theorem pz_cw98 : lw_tbl[779]? = some (pz_cwd 98) := rfl
set_option maxRecDepth 100000 in
theorem pz_cw99 : lw_tbl[731]? = some (pz_cwd 99) := rfl
set_option maxRecDepth 100000 in
theorem pz_cw100 : lw_tbl[727]? = some (pz_cwd 100) := rfl
set_option maxRecDepth 100000 in
theorem pz_cw101 : lw_tbl[702]? = some (pz_cwd 101) := rfl
set_option maxRecDepth 100000 in
theorem pz_cw102 : lw_tbl[739]? = some (pz_cwd 102) := rfl
set_option maxRecDepth 100000 in
theorem pz_cw103 : lw_tbl[723]? = some (pz_cwd 103) := rfl
set_option maxRecDepth 100000 in
theorem pz_cw104 : lw_tbl[735]? = some (pz_cwd 104) := rfl
set_option maxRecDepth 100000 in
theorem pz_cw105 : lw_tbl[751]? = some (pz_cwd 105) := rfl
set_option maxRecDepth 100000 in
theorem pz_cw106 : lw_tbl[776]? = some (pz_cwd 106) := rfl
set_option maxRecDepth 100000 in
theorem pz_cw107 : lw_tbl[743]? = some (pz_cwd 107) := rfl
set_option maxRecDepth 100000 in
theorem pz_cw108 : lw_tbl[755]? = some (pz_cwd 108) := rfl
set_option maxRecDepth 100000 in
theorem pz_cw109 : lw_tbl[760]? = some (pz_cwd 109) := rfl
set_option maxRecDepth 100000 in
theorem pz_cw110 : lw_tbl[764]? = some (pz_cwd 110) := rfl
set_option maxRecDepth 100000 in
theorem pz_cw111 : lw_tbl[768]? = some (pz_cwd 111) := rfl
set_option maxRecDepth 100000 in
theorem pz_cw112 : lw_tbl[791]? = some (pz_cwd 112) := rfl
set_option maxRecDepth 100000 in
theorem pz_cw113 : lw_tbl[787]? = some (pz_cwd 113) := rfl
set_option maxRecDepth 100000 in
theorem pz_cw114 : lw_tbl[799]? = some (pz_cwd 114) := rfl
set_option maxRecDepth 100000 in
theorem pz_cw115 : lw_tbl[783]? = some (pz_cwd 115) := rfl
set_option maxRecDepth 100000 in
theorem pz_cw116 : lw_tbl[795]? = some (pz_cwd 116) := rfl
set_option maxRecDepth 100000 in
theorem pz_cw117 : lw_tbl[814]? = some (pz_cwd 117) := rfl
set_option maxRecDepth 100000 in
theorem pz_cw118 : lw_tbl[821]? = some (pz_cwd 118) := rfl
set_option maxRecDepth 100000 in
theorem pz_cw119 : lw_tbl[811]? = some (pz_cwd 119) := rfl
set_option maxRecDepth 100000 in
theorem pz_cw120 : lw_tbl[818]? = some (pz_cwd 120) := rfl
set_option maxRecDepth 100000 in
theorem pz_cw121 : lw_tbl[807]? = some (pz_cwd 121) := rfl
set_option maxRecDepth 100000 in
theorem pz_cw122 : lw_tbl[803]? = some (pz_cwd 122) := rfl
set_option maxRecDepth 100000 in
theorem pz_cw123 : lw_tbl[833]? = some (pz_cwd 123) := rfl
set_option maxRecDepth 100000 in
theorem pz_cw124 : lw_tbl[857]? = some (pz_cwd 124) := rfl
set_option maxRecDepth 100000 in
theorem pz_cw125 : lw_tbl[849]? = some (pz_cwd 125) := rfl
set_option maxRecDepth 100000 in
theorem pz_cw126 : lw_tbl[845]? = some (pz_cwd 126) := rfl
set_option maxRecDepth 100000 in
theorem pz_cw127 : lw_tbl[841]? = some (pz_cwd 127) := rfl
set_option maxRecDepth 100000 in
theorem pz_cw128 : lw_tbl[837]? = some (pz_cwd 128) := rfl
set_option maxRecDepth 100000 in
theorem pz_cw129 : lw_tbl[829]? = some (pz_cwd 129) := rfl
set_option maxRecDepth 100000 in
theorem pz_cw130 : lw_tbl[825]? = some (pz_cwd 130) := rfl
set_option maxRecDepth 100000 in
theorem pz_cw131 : lw_tbl[853]? = some (pz_cwd 131) := rfl
set_option maxRecDepth 100000 in
theorem pz_cw132 : lw_tbl[869]? = some (pz_cwd 132) := rfl
set_option maxRecDepth 100000 in
theorem pz_cw133 : lw_tbl[865]? = some (pz_cwd 133) := rfl
set_option maxRecDepth 100000 in
theorem pz_cw134 : lw_tbl[861]? = some (pz_cwd 134) := rfl
set_option maxRecDepth 100000 in
theorem pz_cw135 : lw_tbl[877]? = some (pz_cwd 135) := rfl
set_option maxRecDepth 100000 in
theorem pz_cw136 : lw_tbl[873]? = some (pz_cwd 136) := rfl
set_option maxRecDepth 100000 in
theorem pz_cw137 : lw_tbl[881]? = some (pz_cwd 137) := rfl
set_option maxRecDepth 100000 in
theorem pz_cw138 : lw_tbl[885]? = some (pz_cwd 138) := rfl
set_option maxRecDepth 100000 in
theorem pz_cw139 : lw_tbl[889]? = some (pz_cwd 139) := rfl
set_option maxRecDepth 100000 in
theorem pz_cw140 : lw_tbl[893]? = some (pz_cwd 140) := rfl
set_option maxRecDepth 100000 in
theorem pz_cw141 : lw_tbl[901]? = some (pz_cwd 141) := rfl
set_option maxRecDepth 100000 in
theorem pz_cw142 : lw_tbl[897]? = some (pz_cwd 142) := rfl
set_option maxRecDepth 100000 in
theorem pz_cw143 : lw_tbl[905]? = some (pz_cwd 143) := rfl
set_option maxRecDepth 100000 in
theorem pz_cw144 : lw_tbl[909]? = some (pz_cwd 144) := rfl
set_option maxRecDepth 100000 in
theorem pz_cw145 : lw_tbl[917]? = some (pz_cwd 145) := rfl
set_option maxRecDepth 100000 in
theorem pz_cw146 : lw_tbl[913]? = some (pz_cwd 146) := rfl
set_option maxRecDepth 100000 in
theorem pz_cw147 : lw_tbl[921]? = some (pz_cwd 147) := rfl
set_option maxRecDepth 100000 in
theorem pz_cw148 : lw_tbl[925]? = some (pz_cwd 148) := rfl
set_option maxRecDepth 100000 in
theorem pz_cw149 : lw_tbl[929]? = some (pz_cwd 149) := rfl
set_option maxRecDepth 100000 in
theorem pz_cw150 : lw_tbl[933]? = some (pz_cwd 150) := rfl
set_option maxRecDepth 100000 in
theorem pz_cw151 : lw_tbl[941]? = some (pz_cwd 151) := rfl
set_option maxRecDepth 100000 in
theorem pz_cw152 : lw_tbl[949]? = some (pz_cwd 152) := rfl
set_option maxRecDepth 100000 in
theorem pz_cw153 : lw_tbl[945]? = some (pz_cwd 153) := rfl
set_option maxRecDepth 100000 in
theorem pz_cw154 : lw_tbl[953]? = some (pz_cwd 154) := rfl
set_option maxRecDepth 100000 in
theorem pz_cw155 : lw_tbl[957]? = some (pz_cwd 155) := rfl
set_option maxRecDepth 100000 in
theorem pz_cw156 : lw_tbl[961]? = some (pz_cwd 156) := rfl
set_option maxRecDepth 100000 in
theorem pz_cw157 : lw_tbl[965]? = some (pz_cwd 157) := rfl
set_option maxRecDepth 100000 in
theorem pz_cw158 : lw_tbl[969]? = some (pz_cwd 158) := rfl
set_option maxRecDepth 100000 in
theorem pz_cw159 : lw_tbl[329]? = some (pz_cwd 159) := rfl
theorem pz_oi : Cond.instanceMethod objectInit ∈ pzGW := pz_gw 62 (by decide +kernel) rfl
theorem pz_oc_ : Cond.code objectInit ⟨#[0xb1]⟩ 1 none ∈ pzGW := pz_gw 63 (by decide +kernel) rfl
theorem pz_cw : ∀ k, 0 < k → k < 160 → pz_cwd k ∈ pzGW
  | 0, h, _ => absurd h (by decide)
  | 1, _, _ => pz_gw 123 pz_cw1 rfl
  | 2, _, _ => pz_gw 391 pz_cw2 rfl
  | 3, _, _ => pz_gw 395 pz_cw3 rfl
  | 4, _, _ => pz_gw 401 pz_cw4 rfl
  | 5, _, _ => pz_gw 406 pz_cw5 rfl
  | 6, _, _ => pz_gw 420 pz_cw6 rfl
  | 7, _, _ => pz_gw 70 pz_cw7 rfl
  | 8, _, _ => pz_gw 258 pz_cw8 rfl
  | 9, _, _ => pz_gw 261 pz_cw9 rfl
  | 10, _, _ => pz_gw 387 pz_cw10 rfl
  | 11, _, _ => pz_gw 348 pz_cw11 rfl
  | 12, _, _ => pz_gw 269 pz_cw12 rfl
  | 13, _, _ => pz_gw 294 pz_cw13 rfl
  | 14, _, _ => pz_gw 314 pz_cw14 rfl
  | 15, _, _ => pz_gw 273 pz_cw15 rfl
  | 16, _, _ => pz_gw 299 pz_cw16 rfl
  | 17, _, _ => pz_gw 456 pz_cw17 rfl
  | 18, _, _ => pz_gw 318 pz_cw18 rfl
  | 19, _, _ => pz_gw 340 pz_cw19 rfl
  | 20, _, _ => pz_gw 322 pz_cw20 rfl
  | 21, _, _ => pz_gw 326 pz_cw21 rfl
  | 22, _, _ => pz_gw 357 pz_cw22 rfl
  | 23, _, _ => pz_gw 363 pz_cw23 rfl
  | 24, _, _ => pz_gw 352 pz_cw24 rfl
  | 25, _, _ => pz_gw 369 pz_cw25 rfl
  | 26, _, _ => pz_gw 415 pz_cw26 rfl
  | 27, _, _ => pz_gw 411 pz_cw27 rfl
  | 28, _, _ => pz_gw 426 pz_cw28 rfl
  | 29, _, _ => pz_gw 473 pz_cw29 rfl
  | 30, _, _ => pz_gw 162 pz_cw30 rfl
  | 31, _, _ => pz_gw 438 pz_cw31 rfl
  | 32, _, _ => pz_gw 443 pz_cw32 rfl
  | 33, _, _ => pz_gw 447 pz_cw33 rfl
  | 34, _, _ => pz_gw 139 pz_cw34 rfl
  | 35, _, _ => pz_gw 481 pz_cw35 rfl
  | 36, _, _ => pz_gw 497 pz_cw36 rfl
  | 37, _, _ => pz_gw 493 pz_cw37 rfl
  | 38, _, _ => pz_gw 182 pz_cw38 rfl
  | 39, _, _ => pz_gw 526 pz_cw39 rfl
  | 40, _, _ => pz_gw 240 pz_cw40 rfl
  | 41, _, _ => pz_gw 244 pz_cw41 rfl
  | 42, _, _ => pz_gw 538 pz_cw42 rfl
  | 43, _, _ => pz_gw 60 pz_cw43 rfl
  | 44, _, _ => pz_gw 230 pz_cw44 rfl
  | 45, _, _ => pz_gw 265 pz_cw45 rfl
  | 46, _, _ => pz_gw 277 pz_cw46 rfl
  | 47, _, _ => pz_gw 282 pz_cw47 rfl
  | 48, _, _ => pz_gw 286 pz_cw48 rfl
  | 49, _, _ => pz_gw 290 pz_cw49 rfl
  | 50, _, _ => pz_gw 310 pz_cw50 rfl
  | 51, _, _ => pz_gw 336 pz_cw51 rfl
  | 52, _, _ => pz_gw 344 pz_cw52 rfl
  | 53, _, _ => pz_gw 373 pz_cw53 rfl
  | 54, _, _ => pz_gw 434 pz_cw54 rfl
  | 55, _, _ => pz_gw 452 pz_cw55 rfl
  | 56, _, _ => pz_gw 461 pz_cw56 rfl
  | 57, _, _ => pz_gw 466 pz_cw57 rfl
  | 58, _, _ => pz_gw 477 pz_cw58 rfl
  | 59, _, _ => pz_gw 485 pz_cw59 rfl
  | 60, _, _ => pz_gw 489 pz_cw60 rfl
  | 61, _, _ => pz_gw 503 pz_cw61 rfl
  | 62, _, _ => pz_gw 507 pz_cw62 rfl
  | 63, _, _ => pz_gw 511 pz_cw63 rfl
  | 64, _, _ => pz_gw 522 pz_cw64 rfl
  | 65, _, _ => pz_gw 530 pz_cw65 rfl
  | 66, _, _ => pz_gw 534 pz_cw66 rfl
  | 67, _, _ => pz_gw 542 pz_cw67 rfl
  | 68, _, _ => pz_gw 546 pz_cw68 rfl
  | 69, _, _ => pz_gw 553 pz_cw69 rfl
  | 70, _, _ => pz_gw 573 pz_cw70 rfl
  | 71, _, _ => pz_gw 577 pz_cw71 rfl
  | 72, _, _ => pz_gw 581 pz_cw72 rfl
  | 73, _, _ => pz_gw 585 pz_cw73 rfl
  | 74, _, _ => pz_gw 589 pz_cw74 rfl
  | 75, _, _ => pz_gw 248 pz_cw75 rfl
  | 76, _, _ => pz_gw 233 pz_cw76 rfl
  | 77, _, _ => pz_gw 236 pz_cw77 rfl
  | 78, _, _ => pz_gw 469 pz_cw78 rfl
  | 79, _, _ => pz_gw 376 pz_cw79 rfl
  | 80, _, _ => pz_gw 251 pz_cw80 rfl
  | 81, _, _ => pz_gw 254 pz_cw81 rfl
  | 82, _, _ => pz_gw 380 pz_cw82 rfl
  | 83, _, _ => pz_gw 383 pz_cw83 rfl
  | 84, _, _ => pz_gw 515 pz_cw84 rfl
  | 85, _, _ => pz_gw 561 pz_cw85 rfl
  | 86, _, _ => pz_gw 557 pz_cw86 rfl
  | 87, _, _ => pz_gw 565 pz_cw87 rfl
  | 88, _, _ => pz_gw 569 pz_cw88 rfl
  | 89, _, _ => pz_gw 594 pz_cw89 rfl
  | 90, _, _ => pz_gw 719 pz_cw90 rfl
  | 91, _, _ => pz_gw 937 pz_cw91 rfl
  | 92, _, _ => pz_gw 708 pz_cw92 rfl
  | 93, _, _ => pz_gw 705 pz_cw93 rfl
  | 94, _, _ => pz_gw 711 pz_cw94 rfl
  | 95, _, _ => pz_gw 715 pz_cw95 rfl
  | 96, _, _ => pz_gw 747 pz_cw96 rfl
  | 97, _, _ => pz_gw 772 pz_cw97 rfl
  | 98, _, _ => pz_gw 779 pz_cw98 rfl
  | 99, _, _ => pz_gw 731 pz_cw99 rfl
  | 100, _, _ => pz_gw 727 pz_cw100 rfl
  | 101, _, _ => pz_gw 702 pz_cw101 rfl
  | 102, _, _ => pz_gw 739 pz_cw102 rfl
  | 103, _, _ => pz_gw 723 pz_cw103 rfl
  | 104, _, _ => pz_gw 735 pz_cw104 rfl
  | 105, _, _ => pz_gw 751 pz_cw105 rfl
  | 106, _, _ => pz_gw 776 pz_cw106 rfl
  | 107, _, _ => pz_gw 743 pz_cw107 rfl
  | 108, _, _ => pz_gw 755 pz_cw108 rfl
  | 109, _, _ => pz_gw 760 pz_cw109 rfl
  | 110, _, _ => pz_gw 764 pz_cw110 rfl
  | 111, _, _ => pz_gw 768 pz_cw111 rfl
  | 112, _, _ => pz_gw 791 pz_cw112 rfl
  | 113, _, _ => pz_gw 787 pz_cw113 rfl
  | 114, _, _ => pz_gw 799 pz_cw114 rfl
  | 115, _, _ => pz_gw 783 pz_cw115 rfl
  | 116, _, _ => pz_gw 795 pz_cw116 rfl
  | 117, _, _ => pz_gw 814 pz_cw117 rfl
  | 118, _, _ => pz_gw 821 pz_cw118 rfl
  | 119, _, _ => pz_gw 811 pz_cw119 rfl
  | 120, _, _ => pz_gw 818 pz_cw120 rfl
  | 121, _, _ => pz_gw 807 pz_cw121 rfl
  | 122, _, _ => pz_gw 803 pz_cw122 rfl
  | 123, _, _ => pz_gw 833 pz_cw123 rfl
  | 124, _, _ => pz_gw 857 pz_cw124 rfl
  | 125, _, _ => pz_gw 849 pz_cw125 rfl
  | 126, _, _ => pz_gw 845 pz_cw126 rfl
  | 127, _, _ => pz_gw 841 pz_cw127 rfl
  | 128, _, _ => pz_gw 837 pz_cw128 rfl
  | 129, _, _ => pz_gw 829 pz_cw129 rfl
  | 130, _, _ => pz_gw 825 pz_cw130 rfl
  | 131, _, _ => pz_gw 853 pz_cw131 rfl
  | 132, _, _ => pz_gw 869 pz_cw132 rfl
  | 133, _, _ => pz_gw 865 pz_cw133 rfl
  | 134, _, _ => pz_gw 861 pz_cw134 rfl
  | 135, _, _ => pz_gw 877 pz_cw135 rfl
  | 136, _, _ => pz_gw 873 pz_cw136 rfl
  | 137, _, _ => pz_gw 881 pz_cw137 rfl
  | 138, _, _ => pz_gw 885 pz_cw138 rfl
  | 139, _, _ => pz_gw 889 pz_cw139 rfl
  | 140, _, _ => pz_gw 893 pz_cw140 rfl
  | 141, _, _ => pz_gw 901 pz_cw141 rfl
  | 142, _, _ => pz_gw 897 pz_cw142 rfl
  | 143, _, _ => pz_gw 905 pz_cw143 rfl
  | 144, _, _ => pz_gw 909 pz_cw144 rfl
  | 145, _, _ => pz_gw 917 pz_cw145 rfl
  | 146, _, _ => pz_gw 913 pz_cw146 rfl
  | 147, _, _ => pz_gw 921 pz_cw147 rfl
  | 148, _, _ => pz_gw 925 pz_cw148 rfl
  | 149, _, _ => pz_gw 929 pz_cw149 rfl
  | 150, _, _ => pz_gw 933 pz_cw150 rfl
  | 151, _, _ => pz_gw 941 pz_cw151 rfl
  | 152, _, _ => pz_gw 949 pz_cw152 rfl
  | 153, _, _ => pz_gw 945 pz_cw153 rfl
  | 154, _, _ => pz_gw 953 pz_cw154 rfl
  | 155, _, _ => pz_gw 957 pz_cw155 rfl
  | 156, _, _ => pz_gw 961 pz_cw156 rfl
  | 157, _, _ => pz_gw 965 pz_cw157 rfl
  | 158, _, _ => pz_gw 969 pz_cw158 rfl
  | 159, _, _ => pz_gw 329 pz_cw159 rfl
  | n + 160, _, h => absurd h (by omega)
def pzNM : Nat := 160
theorem pz_mt_ok : ∀ k, k < 160 → plainName (pz_y k).cls = true ∧ (pz_y k).cls ≠ "java/lang/invoke/MethodHandle" ∧ (pz_y k).cls ≠ "java/lang/invoke/VarHandle" ∧ pz_cn (pz_mt k).2.2.2.2 = (pz_y k).cls := by decide +kernel
