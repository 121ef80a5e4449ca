/-! what a program decides of the data -/
def tk_code (q : tkE) : Cond := .code q.1 q.2.1 q.2.2.1 q.2.2.2.1
theorem tk_mem_of {big ws : List Cond} (ps : List Nat) (hp : ws.map some = ps.map (fun i => big[i]?)) : ∀ w ∈ ws, w ∈ big := by
  intro w hw
  have h1 : some w ∈ ps.map (fun i => big[i]?) := by rw [← hp]; exact List.mem_map.mpr ⟨w, hw, rfl⟩
  obtain ⟨i, -, hi⟩ := List.mem_map.mp h1
  exact List.mem_of_getElem? hi
set_option maxRecDepth 100000 in
theorem tk_codes : ∀ w ∈ tk_all.map tk_code, w ∈ lw_tbl := tk_mem_of [243, 406, 464, 473, 480, 509, 485, 490, 520, 524, 528, 364, 446, 398, 494, 268, 324, 540, 312, 424, 428, 432, 436, 300, 532, 506, 502, 498, 292, 288, 235, 259, 284, 308, 320, 332, 276, 264, 271, 296, 651, 251, 662, 764, 772, 747, 671, 705, 678, 666, 686, 691, 756, 696, 700, 739, 710, 714, 723, 728, 777, 419, 412, 442, 439, 409, 449, 455, 452, 348, 394, 340, 344, 356, 368, 376, 379, 387, 372, 383, 247, 549, 627, 635, 643, 565, 553, 558, 570, 585, 589, 597, 604, 608, 616, 611, 619, 573, 231, 255, 280, 304, 316, 328, 336, 352, 360, 402, 459, 469, 516, 536, 545, 623, 631, 639, 647, 658, 682, 734, 743, 751, 760, 768, 786, 239, 906, 910, 918, 935, 903, 921, 927, 914, 939, 931, 943, 947, 951, 955, 959, 975, 971, 983, 979, 967, 990, 963, 1002, 1007, 1011, 998, 994, 1015, 1024, 1028, 1020, 1036, 1032, 1040, 1071, 1083, 1091, 1068, 1079, 1052, 1060, 1064, 1075, 1087, 1095, 1100, 1056, 1048, 1044, 1104, 1108, 1112, 1116, 1124, 1132, 1140, 1136, 1120, 1128, 1144, 1149, 1153, 1157, 1161, 1165, 416, 654] (by rfl)
def tk_w1 (q : tkE) : Cond := if q.2.2.2.2.1 then .static q.1 else .instanceMethod q.1
def tk_w2 (q : tkE) : Cond := if q.2.2.2.2.1 then .static q.1 else .selects q.1.cls q.1 q.1
set_option maxRecDepth 100000 in
theorem tk_w1s : ∀ w ∈ tk_all.map tk_w1, w ∈ lw_tbl := tk_mem_of [241, 404, 462, 471, 479, 508, 484, 489, 518, 523, 527, 362, 444, 396, 492, 266, 322, 538, 310, 422, 426, 430, 434, 298, 530, 504, 500, 496, 290, 286, 233, 257, 282, 306, 318, 330, 275, 263, 270, 295, 649, 249, 660, 762, 770, 745, 669, 703, 676, 664, 684, 690, 754, 694, 699, 737, 709, 713, 722, 727, 775, 418, 411, 441, 438, 408, 448, 454, 451, 346, 392, 338, 342, 354, 366, 375, 378, 386, 371, 382, 245, 547, 625, 633, 641, 564, 552, 557, 569, 584, 588, 596, 603, 607, 615, 610, 618, 572, 229, 253, 278, 302, 314, 326, 334, 350, 358, 400, 457, 467, 514, 534, 543, 621, 629, 637, 645, 656, 680, 732, 741, 749, 758, 766, 784, 238, 905, 909, 917, 934, 901, 920, 926, 912, 938, 929, 941, 945, 949, 953, 957, 974, 970, 982, 978, 966, 989, 961, 1001, 1006, 1010, 997, 992, 1013, 1023, 1027, 1018, 1035, 1030, 1038, 1070, 1082, 1090, 1067, 1078, 1051, 1059, 1063, 1074, 1086, 1094, 1099, 1055, 1047, 1042, 1102, 1106, 1110, 1114, 1123, 1131, 1139, 1135, 1118, 1126, 1142, 1147, 1151, 1155, 1159, 1163, 415, 653] (by decide +kernel)
set_option maxRecDepth 100000 in
theorem tk_w2s : ∀ w ∈ tk_all.map tk_w2, w ∈ lw_tbl := tk_mem_of [242, 405, 463, 472, 8, 508, 484, 489, 519, 9, 10, 363, 445, 397, 493, 267, 323, 539, 311, 423, 427, 431, 435, 299, 531, 505, 501, 497, 291, 287, 234, 258, 283, 307, 319, 331, 2, 1, 270, 3, 650, 250, 661, 763, 771, 746, 670, 704, 677, 665, 685, 20, 755, 695, 21, 738, 22, 23, 24, 25, 776, 418, 411, 441, 438, 408, 448, 454, 451, 347, 393, 339, 343, 355, 367, 5, 378, 7, 4, 6, 246, 548, 626, 634, 642, 564, 11, 12, 13, 14, 15, 16, 17, 18, 19, 610, 618, 572, 230, 254, 279, 303, 315, 327, 335, 351, 359, 401, 458, 468, 515, 535, 544, 622, 630, 638, 646, 657, 681, 733, 742, 750, 759, 767, 785, 0, 905, 26, 27, 29, 902, 920, 28, 913, 30, 930, 942, 946, 950, 954, 958, 33, 32, 35, 34, 31, 36, 962, 38, 39, 40, 37, 993, 1014, 41, 42, 1019, 43, 1031, 1039, 1070, 52, 54, 49, 51, 45, 47, 48, 50, 53, 55, 56, 46, 44, 1043, 1103, 1107, 1111, 1115, 57, 58, 60, 59, 1119, 1127, 1143, 1148, 1152, 1156, 1160, 1164, 415, 653] (by decide +kernel)
set_option maxRecDepth 100000 in
theorem tk_inis : ∀ w ∈ tk_all.map (fun q => Cond.initialized q.1.cls), w ∈ lw_tbl := tk_mem_of [65, 65, 65, 65, 65, 65, 65, 65, 65, 65, 65, 63, 63, 63, 63, 63, 63, 63, 63, 63, 63, 63, 63, 63, 63, 63, 63, 63, 63, 63, 63, 63, 63, 63, 63, 63, 63, 63, 63, 63, 67, 67, 67, 67, 67, 67, 67, 67, 67, 67, 67, 67, 67, 67, 67, 67, 67, 67, 67, 67, 67, 69, 69, 69, 69, 69, 69, 69, 69, 64, 64, 64, 64, 64, 64, 64, 64, 64, 64, 64, 66, 66, 66, 66, 66, 66, 66, 66, 66, 66, 66, 66, 66, 66, 66, 66, 66, 66, 62, 62, 62, 62, 62, 62, 62, 62, 62, 62, 62, 62, 62, 62, 62, 62, 62, 62, 62, 62, 62, 62, 62, 62, 62, 62, 62, 62, 68, 68, 68, 68, 68, 68, 68, 68, 68, 68, 68, 68, 68, 68, 68, 68, 68, 68, 68, 68, 68, 68, 68, 68, 68, 68, 68, 68, 68, 68, 68, 68, 68, 68, 68, 68, 68, 68, 68, 68, 68, 68, 68, 68, 68, 68, 68, 68, 68, 68, 68, 68, 68, 68, 68, 68, 68, 68, 68, 68, 68, 68, 68, 68, 68, 70, 70] (by decide +kernel)
def tk_fw (q : Nat × Nat × Nat) : Cond := .fieldLink (tk_cn q.1) q.2.1 (tk_cn q.1) (tk_T q.1 q.2.2).2.1 (tk_T q.1 q.2.2).2.2.1
set_option maxRecDepth 100000 in
theorem tk_fws : ∀ w ∈ tk_FL.map tk_fw, w ∈ lw_tbl := tk_mem_of [87, 88, 89, 90, 91, 92, 93, 94, 95, 122, 123, 124, 125, 126, 145, 146, 147, 162, 163, 164, 165, 166, 167, 168, 169, 170, 196, 197, 198, 199, 209, 210, 211, 212, 213, 214, 794, 795, 796, 797, 798, 799, 800, 801, 802, 803, 804, 805, 806, 807, 808, 809, 810, 811, 812, 813, 814, 815, 816, 817, 818, 819, 820, 821, 822, 823, 824, 825, 826, 827, 828] (by decide +kernel)
def tk_mw (q : Nat × Nat × Nat) : Cond := match tk_all[q.2.2]? with
  | some e => .methodLink (tk_cn q.1) q.2.1 e.1
  | none => .tt
set_option maxRecDepth 100000 in
theorem tk_mws : ∀ w ∈ tk_ML.map tk_mw, w ∈ lw_tbl := tk_mem_of [232, 236, 240, 244, 248, 256, 261, 265, 269, 273, 281, 285, 289, 293, 297, 305, 309, 317, 321, 329, 337, 341, 345, 353, 361, 365, 369, 373, 377, 380, 384, 388, 389, 390, 391, 395, 403, 407, 410, 414, 417, 420, 421, 425, 429, 433, 437, 440, 443, 447, 450, 453, 460, 461, 465, 470, 474, 475, 476, 477, 481, 482, 483, 486, 487, 488, 491, 495, 499, 503, 507, 510, 511, 512, 517, 521, 525, 529, 537, 541, 546, 550, 554, 555, 560, 561, 562, 563, 566, 567, 571, 580, 581, 582, 586, 590, 594, 598, 599, 600, 601, 605, 609, 613, 617, 624, 632, 640, 648, 652, 659, 663, 667, 668, 672, 673, 674, 675, 683, 687, 688, 692, 693, 697, 701, 702, 706, 707, 711, 715, 720, 724, 725, 730, 736, 744, 752, 753, 761, 769, 773, 774, 778, 779, 780, 781, 782, 787, 904, 907, 915, 919, 924, 932, 936, 964, 968, 972, 976, 980, 984, 985, 986, 987, 995, 999, 1004, 1008, 1016, 1021, 1025, 1033, 1045, 1049, 1053, 1057, 1061, 1065, 1069, 1072, 1076, 1080, 1084, 1088, 1092, 1097, 1121, 1129, 1133, 1137] (by decide +kernel)
set_option maxRecDepth 100000 in
theorem tk_kis : ∀ w ∈ tk_KI.map (fun q => Cond.constant (tk_cn q.1) q.2.1 q.2.2), w ∈ lw_tbl := tk_mem_of [260, 272, 735, 922, 923, 1145] (by decide +kernel)
set_option maxRecDepth 100000 in
theorem tk_kls : ∀ w ∈ tk_KL.map (fun q => Cond.constantLong (tk_cn q.1) q.2.1 q.2.2), w ∈ lw_tbl := tk_mem_of [413, 559, 612, 716, 1003, 1096] (by decide +kernel)
def tk_nn (k : Nat) : MethodName := match k with
  | 1 => arraycopyName
  | 2 => Lib.MathLoose.max_long.x
  | 3 => Lib.MathLoose.min_long.x
  | _ => Lib.Math.min.name
set_option maxRecDepth 100000 in
theorem tk_cps : ∀ w ∈ tk_CP.map (fun q => Cond.methodLink (tk_cn q.1) q.2.1 (tk_nn q.2.2)), w ∈ lw_tbl := tk_mem_of [574, 577, 591, 717, 729] (by decide +kernel)
set_option maxRecDepth 100000 in
theorem tk_cpw : ∀ w ∈ [Cond.native arraycopyName, .static arraycopyName, .initialized "java/lang/System", .static Lib.MathLoose.max_long.x, .static Lib.MathLoose.min_long.x, .static Lib.Math.min.name, .initialized "java/lang/Math"], w ∈ lw_tbl := tk_mem_of [579, 578, 72, 718, 592, 575, 71] (by decide +kernel)
set_option maxRecDepth 100000 in
theorem tk_cpc : ∀ w ∈ [Cond.code Lib.MathLoose.max_long.x Lib.MathLoose.max_long.code 4 (some .long), .code Lib.MathLoose.min_long.x Lib.MathLoose.min_long.code 4 (some .long), .code Lib.Math.min.name Lib.Math.min.code 2 (some .int)], w ∈ lw_tbl := tk_mem_of [719, 593, 576] (by rfl)
set_option maxRecDepth 100000 in
theorem tk_in_0 : ∀ w ∈ u_ws (tk_cn 0) (tk_T 0) 3, w ∈ lw_tbl := tk_mem_of [148, 150, 152] (by decide +kernel)
set_option maxRecDepth 100000 in
theorem tk_in_1 : ∀ w ∈ u_ws (tk_cn 1) (tk_T 1) 9, w ∈ lw_tbl := tk_mem_of [96, 98, 100, 102, 104, 106, 108, 110, 112] (by decide +kernel)
set_option maxRecDepth 100000 in
theorem tk_in_2 : ∀ w ∈ u_ws (tk_cn 2) (tk_T 2) 4, w ∈ lw_tbl := tk_mem_of [200, 202, 204, 206] (by decide +kernel)
set_option maxRecDepth 100000 in
theorem tk_in_3 : ∀ w ∈ u_ws (tk_cn 3) (tk_T 3) 5, w ∈ lw_tbl := tk_mem_of [127, 129, 131, 133, 135] (by decide +kernel)
set_option maxRecDepth 100000 in
theorem tk_in_4 : ∀ w ∈ u_ws (tk_cn 4) (tk_T 4) 9, w ∈ lw_tbl := tk_mem_of [171, 173, 175, 177, 179, 181, 183, 185, 187] (by decide +kernel)
set_option maxRecDepth 100000 in
theorem tk_in_5 : ∀ w ∈ u_ws (tk_cn 5) (tk_T 5) 6, w ∈ lw_tbl := tk_mem_of [215, 217, 219, 221, 223, 225] (by decide +kernel)
set_option maxRecDepth 100000 in
theorem tk_in_6 : ∀ w ∈ u_ws (tk_cn 6) (tk_T 6) 35, w ∈ lw_tbl := tk_mem_of [829, 831, 833, 835, 837, 839, 841, 843, 845, 847, 849, 851, 853, 855, 857, 859, 861, 863, 865, 867, 869, 871, 873, 875, 877, 879, 881, 883, 885, 887, 889, 891, 893, 895, 897] (by decide +kernel)
theorem tk_tyok : ∀ ci, ci < 7 → ∀ k, k < tk_N ci → parseFieldDescriptor (tk_T ci k).2.2.1 = some (tk_ty ci k) := by decide +kernel
theorem tk_nm : ∀ ci, ci < 7 → ∀ a, a < tk_N ci → ∀ b, b < tk_N ci → a ≠ b → (tk_T ci a).2.1 ≠ (tk_T ci b).2.1 := by decide +kernel
theorem tk_clsAt : ∀ ci, ci < 7 → tk_cls[ci]? = some (tk_cn ci, tk_T ci, tk_N ci) := by
  intro ci h
  match ci, h with
  | 0, _ => rfl
  | 1, _ => rfl
  | 2, _ => rfl
  | 3, _ => rfl
  | 4, _ => rfl
  | 5, _ => rfl
  | 6, _ => rfl
