/-! ===== what the tables say of links, fields and methods ===== -/
def ni_TB : List Cond := lw_tbl.filter goodWord
theorem ni_TB_mem {w : Cond} {i : Nat} (h : lw_tbl[i]? = some w) (g : goodWord w = true) : w ∈ ni_TB := List.mem_filter.mpr ⟨List.mem_of_getElem? h, g⟩
def ni_cn (i : Nat) : String := (bif Nat.blt i 7 then (bif Nat.blt i 3 then (bif Nat.blt i 1 then "FiveStones$Acts" else (bif Nat.blt i 2 then "FiveStones$Hand" else "FiveStones$Mind")) else (bif Nat.blt i 5 then (bif Nat.blt i 4 then "FiveStones$Reader" else "FiveStones$Shelf") else (bif Nat.blt i 6 then "FiveStones$Table" else "FiveStones"))) else (bif Nat.blt i 10 then (bif Nat.blt i 8 then "FiveStonesModel" else (bif Nat.blt i 9 then "FiveStonesLaw" else "java/lang/Integer")) else (bif Nat.blt i 12 then (bif Nat.blt i 11 then "java/lang/String" else "java/lang/StringLatin1") else (bif Nat.blt i 13 then "jdk/internal/util/Preconditions" else "java/util/Arrays"))))
def ni_fl : List (Nat × Nat × Nat × Nat × Nat) := [(1, 27, 1, 0, 106), (0, 42, 1, 0, 107), (1, 9, 1, 1, 108), (0, 19, 1, 1, 109), (6, 133, 1, 1, 110), (1, 15, 1, 2, 111), (0, 45, 1, 2, 112), (6, 136, 1, 2, 113), (1, 18, 1, 3, 114), (3, 82, 1, 3, 115), (6, 139, 1, 3, 116), (1, 21, 1, 4, 117), (6, 142, 1, 4, 118), (1, 24, 1, 5, 119), (5, 61, 1, 5, 120), (6, 145, 1, 5, 121), (5, 9, 5, 0, 136), (2, 47, 5, 0, 137), (3, 71, 5, 0, 138), (6, 161, 5, 0, 139), (5, 17, 5, 1, 140), (6, 224, 5, 1, 141), (5, 21, 5, 2, 142), (3, 75, 5, 2, 143), (6, 218, 5, 2, 144), (5, 25, 5, 3, 145), (3, 87, 5, 3, 146), (6, 168, 5, 3, 147), (5, 28, 5, 4, 148), (6, 272, 5, 4, 149), (5, 31, 5, 5, 150), (6, 278, 5, 5, 151), (2, 9, 2, 0, 171), (6, 188, 2, 0, 172), (2, 15, 2, 1, 173), (6, 212, 2, 1, 174), (2, 18, 2, 2, 175), (6, 215, 2, 2, 176), (2, 21, 2, 3, 177), (2, 24, 2, 4, 178), (2, 27, 2, 5, 179), (6, 194, 2, 5, 180), (2, 31, 2, 6, 181), (6, 262, 2, 6, 182), (0, 11, 0, 0, 204), (0, 15, 0, 1, 205), (6, 293, 0, 1, 206), (3, 9, 3, 0, 218), (6, 179, 3, 0, 219), (3, 15, 3, 1, 220), (3, 18, 3, 2, 221), (4, 9, 4, 0, 234), (6, 93, 4, 0, 235), (4, 15, 4, 1, 236), (6, 103, 4, 1, 237), (4, 19, 4, 2, 238), (6, 110, 4, 2, 239), (4, 22, 4, 3, 240), (6, 113, 4, 3, 241), (4, 25, 4, 4, 242), (3, 25, 4, 4, 243), (6, 78, 4, 4, 244), (6, 11, 6, 0, 257), (6, 18, 6, 1, 258), (6, 22, 6, 2, 259), (6, 25, 6, 3, 260), (6, 31, 6, 4, 261), (6, 38, 6, 5, 262), (6, 45, 6, 6, 263), (6, 49, 6, 7, 264), (6, 53, 6, 8, 265), (6, 57, 6, 9, 266), (7, 72, 7, 0, 843), (7, 112, 7, 1, 844), (7, 154, 7, 2, 845), (7, 7, 7, 3, 846), (7, 13, 7, 4, 847), (7, 16, 7, 5, 848), (7, 20, 7, 6, 849), (7, 23, 7, 7, 850), (7, 26, 7, 8, 851), (7, 29, 7, 9, 852), (7, 32, 7, 10, 853), (7, 35, 7, 11, 854), (7, 38, 7, 12, 855), (7, 41, 7, 13, 856), (7, 44, 7, 14, 857), (7, 47, 7, 15, 858), (7, 50, 7, 16, 859), (7, 54, 7, 17, 860), (7, 57, 7, 18, 861), (7, 60, 7, 19, 862), (7, 124, 7, 20, 863), (7, 118, 7, 21, 864), (7, 121, 7, 22, 865), (7, 127, 7, 23, 866), (7, 115, 7, 24, 867), (7, 63, 7, 25, 868), (7, 66, 7, 26, 869), (7, 179, 7, 27, 870), (7, 196, 7, 28, 871), (7, 211, 7, 29, 872), (7, 69, 7, 30, 873), (7, 230, 7, 31, 874), (7, 246, 7, 32, 875)]
def ni_flc (e : Nat × Nat × Nat × Nat × Nat) : Bool := match vwCl[e.2.2.1]? with
  | some (C, T, N) => Nat.ble (e.2.2.2.1 + 1) N && decide (lw_tbl[e.2.2.2.2]? = some (Cond.fieldLink (ni_cn e.1) e.2.1 C (T e.2.2.2.1).2.1 (T e.2.2.2.1).2.2.1)) && decide ((T e.2.2.2.1).1 = C)
  | none => false
set_option maxRecDepth 100000 in
theorem ni_fl_ok : ni_fl.all ni_flc = true := by decide +kernel
def ni_ml : List (Nat × Nat × Nat × Nat) := [(8, 9, 66, 82), (6, 17, 46, 92), (5, 34, 209, 98), (5, 40, 6, 102), (8, 13, 67, 288), (6, 62, 107, 292), (6, 66, 105, 296), (6, 70, 42, 300), (4, 28, 208, 304), (8, 20, 68, 307), (6, 74, 111, 311), (6, 81, 43, 314), (8, 25, 69, 318), (6, 85, 112, 322), (6, 89, 45, 325), (8, 30, 70, 332), (8, 35, 71, 336), (6, 106, 48, 340), (8, 40, 72, 344), (8, 45, 73, 348), (6, 116, 9, 352), (6, 122, 13, 358), (1, 34, 12, 362), (1, 38, 10, 366), (1, 42, 11, 370), (8, 49, 74, 374), (6, 125, 49, 378), (6, 129, 50, 382), (5, 53, 49, 386), (5, 57, 7, 387), (8, 53, 75, 391), (6, 148, 11, 395), (6, 152, 12, 396), (8, 57, 76, 397), (6, 155, 106, 401), (6, 158, 55, 405), (8, 61, 77, 409), (8, 65, 78, 413), (6, 164, 110, 417), (6, 221, 108, 420), (8, 69, 79, 423), (8, 73, 80, 427), (6, 171, 47, 431), (5, 49, 8, 436), (6, 175, 28, 440), (3, 21, 29, 444), (3, 34, 35, 448), (3, 90, 37, 452), (3, 94, 36, 460), (3, 98, 201, 464), (10, 335, 203, 468), (3, 108, 44, 474), (3, 112, 202, 478), (10, 492, 204, 482), (10, 495, 206, 486), (11, 9, 205, 489), (10, 1059, 207, 494), (3, 38, 49, 519), (3, 44, 30, 520), (3, 59, 38, 524), (3, 30, 39, 528), (3, 126, 40, 532), (3, 63, 50, 535), (3, 47, 31, 536), (3, 67, 55, 540), (3, 50, 32, 541), (3, 53, 33, 545), (3, 78, 48, 549), (3, 56, 34, 550), (8, 77, 81, 555), (8, 82, 82, 559), (6, 182, 54, 563), (5, 64, 53, 567), (6, 185, 16, 574), (2, 34, 53, 578), (2, 40, 58, 579), (2, 50, 17, 590), (2, 57, 18, 595), (8, 86, 83, 603), (6, 191, 109, 607), (6, 197, 19, 610), (2, 70, 10, 614), (2, 76, 200, 615), (2, 79, 12, 621), (2, 82, 20, 622), (2, 85, 11, 626), (8, 90, 84, 628), (6, 201, 21, 632), (2, 91, 19, 636), (6, 205, 22, 637), (8, 94, 85, 641), (6, 208, 23, 645), (2, 96, 24, 650), (2, 100, 25, 654), (2, 104, 22, 657), (8, 98, 86, 658), (8, 102, 87, 662), (8, 106, 88, 666), (8, 110, 89, 670), (8, 114, 90, 675), (6, 233, 113, 679), (6, 237, 44, 683), (6, 240, 51, 685), (8, 118, 91, 689), (8, 122, 92, 693), (8, 127, 93, 698), (6, 246, 56, 702), (6, 249, 57, 707), (5, 81, 58, 711), (6, 252, 59, 712), (5, 84, 60, 716), (8, 131, 94, 721), (6, 255, 114, 725), (6, 259, 26, 728), (2, 108, 44, 732), (8, 135, 95, 734), (8, 139, 96, 738), (6, 265, 115, 742), (6, 296, 61, 746), (6, 299, 62, 751), (6, 287, 53, 755), (6, 303, 14, 756), (6, 306, 63, 760), (5, 92, 51, 764), (8, 143, 97, 765), (6, 269, 64, 769), (5, 95, 61, 773), (5, 98, 65, 774), (5, 101, 55, 778), (8, 147, 98, 779), (6, 275, 116, 783), (8, 151, 99, 787), (8, 155, 100, 791), (6, 281, 1, 795), (0, 24, 3, 799), (0, 28, 4, 803), (0, 35, 5, 809), (8, 159, 101, 813), (6, 284, 2, 817), (8, 163, 102, 821), (8, 167, 103, 825), (8, 171, 104, 829), (6, 290, 52, 833), (8, 12, 119, 839), (8, 17, 125, 943), (7, 75, 122, 947), (7, 79, 120, 951), (8, 24, 126, 955), (8, 29, 127, 959), (8, 34, 128, 963), (8, 39, 129, 967), (7, 83, 123, 971), (8, 44, 130, 975), (8, 48, 131, 979), (7, 86, 162, 983), (7, 89, 160, 987), (7, 93, 161, 991), (8, 52, 136, 995), (7, 99, 135, 999), (8, 56, 137, 1003), (8, 60, 139, 1007), (7, 102, 124, 1011), (7, 105, 121, 1015), (7, 108, 138, 1019), (8, 64, 140, 1023), (8, 68, 141, 1027), (8, 72, 142, 1031), (8, 76, 154, 1035), (7, 96, 132, 1039), (7, 157, 153, 1043), (7, 150, 152, 1047), (7, 161, 151, 1051), (7, 137, 146, 1055), (7, 134, 145, 1059), (7, 140, 147, 1063), (7, 144, 149, 1067), (7, 130, 148, 1071), (7, 147, 150, 1075), (8, 81, 155, 1079), (8, 85, 159, 1083), (7, 173, 158, 1087), (7, 170, 143, 1091), (7, 167, 157, 1095), (7, 164, 156, 1099), (8, 89, 164, 1103), (7, 182, 163, 1107), (7, 176, 144, 1111), (8, 93, 166, 1115), (7, 186, 165, 1119), (8, 97, 170, 1123), (7, 199, 169, 1127), (7, 202, 168, 1131), (7, 190, 167, 1135), (8, 101, 171, 1141), (8, 105, 172, 1145), (8, 109, 173, 1149), (8, 113, 174, 1153), (8, 117, 176, 1157), (7, 208, 175, 1161), (7, 205, 133, 1165), (8, 121, 177, 1169), (8, 126, 178, 1173), (8, 130, 179, 1177), (8, 134, 181, 1181), (7, 214, 134, 1185), (7, 217, 180, 1189), (8, 138, 182, 1193), (8, 142, 185, 1197), (7, 224, 184, 1201), (7, 221, 183, 1205), (8, 146, 187, 1210), (7, 227, 186, 1214), (8, 150, 188, 1218), (8, 154, 189, 1222), (8, 158, 194, 1226), (7, 237, 191, 1230), (7, 233, 190, 1234), (7, 240, 192, 1238), (7, 243, 193, 1242), (8, 162, 195, 1246), (8, 166, 196, 1250), (8, 170, 197, 1254), (8, 174, 198, 1258)]
def ni_mlc (e : Nat × Nat × Nat × Nat) : Bool := decide (lw_tbl[e.2.2.2]? = some (Cond.methodLink (ni_cn e.1) e.2.1 (ni_mt e.2.2.1).1))
set_option maxRecDepth 100000 in
theorem ni_ml_ok : ni_ml.all ni_mlc = true := by decide +kernel
def ni_mn : List (Nat × Nat × Nat) := [(6, 30, 15), (6, 37, 0), (6, 44, 27), (6, 61, 41), (5, 68, 118), (5, 72, 117), (2, 44, 118), (2, 61, 117), (2, 113, 109)]
/-- method, kind (0 static, 1 of an object, 2 a constructor), the places of its words, how many parameters -/
def ni_mf : List (Nat × Nat × Nat × Nat × Nat × Nat × Nat) := [(0, 2, 202, 201, 0, 69, 0), (1, 1, 798, 796, 797, 69, 3), (2, 1, 820, 818, 819, 69, 1), (3, 1, 802, 801, 20, 69, 5), (4, 0, 805, 804, 0, 69, 2), (5, 1, 812, 811, 21, 69, 1), (6, 2, 104, 103, 0, 67, 1), (7, 1, 390, 388, 389, 67, 2), (8, 1, 439, 437, 438, 67, 1), (9, 1, 355, 353, 354, 67, 1), (10, 1, 369, 367, 368, 67, 1), (11, 1, 373, 371, 372, 67, 0), (12, 1, 365, 363, 364, 67, 0), (13, 1, 361, 359, 360, 67, 1), (14, 1, 759, 757, 758, 67, 0), (15, 2, 169, 168, 0, 68, 0), (16, 1, 577, 575, 576, 68, 1), (17, 1, 593, 592, 13, 68, 2), (18, 1, 598, 597, 14, 68, 3), (19, 1, 613, 611, 612, 68, 4), (20, 1, 625, 624, 15, 68, 2), (21, 1, 635, 633, 634, 68, 3), (22, 1, 640, 638, 639, 68, 3), (23, 1, 648, 646, 647, 68, 2), (24, 1, 653, 652, 16, 68, 3), (25, 0, 656, 655, 0, 68, 3), (26, 1, 731, 729, 730, 68, 3), (27, 2, 216, 215, 0, 70, 0), (28, 1, 443, 441, 442, 70, 2), (29, 1, 447, 446, 3, 70, 2), (30, 1, 523, 522, 6, 70, 2), (31, 1, 539, 538, 9, 70, 2), (32, 1, 544, 543, 10, 70, 2), (33, 1, 548, 547, 11, 70, 2), (34, 1, 553, 552, 12, 70, 2), (35, 1, 451, 450, 4, 70, 1), (36, 1, 463, 462, 5, 70, 2), (37, 0, 454, 453, 0, 70, 1), (38, 1, 527, 526, 7, 70, 3), (39, 1, 531, 530, 8, 70, 2), (40, 0, 534, 533, 0, 70, 1), (41, 2, 232, 231, 0, 71, 0), (42, 1, 303, 301, 302, 71, 2), (43, 1, 317, 315, 316, 71, 2), (44, 1, 477, 475, 476, 71, 1), (45, 1, 328, 326, 327, 71, 2), (46, 2, 94, 93, 0, 65, 0), (47, 1, 434, 432, 433, 65, 1), (48, 1, 343, 341, 342, 65, 1), (49, 1, 381, 379, 380, 65, 0), (50, 1, 385, 383, 384, 65, 2), (51, 1, 688, 686, 687, 65, 1), (52, 1, 836, 834, 835, 65, 0), (53, 1, 570, 568, 569, 65, 0), (54, 1, 566, 564, 565, 65, 1), (55, 1, 408, 406, 407, 65, 2), (56, 1, 705, 703, 704, 65, 0), (57, 1, 710, 708, 709, 65, 0), (58, 1, 582, 580, 581, 65, 2), (59, 1, 715, 713, 714, 65, 0), (60, 1, 719, 717, 718, 65, 1), (61, 1, 749, 747, 748, 65, 1), (62, 1, 754, 752, 753, 65, 1), (63, 1, 763, 761, 762, 65, 0), (64, 1, 772, 770, 771, 65, 1), (65, 1, 777, 775, 776, 65, 2), (66, 2, 84, 83, 0, 64, 0), (67, 1, 291, 289, 290, 64, 3), (68, 1, 310, 308, 309, 64, 3), (69, 1, 321, 319, 320, 64, 5), (70, 1, 335, 333, 334, 64, 2), (71, 1, 339, 337, 338, 64, 2), (72, 1, 347, 345, 346, 64, 1), (73, 1, 351, 349, 350, 64, 2), (74, 1, 377, 375, 376, 64, 2), (75, 1, 394, 392, 393, 64, 2), (76, 1, 400, 398, 399, 64, 2), (77, 1, 412, 410, 411, 64, 1), (78, 1, 416, 414, 415, 64, 2), (79, 1, 426, 424, 425, 64, 1), (80, 1, 430, 428, 429, 64, 1), (81, 1, 558, 556, 557, 64, 0), (82, 1, 562, 560, 561, 64, 1), (83, 1, 606, 604, 605, 64, 3), (84, 1, 631, 629, 630, 64, 3), (85, 1, 644, 642, 643, 64, 2), (86, 1, 661, 659, 660, 64, 2), (87, 1, 665, 663, 664, 64, 1), (88, 1, 669, 667, 668, 64, 1), (89, 1, 673, 671, 672, 64, 1), (90, 1, 678, 676, 677, 64, 3), (91, 1, 692, 690, 691, 64, 2), (92, 1, 696, 694, 695, 64, 0), (93, 1, 701, 699, 700, 64, 1), (94, 1, 724, 722, 723, 64, 3), (95, 1, 737, 735, 736, 64, 3), (96, 1, 741, 739, 740, 64, 2), (97, 1, 768, 766, 767, 64, 1), (98, 1, 782, 780, 781, 64, 1), (99, 1, 790, 788, 789, 64, 1), (100, 1, 794, 792, 793, 64, 3), (101, 1, 816, 814, 815, 64, 1), (102, 1, 824, 822, 823, 64, 0), (103, 1, 828, 826, 827, 64, 0), (104, 1, 832, 830, 831, 64, 1), (105, 1, 299, 298, 1, 64, 1), (106, 1, 404, 403, 2, 64, 1), (107, 1, 295, 294, 0, 64, 1), (108, 0, 422, 421, 0, 64, 1), (109, 0, 609, 608, 0, 64, 1), (110, 0, 419, 418, 0, 64, 2), (111, 0, 313, 312, 0, 64, 1), (112, 0, 324, 323, 0, 64, 3), (113, 1, 682, 681, 17, 64, 1), (114, 0, 727, 726, 0, 64, 3), (115, 1, 745, 744, 18, 64, 3), (116, 1, 786, 785, 19, 64, 0), (117, 0, 585, 584, 0, 64, 2), (118, 0, 573, 572, 0, 64, 2), (119, 2, 841, 840, 0, 72, 0), (120, 1, 954, 953, 23, 72, 1), (121, 1, 1018, 1017, 30, 72, 1), (122, 1, 950, 949, 22, 72, 1), (123, 1, 974, 973, 24, 72, 1), (124, 1, 1014, 1013, 29, 72, 1), (125, 1, 946, 944, 945, 72, 3), (126, 1, 958, 956, 957, 72, 3), (127, 1, 962, 960, 961, 72, 5), (128, 1, 966, 964, 965, 72, 2), (129, 1, 970, 968, 969, 72, 2), (130, 1, 978, 976, 977, 72, 1), (131, 1, 982, 980, 981, 72, 2), (132, 1, 1042, 1041, 32, 72, 1), (133, 1, 1168, 1167, 53, 72, 2), (134, 1, 1188, 1187, 54, 72, 3), (135, 1, 1002, 1001, 28, 72, 2), (136, 1, 998, 996, 997, 72, 2), (137, 1, 1006, 1004, 1005, 72, 2), (138, 1, 1022, 1021, 31, 72, 2), (139, 1, 1010, 1008, 1009, 72, 2), (140, 1, 1026, 1024, 1025, 72, 1), (141, 1, 1030, 1028, 1029, 72, 2), (142, 1, 1034, 1032, 1033, 72, 1), (143, 1, 1094, 1093, 43, 72, 0), (144, 1, 1114, 1113, 47, 72, 1), (145, 1, 1062, 1061, 37, 72, 1), (146, 1, 1058, 1057, 36, 72, 1), (147, 1, 1066, 1065, 38, 72, 0), (148, 1, 1074, 1073, 40, 72, 0), (149, 1, 1070, 1069, 39, 72, 0), (150, 1, 1078, 1077, 41, 72, 2), (151, 1, 1054, 1053, 35, 72, 0), (152, 1, 1050, 1049, 34, 72, 5), (153, 1, 1046, 1045, 33, 72, 2), (154, 1, 1038, 1036, 1037, 72, 1), (155, 1, 1082, 1080, 1081, 72, 0), (156, 1, 1102, 1101, 45, 72, 2), (157, 1, 1098, 1097, 44, 72, 2), (158, 1, 1090, 1089, 42, 72, 1), (159, 1, 1086, 1084, 1085, 72, 1), (160, 1, 990, 989, 26, 72, 2), (161, 1, 994, 993, 27, 72, 1), (162, 1, 986, 985, 25, 72, 1), (163, 1, 1110, 1109, 46, 72, 3), (164, 1, 1106, 1104, 1105, 72, 3), (165, 1, 1122, 1121, 48, 72, 2), (166, 1, 1118, 1116, 1117, 72, 3), (167, 1, 1138, 1137, 51, 72, 4), (168, 1, 1134, 1133, 50, 72, 2), (169, 1, 1130, 1129, 49, 72, 1), (170, 1, 1126, 1124, 1125, 72, 2), (171, 1, 1144, 1142, 1143, 72, 2), (172, 1, 1148, 1146, 1147, 72, 1), (173, 1, 1152, 1150, 1151, 72, 1), (174, 1, 1156, 1154, 1155, 72, 1), (175, 1, 1164, 1163, 52, 72, 1), (176, 1, 1160, 1158, 1159, 72, 3), (177, 1, 1172, 1170, 1171, 72, 2), (178, 1, 1176, 1174, 1175, 72, 0), (179, 1, 1180, 1178, 1179, 72, 1), (180, 1, 1192, 1191, 55, 72, 3), (181, 1, 1184, 1182, 1183, 72, 3), (182, 1, 1196, 1194, 1195, 72, 3), (183, 1, 1208, 1207, 57, 72, 1), (184, 1, 1204, 1203, 56, 72, 2), (185, 1, 1200, 1198, 1199, 72, 2), (186, 1, 1217, 1216, 58, 72, 1), (187, 1, 1213, 1211, 1212, 72, 1), (188, 1, 1221, 1219, 1220, 72, 1), (189, 1, 1225, 1223, 1224, 72, 1), (190, 1, 1237, 1236, 60, 72, 1), (191, 1, 1233, 1232, 59, 72, 2), (192, 1, 1241, 1240, 61, 72, 2), (193, 1, 1245, 1244, 62, 72, 2), (194, 1, 1229, 1227, 1228, 72, 3), (195, 1, 1249, 1247, 1248, 72, 1), (196, 1, 1253, 1251, 1252, 72, 0), (197, 1, 1257, 1255, 1256, 72, 0), (198, 1, 1261, 1259, 1260, 72, 1), (200, 0, 617, 616, 0, 79, 1), (201, 1, 467, 465, 466, 74, 0), (202, 1, 481, 479, 480, 74, 1), (203, 1, 471, 469, 470, 74, 0), (204, 1, 485, 483, 484, 74, 0), (205, 0, 491, 490, 0, 74, 2), (206, 0, 488, 487, 0, 75, 2), (207, 0, 496, 495, 0, 76, 3), (208, 0, 306, 305, 0, 66, 2), (209, 0, 100, 99, 0, 66, 2)]
def ni_mfc (e : Nat × Nat × Nat × Nat × Nat × Nat × Nat) : Bool := match e with
  | (m, k, _, p1, p2, p3, np) => match ni_mt m with
    | (y, _, ml, _, own) => (match k with
      | 0 => decide (lw_tbl[p1]? = some (Cond.static y))
      | 1 => decide (lw_tbl[p1]? = some (Cond.instanceMethod y)) && decide (lw_tbl[p2]? = some (Cond.selects y.cls y y))
      | _ => decide (lw_tbl[p1]? = some (Cond.instanceMethod y)) && decide (y.name = "<init>")) && decide (lw_tbl[p3]? = some (Cond.initialized y.cls)) && decide (y.cls = ni_cn own) && plainName y.cls && decide (y.cls ≠ "java/lang/invoke/MethodHandle") && decide (y.cls ≠ "java/lang/invoke/VarHandle") && decide ((parseMethodDescriptor y.desc).map (fun d => d.parameters.length) = some np) && Nat.ble ml 20
set_option maxRecDepth 100000 in
theorem ni_mf_ok : ni_mf.all ni_mfc = true := by decide +kernel
/-- the code words -/
def ni_cw (m : Nat) : Cond := Cond.code (ni_mt m).1 (ni_mt m).2.1 (ni_mt m).2.2.1 (ni_mt m).2.2.2.1
theorem ni_in1 {w : Cond} (h : w ∈ tables_1_1) : w ∈ lw_tbl := List.mem_append_right _ (List.mem_append_left _ h)
theorem ni_in2 {w : Cond} (h : w ∈ tables_1_2) : w ∈ lw_tbl := List.mem_append_right _ (List.mem_append_right _ (List.mem_append_left _ h))
theorem ni_in3 {w : Cond} (h : w ∈ tables_1_3) : w ∈ lw_tbl := List.mem_append_right _ (List.mem_append_right _ (List.mem_append_right _ (List.mem_append_left _ h)))
theorem ni_in4 {w : Cond} (h : w ∈ tables_1_4) : w ∈ lw_tbl := List.mem_append_right _ (List.mem_append_right _ (List.mem_append_right _ (List.mem_append_right _ (List.mem_append_left _ h))))
theorem ni_in5 {w : Cond} (h : w ∈ tables_1_5) : w ∈ lw_tbl := List.mem_append_right _ (List.mem_append_right _ (List.mem_append_right _ (List.mem_append_right _ (List.mem_append_right _ (List.mem_append_left _ h)))))
set_option maxRecDepth 100000 in
theorem ni_cw0 : ni_cw 0 ∈ lw_tbl := ni_in1 (List.mem_of_getElem? (i := 139) rfl)
set_option maxRecDepth 100000 in
theorem ni_cw1 : ni_cw 1 ∈ lw_tbl := ni_in4 (List.mem_of_getElem? (i := 15) rfl)
set_option maxRecDepth 100000 in
theorem ni_cw2 : ni_cw 2 ∈ lw_tbl := ni_in4 (List.mem_of_getElem? (i := 37) rfl)
set_option maxRecDepth 100000 in
theorem ni_cw3 : ni_cw 3 ∈ lw_tbl := ni_in4 (List.mem_of_getElem? (i := 19) rfl)
set_option maxRecDepth 100000 in
theorem ni_cw4 : ni_cw 4 ∈ lw_tbl := ni_in4 (List.mem_of_getElem? (i := 22) rfl)
set_option maxRecDepth 100000 in
theorem ni_cw5 : ni_cw 5 ∈ lw_tbl := ni_in4 (List.mem_of_getElem? (i := 29) rfl)
set_option maxRecDepth 100000 in
theorem ni_cw6 : ni_cw 6 ∈ lw_tbl := ni_in1 (List.mem_of_getElem? (i := 41) rfl)
set_option maxRecDepth 100000 in
theorem ni_cw7 : ni_cw 7 ∈ lw_tbl := ni_in2 (List.mem_of_getElem? (i := 87) rfl)
set_option maxRecDepth 100000 in
theorem ni_cw8 : ni_cw 8 ∈ lw_tbl := ni_in2 (List.mem_of_getElem? (i := 136) rfl)
set_option maxRecDepth 100000 in
theorem ni_cw9 : ni_cw 9 ∈ lw_tbl := ni_in2 (List.mem_of_getElem? (i := 52) rfl)
set_option maxRecDepth 100000 in
theorem ni_cw10 : ni_cw 10 ∈ lw_tbl := ni_in2 (List.mem_of_getElem? (i := 66) rfl)
set_option maxRecDepth 100000 in
theorem ni_cw11 : ni_cw 11 ∈ lw_tbl := ni_in2 (List.mem_of_getElem? (i := 70) rfl)
set_option maxRecDepth 100000 in
theorem ni_cw12 : ni_cw 12 ∈ lw_tbl := ni_in2 (List.mem_of_getElem? (i := 62) rfl)
set_option maxRecDepth 100000 in
theorem ni_cw13 : ni_cw 13 ∈ lw_tbl := ni_in2 (List.mem_of_getElem? (i := 58) rfl)
set_option maxRecDepth 100000 in
theorem ni_cw14 : ni_cw 14 ∈ lw_tbl := ni_in3 (List.mem_of_getElem? (i := 216) rfl)
set_option maxRecDepth 100000 in
theorem ni_cw15 : ni_cw 15 ∈ lw_tbl := ni_in1 (List.mem_of_getElem? (i := 106) rfl)
set_option maxRecDepth 100000 in
theorem ni_cw16 : ni_cw 16 ∈ lw_tbl := ni_in3 (List.mem_of_getElem? (i := 34) rfl)
set_option maxRecDepth 100000 in
theorem ni_cw17 : ni_cw 17 ∈ lw_tbl := ni_in3 (List.mem_of_getElem? (i := 50) rfl)
set_option maxRecDepth 100000 in
theorem ni_cw18 : ni_cw 18 ∈ lw_tbl := ni_in3 (List.mem_of_getElem? (i := 55) rfl)
set_option maxRecDepth 100000 in
theorem ni_cw19 : ni_cw 19 ∈ lw_tbl := ni_in3 (List.mem_of_getElem? (i := 70) rfl)
set_option maxRecDepth 100000 in
theorem ni_cw20 : ni_cw 20 ∈ lw_tbl := ni_in3 (List.mem_of_getElem? (i := 82) rfl)
set_option maxRecDepth 100000 in
theorem ni_cw21 : ni_cw 21 ∈ lw_tbl := ni_in3 (List.mem_of_getElem? (i := 92) rfl)
set_option maxRecDepth 100000 in
theorem ni_cw22 : ni_cw 22 ∈ lw_tbl := ni_in3 (List.mem_of_getElem? (i := 97) rfl)
set_option maxRecDepth 100000 in
theorem ni_cw23 : ni_cw 23 ∈ lw_tbl := ni_in3 (List.mem_of_getElem? (i := 105) rfl)
set_option maxRecDepth 100000 in
theorem ni_cw24 : ni_cw 24 ∈ lw_tbl := ni_in3 (List.mem_of_getElem? (i := 110) rfl)
set_option maxRecDepth 100000 in
theorem ni_cw25 : ni_cw 25 ∈ lw_tbl := ni_in3 (List.mem_of_getElem? (i := 113) rfl)
set_option maxRecDepth 100000 in
theorem ni_cw26 : ni_cw 26 ∈ lw_tbl := ni_in3 (List.mem_of_getElem? (i := 188) rfl)
set_option maxRecDepth 100000 in
theorem ni_cw27 : ni_cw 27 ∈ lw_tbl := ni_in1 (List.mem_of_getElem? (i := 153) rfl)
set_option maxRecDepth 100000 in
theorem ni_cw28 : ni_cw 28 ∈ lw_tbl := ni_in2 (List.mem_of_getElem? (i := 140) rfl)
set_option maxRecDepth 100000 in
theorem ni_cw29 : ni_cw 29 ∈ lw_tbl := ni_in2 (List.mem_of_getElem? (i := 144) rfl)
set_option maxRecDepth 100000 in
theorem ni_cw30 : ni_cw 30 ∈ lw_tbl := ni_in2 (List.mem_of_getElem? (i := 220) rfl)
set_option maxRecDepth 100000 in
theorem ni_cw31 : ni_cw 31 ∈ lw_tbl := ni_in2 (List.mem_of_getElem? (i := 236) rfl)
set_option maxRecDepth 100000 in
theorem ni_cw32 : ni_cw 32 ∈ lw_tbl := ni_in3 (List.mem_of_getElem? (i := 1) rfl)
set_option maxRecDepth 100000 in
theorem ni_cw33 : ni_cw 33 ∈ lw_tbl := ni_in3 (List.mem_of_getElem? (i := 5) rfl)
set_option maxRecDepth 100000 in
theorem ni_cw34 : ni_cw 34 ∈ lw_tbl := ni_in3 (List.mem_of_getElem? (i := 10) rfl)
set_option maxRecDepth 100000 in
theorem ni_cw35 : ni_cw 35 ∈ lw_tbl := ni_in2 (List.mem_of_getElem? (i := 148) rfl)
set_option maxRecDepth 100000 in
theorem ni_cw36 : ni_cw 36 ∈ lw_tbl := ni_in2 (List.mem_of_getElem? (i := 160) rfl)
set_option maxRecDepth 100000 in
theorem ni_cw37 : ni_cw 37 ∈ lw_tbl := ni_in2 (List.mem_of_getElem? (i := 151) rfl)
set_option maxRecDepth 100000 in
theorem ni_cw38 : ni_cw 38 ∈ lw_tbl := ni_in2 (List.mem_of_getElem? (i := 224) rfl)
set_option maxRecDepth 100000 in
theorem ni_cw39 : ni_cw 39 ∈ lw_tbl := ni_in2 (List.mem_of_getElem? (i := 228) rfl)
set_option maxRecDepth 100000 in
theorem ni_cw40 : ni_cw 40 ∈ lw_tbl := ni_in2 (List.mem_of_getElem? (i := 231) rfl)
set_option maxRecDepth 100000 in
theorem ni_cw41 : ni_cw 41 ∈ lw_tbl := ni_in1 (List.mem_of_getElem? (i := 169) rfl)
set_option maxRecDepth 100000 in
theorem ni_cw42 : ni_cw 42 ∈ lw_tbl := ni_in2 (List.mem_of_getElem? (i := 0) rfl)
set_option maxRecDepth 100000 in
theorem ni_cw43 : ni_cw 43 ∈ lw_tbl := ni_in2 (List.mem_of_getElem? (i := 14) rfl)
set_option maxRecDepth 100000 in
theorem ni_cw44 : ni_cw 44 ∈ lw_tbl := ni_in2 (List.mem_of_getElem? (i := 174) rfl)
set_option maxRecDepth 100000 in
theorem ni_cw45 : ni_cw 45 ∈ lw_tbl := ni_in2 (List.mem_of_getElem? (i := 25) rfl)
set_option maxRecDepth 100000 in
theorem ni_cw46 : ni_cw 46 ∈ lw_tbl := ni_in1 (List.mem_of_getElem? (i := 31) rfl)
set_option maxRecDepth 100000 in
theorem ni_cw47 : ni_cw 47 ∈ lw_tbl := ni_in2 (List.mem_of_getElem? (i := 131) rfl)
set_option maxRecDepth 100000 in
theorem ni_cw48 : ni_cw 48 ∈ lw_tbl := ni_in2 (List.mem_of_getElem? (i := 40) rfl)
set_option maxRecDepth 100000 in
theorem ni_cw49 : ni_cw 49 ∈ lw_tbl := ni_in2 (List.mem_of_getElem? (i := 78) rfl)
set_option maxRecDepth 100000 in
theorem ni_cw50 : ni_cw 50 ∈ lw_tbl := ni_in2 (List.mem_of_getElem? (i := 82) rfl)
set_option maxRecDepth 100000 in
theorem ni_cw51 : ni_cw 51 ∈ lw_tbl := ni_in3 (List.mem_of_getElem? (i := 145) rfl)
set_option maxRecDepth 100000 in
theorem ni_cw52 : ni_cw 52 ∈ lw_tbl := ni_in4 (List.mem_of_getElem? (i := 53) rfl)
set_option maxRecDepth 100000 in
theorem ni_cw53 : ni_cw 53 ∈ lw_tbl := ni_in3 (List.mem_of_getElem? (i := 27) rfl)
set_option maxRecDepth 100000 in
theorem ni_cw54 : ni_cw 54 ∈ lw_tbl := ni_in3 (List.mem_of_getElem? (i := 23) rfl)
set_option maxRecDepth 100000 in
theorem ni_cw55 : ni_cw 55 ∈ lw_tbl := ni_in2 (List.mem_of_getElem? (i := 105) rfl)
set_option maxRecDepth 100000 in
theorem ni_cw56 : ni_cw 56 ∈ lw_tbl := ni_in3 (List.mem_of_getElem? (i := 162) rfl)
set_option maxRecDepth 100000 in
theorem ni_cw57 : ni_cw 57 ∈ lw_tbl := ni_in3 (List.mem_of_getElem? (i := 167) rfl)
set_option maxRecDepth 100000 in
theorem ni_cw58 : ni_cw 58 ∈ lw_tbl := ni_in3 (List.mem_of_getElem? (i := 39) rfl)
set_option maxRecDepth 100000 in
theorem ni_cw59 : ni_cw 59 ∈ lw_tbl := ni_in3 (List.mem_of_getElem? (i := 172) rfl)
set_option maxRecDepth 100000 in
theorem ni_cw60 : ni_cw 60 ∈ lw_tbl := ni_in3 (List.mem_of_getElem? (i := 176) rfl)
set_option maxRecDepth 100000 in
theorem ni_cw61 : ni_cw 61 ∈ lw_tbl := ni_in3 (List.mem_of_getElem? (i := 206) rfl)
set_option maxRecDepth 100000 in
theorem ni_cw62 : ni_cw 62 ∈ lw_tbl := ni_in3 (List.mem_of_getElem? (i := 211) rfl)
set_option maxRecDepth 100000 in
theorem ni_cw63 : ni_cw 63 ∈ lw_tbl := ni_in3 (List.mem_of_getElem? (i := 220) rfl)
set_option maxRecDepth 100000 in
theorem ni_cw64 : ni_cw 64 ∈ lw_tbl := ni_in3 (List.mem_of_getElem? (i := 229) rfl)
set_option maxRecDepth 100000 in
theorem ni_cw65 : ni_cw 65 ∈ lw_tbl := ni_in3 (List.mem_of_getElem? (i := 234) rfl)
set_option maxRecDepth 100000 in
theorem ni_cw66 : ni_cw 66 ∈ lw_tbl := ni_in1 (List.mem_of_getElem? (i := 21) rfl)
set_option maxRecDepth 100000 in
theorem ni_cw67 : ni_cw 67 ∈ lw_tbl := ni_in1 (List.mem_of_getElem? (i := 228) rfl)
set_option maxRecDepth 100000 in
theorem ni_cw68 : ni_cw 68 ∈ lw_tbl := ni_in2 (List.mem_of_getElem? (i := 7) rfl)
set_option maxRecDepth 100000 in
theorem ni_cw69 : ni_cw 69 ∈ lw_tbl := ni_in2 (List.mem_of_getElem? (i := 18) rfl)
set_option maxRecDepth 100000 in
theorem ni_cw70 : ni_cw 70 ∈ lw_tbl := ni_in2 (List.mem_of_getElem? (i := 32) rfl)
set_option maxRecDepth 100000 in
theorem ni_cw71 : ni_cw 71 ∈ lw_tbl := ni_in2 (List.mem_of_getElem? (i := 36) rfl)
set_option maxRecDepth 100000 in
theorem ni_cw72 : ni_cw 72 ∈ lw_tbl := ni_in2 (List.mem_of_getElem? (i := 44) rfl)
set_option maxRecDepth 100000 in
theorem ni_cw73 : ni_cw 73 ∈ lw_tbl := ni_in2 (List.mem_of_getElem? (i := 48) rfl)
set_option maxRecDepth 100000 in
theorem ni_cw74 : ni_cw 74 ∈ lw_tbl := ni_in2 (List.mem_of_getElem? (i := 74) rfl)
set_option maxRecDepth 100000 in
theorem ni_cw75 : ni_cw 75 ∈ lw_tbl := ni_in2 (List.mem_of_getElem? (i := 91) rfl)
set_option maxRecDepth 100000 in
theorem ni_cw76 : ni_cw 76 ∈ lw_tbl := ni_in2 (List.mem_of_getElem? (i := 97) rfl)
set_option maxRecDepth 100000 in
theorem ni_cw77 : ni_cw 77 ∈ lw_tbl := ni_in2 (List.mem_of_getElem? (i := 109) rfl)
set_option maxRecDepth 100000 in
theorem ni_cw78 : ni_cw 78 ∈ lw_tbl := ni_in2 (List.mem_of_getElem? (i := 113) rfl)
set_option maxRecDepth 100000 in
theorem ni_cw79 : ni_cw 79 ∈ lw_tbl := ni_in2 (List.mem_of_getElem? (i := 123) rfl)
set_option maxRecDepth 100000 in
theorem ni_cw80 : ni_cw 80 ∈ lw_tbl := ni_in2 (List.mem_of_getElem? (i := 127) rfl)
set_option maxRecDepth 100000 in
theorem ni_cw81 : ni_cw 81 ∈ lw_tbl := ni_in3 (List.mem_of_getElem? (i := 15) rfl)
set_option maxRecDepth 100000 in
theorem ni_cw82 : ni_cw 82 ∈ lw_tbl := ni_in3 (List.mem_of_getElem? (i := 19) rfl)
set_option maxRecDepth 100000 in
theorem ni_cw83 : ni_cw 83 ∈ lw_tbl := ni_in3 (List.mem_of_getElem? (i := 63) rfl)
set_option maxRecDepth 100000 in
theorem ni_cw84 : ni_cw 84 ∈ lw_tbl := ni_in3 (List.mem_of_getElem? (i := 88) rfl)
set_option maxRecDepth 100000 in
theorem ni_cw85 : ni_cw 85 ∈ lw_tbl := ni_in3 (List.mem_of_getElem? (i := 101) rfl)
set_option maxRecDepth 100000 in
theorem ni_cw86 : ni_cw 86 ∈ lw_tbl := ni_in3 (List.mem_of_getElem? (i := 118) rfl)
set_option maxRecDepth 100000 in
theorem ni_cw87 : ni_cw 87 ∈ lw_tbl := ni_in3 (List.mem_of_getElem? (i := 122) rfl)
set_option maxRecDepth 100000 in
theorem ni_cw88 : ni_cw 88 ∈ lw_tbl := ni_in3 (List.mem_of_getElem? (i := 126) rfl)
set_option maxRecDepth 100000 in
theorem ni_cw89 : ni_cw 89 ∈ lw_tbl := ni_in3 (List.mem_of_getElem? (i := 130) rfl)
set_option maxRecDepth 100000 in
theorem ni_cw90 : ni_cw 90 ∈ lw_tbl := ni_in3 (List.mem_of_getElem? (i := 135) rfl)
set_option maxRecDepth 100000 in
theorem ni_cw91 : ni_cw 91 ∈ lw_tbl := ni_in3 (List.mem_of_getElem? (i := 149) rfl)
set_option maxRecDepth 100000 in
theorem ni_cw92 : ni_cw 92 ∈ lw_tbl := ni_in3 (List.mem_of_getElem? (i := 153) rfl)
set_option maxRecDepth 100000 in
theorem ni_cw93 : ni_cw 93 ∈ lw_tbl := ni_in3 (List.mem_of_getElem? (i := 158) rfl)
set_option maxRecDepth 100000 in
theorem ni_cw94 : ni_cw 94 ∈ lw_tbl := ni_in3 (List.mem_of_getElem? (i := 181) rfl)
set_option maxRecDepth 100000 in
theorem ni_cw95 : ni_cw 95 ∈ lw_tbl := ni_in3 (List.mem_of_getElem? (i := 194) rfl)
set_option maxRecDepth 100000 in
theorem ni_cw96 : ni_cw 96 ∈ lw_tbl := ni_in3 (List.mem_of_getElem? (i := 198) rfl)
set_option maxRecDepth 100000 in
theorem ni_cw97 : ni_cw 97 ∈ lw_tbl := ni_in3 (List.mem_of_getElem? (i := 225) rfl)
set_option maxRecDepth 100000 in
theorem ni_cw98 : ni_cw 98 ∈ lw_tbl := ni_in3 (List.mem_of_getElem? (i := 239) rfl)
set_option maxRecDepth 100000 in
theorem ni_cw99 : ni_cw 99 ∈ lw_tbl := ni_in4 (List.mem_of_getElem? (i := 7) rfl)
set_option maxRecDepth 100000 in
theorem ni_cw100 : ni_cw 100 ∈ lw_tbl := ni_in4 (List.mem_of_getElem? (i := 11) rfl)
set_option maxRecDepth 100000 in
theorem ni_cw101 : ni_cw 101 ∈ lw_tbl := ni_in4 (List.mem_of_getElem? (i := 33) rfl)
set_option maxRecDepth 100000 in
theorem ni_cw102 : ni_cw 102 ∈ lw_tbl := ni_in4 (List.mem_of_getElem? (i := 41) rfl)
set_option maxRecDepth 100000 in
theorem ni_cw103 : ni_cw 103 ∈ lw_tbl := ni_in4 (List.mem_of_getElem? (i := 45) rfl)
set_option maxRecDepth 100000 in
theorem ni_cw104 : ni_cw 104 ∈ lw_tbl := ni_in4 (List.mem_of_getElem? (i := 49) rfl)
set_option maxRecDepth 100000 in
theorem ni_cw105 : ni_cw 105 ∈ lw_tbl := ni_in1 (List.mem_of_getElem? (i := 236) rfl)
set_option maxRecDepth 100000 in
theorem ni_cw106 : ni_cw 106 ∈ lw_tbl := ni_in2 (List.mem_of_getElem? (i := 101) rfl)
set_option maxRecDepth 100000 in
theorem ni_cw107 : ni_cw 107 ∈ lw_tbl := ni_in1 (List.mem_of_getElem? (i := 232) rfl)
set_option maxRecDepth 100000 in
theorem ni_cw108 : ni_cw 108 ∈ lw_tbl := ni_in2 (List.mem_of_getElem? (i := 119) rfl)
set_option maxRecDepth 100000 in
theorem ni_cw109 : ni_cw 109 ∈ lw_tbl := ni_in3 (List.mem_of_getElem? (i := 66) rfl)
set_option maxRecDepth 100000 in
theorem ni_cw110 : ni_cw 110 ∈ lw_tbl := ni_in2 (List.mem_of_getElem? (i := 116) rfl)
set_option maxRecDepth 100000 in
theorem ni_cw111 : ni_cw 111 ∈ lw_tbl := ni_in2 (List.mem_of_getElem? (i := 10) rfl)
set_option maxRecDepth 100000 in
theorem ni_cw112 : ni_cw 112 ∈ lw_tbl := ni_in2 (List.mem_of_getElem? (i := 21) rfl)
set_option maxRecDepth 100000 in
theorem ni_cw113 : ni_cw 113 ∈ lw_tbl := ni_in3 (List.mem_of_getElem? (i := 139) rfl)
set_option maxRecDepth 100000 in
theorem ni_cw114 : ni_cw 114 ∈ lw_tbl := ni_in3 (List.mem_of_getElem? (i := 184) rfl)
set_option maxRecDepth 100000 in
theorem ni_cw115 : ni_cw 115 ∈ lw_tbl := ni_in3 (List.mem_of_getElem? (i := 202) rfl)
set_option maxRecDepth 100000 in
theorem ni_cw116 : ni_cw 116 ∈ lw_tbl := ni_in4 (List.mem_of_getElem? (i := 3) rfl)
set_option maxRecDepth 100000 in
theorem ni_cw117 : ni_cw 117 ∈ lw_tbl := ni_in3 (List.mem_of_getElem? (i := 42) rfl)
set_option maxRecDepth 100000 in
theorem ni_cw118 : ni_cw 118 ∈ lw_tbl := ni_in3 (List.mem_of_getElem? (i := 30) rfl)
set_option maxRecDepth 100000 in
theorem ni_cw119 : ni_cw 119 ∈ lw_tbl := ni_in4 (List.mem_of_getElem? (i := 58) rfl)
set_option maxRecDepth 100000 in
theorem ni_cw120 : ni_cw 120 ∈ lw_tbl := ni_in4 (List.mem_of_getElem? (i := 171) rfl)
set_option maxRecDepth 100000 in
theorem ni_cw121 : ni_cw 121 ∈ lw_tbl := ni_in4 (List.mem_of_getElem? (i := 235) rfl)
set_option maxRecDepth 100000 in
theorem ni_cw122 : ni_cw 122 ∈ lw_tbl := ni_in4 (List.mem_of_getElem? (i := 167) rfl)
set_option maxRecDepth 100000 in
theorem ni_cw123 : ni_cw 123 ∈ lw_tbl := ni_in4 (List.mem_of_getElem? (i := 191) rfl)
set_option maxRecDepth 100000 in
theorem ni_cw124 : ni_cw 124 ∈ lw_tbl := ni_in4 (List.mem_of_getElem? (i := 231) rfl)
set_option maxRecDepth 100000 in
theorem ni_cw125 : ni_cw 125 ∈ lw_tbl := ni_in4 (List.mem_of_getElem? (i := 163) rfl)
set_option maxRecDepth 100000 in
theorem ni_cw126 : ni_cw 126 ∈ lw_tbl := ni_in4 (List.mem_of_getElem? (i := 175) rfl)
set_option maxRecDepth 100000 in
theorem ni_cw127 : ni_cw 127 ∈ lw_tbl := ni_in4 (List.mem_of_getElem? (i := 179) rfl)
set_option maxRecDepth 100000 in
theorem ni_cw128 : ni_cw 128 ∈ lw_tbl := ni_in4 (List.mem_of_getElem? (i := 183) rfl)
set_option maxRecDepth 100000 in
theorem ni_cw129 : ni_cw 129 ∈ lw_tbl := ni_in4 (List.mem_of_getElem? (i := 187) rfl)
set_option maxRecDepth 100000 in
theorem ni_cw130 : ni_cw 130 ∈ lw_tbl := ni_in4 (List.mem_of_getElem? (i := 195) rfl)
set_option maxRecDepth 100000 in
theorem ni_cw131 : ni_cw 131 ∈ lw_tbl := ni_in4 (List.mem_of_getElem? (i := 199) rfl)
set_option maxRecDepth 100000 in
theorem ni_cw132 : ni_cw 132 ∈ lw_tbl := ni_in5 (List.mem_of_getElem? (i := 19) rfl)
set_option maxRecDepth 100000 in
theorem ni_cw133 : ni_cw 133 ∈ lw_tbl := ni_in5 (List.mem_of_getElem? (i := 145) rfl)
set_option maxRecDepth 100000 in
theorem ni_cw134 : ni_cw 134 ∈ lw_tbl := ni_in5 (List.mem_of_getElem? (i := 165) rfl)
set_option maxRecDepth 100000 in
theorem ni_cw135 : ni_cw 135 ∈ lw_tbl := ni_in4 (List.mem_of_getElem? (i := 219) rfl)
set_option maxRecDepth 100000 in
theorem ni_cw136 : ni_cw 136 ∈ lw_tbl := ni_in4 (List.mem_of_getElem? (i := 215) rfl)
set_option maxRecDepth 100000 in
theorem ni_cw137 : ni_cw 137 ∈ lw_tbl := ni_in4 (List.mem_of_getElem? (i := 223) rfl)
set_option maxRecDepth 100000 in
theorem ni_cw138 : ni_cw 138 ∈ lw_tbl := ni_in4 (List.mem_of_getElem? (i := 239) rfl)
set_option maxRecDepth 100000 in
theorem ni_cw139 : ni_cw 139 ∈ lw_tbl := ni_in4 (List.mem_of_getElem? (i := 227) rfl)
set_option maxRecDepth 100000 in
theorem ni_cw140 : ni_cw 140 ∈ lw_tbl := ni_in5 (List.mem_of_getElem? (i := 3) rfl)
set_option maxRecDepth 100000 in
theorem ni_cw141 : ni_cw 141 ∈ lw_tbl := ni_in5 (List.mem_of_getElem? (i := 7) rfl)
set_option maxRecDepth 100000 in
theorem ni_cw142 : ni_cw 142 ∈ lw_tbl := ni_in5 (List.mem_of_getElem? (i := 11) rfl)
set_option maxRecDepth 100000 in
theorem ni_cw143 : ni_cw 143 ∈ lw_tbl := ni_in5 (List.mem_of_getElem? (i := 71) rfl)
set_option maxRecDepth 100000 in
theorem ni_cw144 : ni_cw 144 ∈ lw_tbl := ni_in5 (List.mem_of_getElem? (i := 91) rfl)
set_option maxRecDepth 100000 in
theorem ni_cw145 : ni_cw 145 ∈ lw_tbl := ni_in5 (List.mem_of_getElem? (i := 39) rfl)
set_option maxRecDepth 100000 in
theorem ni_cw146 : ni_cw 146 ∈ lw_tbl := ni_in5 (List.mem_of_getElem? (i := 35) rfl)
set_option maxRecDepth 100000 in
theorem ni_cw147 : ni_cw 147 ∈ lw_tbl := ni_in5 (List.mem_of_getElem? (i := 43) rfl)
set_option maxRecDepth 100000 in
theorem ni_cw148 : ni_cw 148 ∈ lw_tbl := ni_in5 (List.mem_of_getElem? (i := 51) rfl)
set_option maxRecDepth 100000 in
theorem ni_cw149 : ni_cw 149 ∈ lw_tbl := ni_in5 (List.mem_of_getElem? (i := 47) rfl)
set_option maxRecDepth 100000 in
theorem ni_cw150 : ni_cw 150 ∈ lw_tbl := ni_in5 (List.mem_of_getElem? (i := 55) rfl)
set_option maxRecDepth 100000 in
theorem ni_cw151 : ni_cw 151 ∈ lw_tbl := ni_in5 (List.mem_of_getElem? (i := 31) rfl)
set_option maxRecDepth 100000 in
theorem ni_cw152 : ni_cw 152 ∈ lw_tbl := ni_in5 (List.mem_of_getElem? (i := 27) rfl)
set_option maxRecDepth 100000 in
theorem ni_cw153 : ni_cw 153 ∈ lw_tbl := ni_in5 (List.mem_of_getElem? (i := 23) rfl)
set_option maxRecDepth 100000 in
theorem ni_cw154 : ni_cw 154 ∈ lw_tbl := ni_in5 (List.mem_of_getElem? (i := 15) rfl)
set_option maxRecDepth 100000 in
theorem ni_cw155 : ni_cw 155 ∈ lw_tbl := ni_in5 (List.mem_of_getElem? (i := 59) rfl)
set_option maxRecDepth 100000 in
theorem ni_cw156 : ni_cw 156 ∈ lw_tbl := ni_in5 (List.mem_of_getElem? (i := 79) rfl)
set_option maxRecDepth 100000 in
theorem ni_cw157 : ni_cw 157 ∈ lw_tbl := ni_in5 (List.mem_of_getElem? (i := 75) rfl)
set_option maxRecDepth 100000 in
theorem ni_cw158 : ni_cw 158 ∈ lw_tbl := ni_in5 (List.mem_of_getElem? (i := 67) rfl)
set_option maxRecDepth 100000 in
theorem ni_cw159 : ni_cw 159 ∈ lw_tbl := ni_in5 (List.mem_of_getElem? (i := 63) rfl)
set_option maxRecDepth 100000 in
theorem ni_cw160 : ni_cw 160 ∈ lw_tbl := ni_in4 (List.mem_of_getElem? (i := 207) rfl)
set_option maxRecDepth 100000 in
theorem ni_cw161 : ni_cw 161 ∈ lw_tbl := ni_in4 (List.mem_of_getElem? (i := 211) rfl)
set_option maxRecDepth 100000 in
theorem ni_cw162 : ni_cw 162 ∈ lw_tbl := ni_in4 (List.mem_of_getElem? (i := 203) rfl)
set_option maxRecDepth 100000 in
theorem ni_cw163 : ni_cw 163 ∈ lw_tbl := ni_in5 (List.mem_of_getElem? (i := 87) rfl)
set_option maxRecDepth 100000 in
theorem ni_cw164 : ni_cw 164 ∈ lw_tbl := ni_in5 (List.mem_of_getElem? (i := 83) rfl)
set_option maxRecDepth 100000 in
theorem ni_cw165 : ni_cw 165 ∈ lw_tbl := ni_in5 (List.mem_of_getElem? (i := 99) rfl)
set_option maxRecDepth 100000 in
theorem ni_cw166 : ni_cw 166 ∈ lw_tbl := ni_in5 (List.mem_of_getElem? (i := 95) rfl)
set_option maxRecDepth 100000 in
theorem ni_cw167 : ni_cw 167 ∈ lw_tbl := ni_in5 (List.mem_of_getElem? (i := 115) rfl)
set_option maxRecDepth 100000 in
theorem ni_cw168 : ni_cw 168 ∈ lw_tbl := ni_in5 (List.mem_of_getElem? (i := 111) rfl)
set_option maxRecDepth 100000 in
theorem ni_cw169 : ni_cw 169 ∈ lw_tbl := ni_in5 (List.mem_of_getElem? (i := 107) rfl)
set_option maxRecDepth 100000 in
theorem ni_cw170 : ni_cw 170 ∈ lw_tbl := ni_in5 (List.mem_of_getElem? (i := 103) rfl)
set_option maxRecDepth 100000 in
theorem ni_cw171 : ni_cw 171 ∈ lw_tbl := ni_in5 (List.mem_of_getElem? (i := 121) rfl)
set_option maxRecDepth 100000 in
theorem ni_cw172 : ni_cw 172 ∈ lw_tbl := ni_in5 (List.mem_of_getElem? (i := 125) rfl)
set_option maxRecDepth 100000 in
theorem ni_cw173 : ni_cw 173 ∈ lw_tbl := ni_in5 (List.mem_of_getElem? (i := 129) rfl)
set_option maxRecDepth 100000 in
theorem ni_cw174 : ni_cw 174 ∈ lw_tbl := ni_in5 (List.mem_of_getElem? (i := 133) rfl)
set_option maxRecDepth 100000 in
theorem ni_cw175 : ni_cw 175 ∈ lw_tbl := ni_in5 (List.mem_of_getElem? (i := 141) rfl)
set_option maxRecDepth 100000 in
theorem ni_cw176 : ni_cw 176 ∈ lw_tbl := ni_in5 (List.mem_of_getElem? (i := 137) rfl)
set_option maxRecDepth 100000 in
theorem ni_cw177 : ni_cw 177 ∈ lw_tbl := ni_in5 (List.mem_of_getElem? (i := 149) rfl)
set_option maxRecDepth 100000 in
theorem ni_cw178 : ni_cw 178 ∈ lw_tbl := ni_in5 (List.mem_of_getElem? (i := 153) rfl)
set_option maxRecDepth 100000 in
theorem ni_cw179 : ni_cw 179 ∈ lw_tbl := ni_in5 (List.mem_of_getElem? (i := 157) rfl)
set_option maxRecDepth 100000 in
theorem ni_cw180 : ni_cw 180 ∈ lw_tbl := ni_in5 (List.mem_of_getElem? (i := 169) rfl)
set_option maxRecDepth 100000 in
theorem ni_cw181 : ni_cw 181 ∈ lw_tbl := ni_in5 (List.mem_of_getElem? (i := 161) rfl)
set_option maxRecDepth 100000 in
theorem ni_cw182 : ni_cw 182 ∈ lw_tbl := ni_in5 (List.mem_of_getElem? (i := 173) rfl)
set_option maxRecDepth 100000 in
theorem ni_cw183 : ni_cw 183 ∈ lw_tbl := ni_in5 (List.mem_of_getElem? (i := 185) rfl)
set_option maxRecDepth 100000 in
theorem ni_cw184 : ni_cw 184 ∈ lw_tbl := ni_in5 (List.mem_of_getElem? (i := 181) rfl)
set_option maxRecDepth 100000 in
theorem ni_cw185 : ni_cw 185 ∈ lw_tbl := ni_in5 (List.mem_of_getElem? (i := 177) rfl)
set_option maxRecDepth 100000 in
theorem ni_cw186 : ni_cw 186 ∈ lw_tbl := ni_in5 (List.mem_of_getElem? (i := 194) rfl)
set_option maxRecDepth 100000 in
theorem ni_cw187 : ni_cw 187 ∈ lw_tbl := ni_in5 (List.mem_of_getElem? (i := 190) rfl)
set_option maxRecDepth 100000 in
theorem ni_cw188 : ni_cw 188 ∈ lw_tbl := ni_in5 (List.mem_of_getElem? (i := 198) rfl)
set_option maxRecDepth 100000 in
theorem ni_cw189 : ni_cw 189 ∈ lw_tbl := ni_in5 (List.mem_of_getElem? (i := 202) rfl)
set_option maxRecDepth 100000 in
theorem ni_cw190 : ni_cw 190 ∈ lw_tbl := ni_in5 (List.mem_of_getElem? (i := 214) rfl)
set_option maxRecDepth 100000 in
theorem ni_cw191 : ni_cw 191 ∈ lw_tbl := ni_in5 (List.mem_of_getElem? (i := 210) rfl)
set_option maxRecDepth 100000 in
theorem ni_cw192 : ni_cw 192 ∈ lw_tbl := ni_in5 (List.mem_of_getElem? (i := 218) rfl)
set_option maxRecDepth 100000 in
theorem ni_cw193 : ni_cw 193 ∈ lw_tbl := ni_in5 (List.mem_of_getElem? (i := 222) rfl)
set_option maxRecDepth 100000 in
theorem ni_cw194 : ni_cw 194 ∈ lw_tbl := ni_in5 (List.mem_of_getElem? (i := 206) rfl)
set_option maxRecDepth 100000 in
theorem ni_cw195 : ni_cw 195 ∈ lw_tbl := ni_in5 (List.mem_of_getElem? (i := 226) rfl)
set_option maxRecDepth 100000 in
theorem ni_cw196 : ni_cw 196 ∈ lw_tbl := ni_in5 (List.mem_of_getElem? (i := 230) rfl)
set_option maxRecDepth 100000 in
theorem ni_cw197 : ni_cw 197 ∈ lw_tbl := ni_in5 (List.mem_of_getElem? (i := 234) rfl)
set_option maxRecDepth 100000 in
theorem ni_cw198 : ni_cw 198 ∈ lw_tbl := ni_in5 (List.mem_of_getElem? (i := 238) rfl)
set_option maxRecDepth 100000 in
theorem ni_cw200 : ni_cw 200 ∈ lw_tbl := ni_in3 (List.mem_of_getElem? (i := 74) rfl)
set_option maxRecDepth 100000 in
theorem ni_cw201 : ni_cw 201 ∈ lw_tbl := ni_in2 (List.mem_of_getElem? (i := 164) rfl)
set_option maxRecDepth 100000 in
theorem ni_cw202 : ni_cw 202 ∈ lw_tbl := ni_in2 (List.mem_of_getElem? (i := 178) rfl)
set_option maxRecDepth 100000 in
theorem ni_cw203 : ni_cw 203 ∈ lw_tbl := ni_in2 (List.mem_of_getElem? (i := 168) rfl)
set_option maxRecDepth 100000 in
theorem ni_cw204 : ni_cw 204 ∈ lw_tbl := ni_in2 (List.mem_of_getElem? (i := 182) rfl)
set_option maxRecDepth 100000 in
theorem ni_cw205 : ni_cw 205 ∈ lw_tbl := ni_in2 (List.mem_of_getElem? (i := 188) rfl)
set_option maxRecDepth 100000 in
theorem ni_cw206 : ni_cw 206 ∈ lw_tbl := ni_in2 (List.mem_of_getElem? (i := 185) rfl)
set_option maxRecDepth 100000 in
theorem ni_cw207 : ni_cw 207 ∈ lw_tbl := ni_in2 (List.mem_of_getElem? (i := 193) rfl)
set_option maxRecDepth 100000 in
theorem ni_cw208 : ni_cw 208 ∈ lw_tbl := ni_in2 (List.mem_of_getElem? (i := 3) rfl)
set_option maxRecDepth 100000 in
theorem ni_cw209 : ni_cw 209 ∈ lw_tbl := ni_in1 (List.mem_of_getElem? (i := 37) rfl)
set_option maxRecDepth 100000 in
theorem ni_cw_ok : ∀ e ∈ ni_mf, ni_cw e.1 ∈ lw_tbl := List.forall_mem_cons.mpr ⟨ni_cw0, List.forall_mem_cons.mpr ⟨ni_cw1, List.forall_mem_cons.mpr ⟨ni_cw2, List.forall_mem_cons.mpr ⟨ni_cw3, List.forall_mem_cons.mpr ⟨ni_cw4, List.forall_mem_cons.mpr ⟨ni_cw5, List.forall_mem_cons.mpr ⟨ni_cw6, List.forall_mem_cons.mpr ⟨ni_cw7, List.forall_mem_cons.mpr ⟨ni_cw8, List.forall_mem_cons.mpr ⟨ni_cw9, List.forall_mem_cons.mpr ⟨ni_cw10, List.forall_mem_cons.mpr ⟨ni_cw11, List.forall_mem_cons.mpr ⟨ni_cw12, List.forall_mem_cons.mpr ⟨ni_cw13, List.forall_mem_cons.mpr ⟨ni_cw14, List.forall_mem_cons.mpr ⟨ni_cw15, List.forall_mem_cons.mpr ⟨ni_cw16, List.forall_mem_cons.mpr ⟨ni_cw17, List.forall_mem_cons.mpr ⟨ni_cw18, List.forall_mem_cons.mpr ⟨ni_cw19, List.forall_mem_cons.mpr ⟨ni_cw20, List.forall_mem_cons.mpr ⟨ni_cw21, List.forall_mem_cons.mpr ⟨ni_cw22, List.forall_mem_cons.mpr ⟨ni_cw23, List.forall_mem_cons.mpr ⟨ni_cw24, List.forall_mem_cons.mpr ⟨ni_cw25, List.forall_mem_cons.mpr ⟨ni_cw26, List.forall_mem_cons.mpr ⟨ni_cw27, List.forall_mem_cons.mpr ⟨ni_cw28, List.forall_mem_cons.mpr ⟨ni_cw29, List.forall_mem_cons.mpr ⟨ni_cw30, List.forall_mem_cons.mpr ⟨ni_cw31, List.forall_mem_cons.mpr ⟨ni_cw32, List.forall_mem_cons.mpr ⟨ni_cw33, List.forall_mem_cons.mpr ⟨ni_cw34, List.forall_mem_cons.mpr ⟨ni_cw35, List.forall_mem_cons.mpr ⟨ni_cw36, List.forall_mem_cons.mpr ⟨ni_cw37, List.forall_mem_cons.mpr ⟨ni_cw38, List.forall_mem_cons.mpr ⟨ni_cw39, List.forall_mem_cons.mpr ⟨ni_cw40, List.forall_mem_cons.mpr ⟨ni_cw41, List.forall_mem_cons.mpr ⟨ni_cw42, List.forall_mem_cons.mpr ⟨ni_cw43, List.forall_mem_cons.mpr ⟨ni_cw44, List.forall_mem_cons.mpr ⟨ni_cw45, List.forall_mem_cons.mpr ⟨ni_cw46, List.forall_mem_cons.mpr ⟨ni_cw47, List.forall_mem_cons.mpr ⟨ni_cw48, List.forall_mem_cons.mpr ⟨ni_cw49, List.forall_mem_cons.mpr ⟨ni_cw50, List.forall_mem_cons.mpr ⟨ni_cw51, List.forall_mem_cons.mpr ⟨ni_cw52, List.forall_mem_cons.mpr ⟨ni_cw53, List.forall_mem_cons.mpr ⟨ni_cw54, List.forall_mem_cons.mpr ⟨ni_cw55, List.forall_mem_cons.mpr ⟨ni_cw56, List.forall_mem_cons.mpr ⟨ni_cw57, List.forall_mem_cons.mpr ⟨ni_cw58, List.forall_mem_cons.mpr ⟨ni_cw59, List.forall_mem_cons.mpr ⟨ni_cw60, List.forall_mem_cons.mpr ⟨ni_cw61, List.forall_mem_cons.mpr ⟨ni_cw62, List.forall_mem_cons.mpr ⟨ni_cw63, List.forall_mem_cons.mpr ⟨ni_cw64, List.forall_mem_cons.mpr ⟨ni_cw65, List.forall_mem_cons.mpr ⟨ni_cw66, List.forall_mem_cons.mpr ⟨ni_cw67, List.forall_mem_cons.mpr ⟨ni_cw68, List.forall_mem_cons.mpr ⟨ni_cw69, List.forall_mem_cons.mpr ⟨ni_cw70, List.forall_mem_cons.mpr ⟨ni_cw71, List.forall_mem_cons.mpr ⟨ni_cw72, List.forall_mem_cons.mpr ⟨ni_cw73, List.forall_mem_cons.mpr ⟨ni_cw74, List.forall_mem_cons.mpr ⟨ni_cw75, List.forall_mem_cons.mpr ⟨ni_cw76, List.forall_mem_cons.mpr ⟨ni_cw77, List.forall_mem_cons.mpr ⟨ni_cw78, List.forall_mem_cons.mpr ⟨ni_cw79, List.forall_mem_cons.mpr ⟨ni_cw80, List.forall_mem_cons.mpr ⟨ni_cw81, List.forall_mem_cons.mpr ⟨ni_cw82, List.forall_mem_cons.mpr ⟨ni_cw83, List.forall_mem_cons.mpr ⟨ni_cw84, List.forall_mem_cons.mpr ⟨ni_cw85, List.forall_mem_cons.mpr ⟨ni_cw86, List.forall_mem_cons.mpr ⟨ni_cw87, List.forall_mem_cons.mpr ⟨ni_cw88, List.forall_mem_cons.mpr ⟨ni_cw89, List.forall_mem_cons.mpr ⟨ni_cw90, List.forall_mem_cons.mpr ⟨ni_cw91, List.forall_mem_cons.mpr ⟨ni_cw92, List.forall_mem_cons.mpr ⟨ni_cw93, List.forall_mem_cons.mpr ⟨ni_cw94, List.forall_mem_cons.mpr ⟨ni_cw95, List.forall_mem_cons.mpr ⟨ni_cw96, List.forall_mem_cons.mpr ⟨ni_cw97, List.forall_mem_cons.mpr ⟨ni_cw98, List.forall_mem_cons.mpr ⟨ni_cw99, List.forall_mem_cons.mpr ⟨ni_cw100, List.forall_mem_cons.mpr ⟨ni_cw101, List.forall_mem_cons.mpr ⟨ni_cw102, List.forall_mem_cons.mpr ⟨ni_cw103, List.forall_mem_cons.mpr ⟨ni_cw104, List.forall_mem_cons.mpr ⟨ni_cw105, List.forall_mem_cons.mpr ⟨ni_cw106, List.forall_mem_cons.mpr ⟨ni_cw107, List.forall_mem_cons.mpr ⟨ni_cw108, List.forall_mem_cons.mpr ⟨ni_cw109, List.forall_mem_cons.mpr ⟨ni_cw110, List.forall_mem_cons.mpr ⟨ni_cw111, List.forall_mem_cons.mpr ⟨ni_cw112, List.forall_mem_cons.mpr ⟨ni_cw113, List.forall_mem_cons.mpr ⟨ni_cw114, List.forall_mem_cons.mpr ⟨ni_cw115, List.forall_mem_cons.mpr ⟨ni_cw116, List.forall_mem_cons.mpr ⟨ni_cw117, List.forall_mem_cons.mpr ⟨ni_cw118, List.forall_mem_cons.mpr ⟨ni_cw119, List.forall_mem_cons.mpr ⟨ni_cw120, List.forall_mem_cons.mpr ⟨ni_cw121, List.forall_mem_cons.mpr ⟨ni_cw122, List.forall_mem_cons.mpr ⟨ni_cw123, List.forall_mem_cons.mpr ⟨ni_cw124, List.forall_mem_cons.mpr ⟨ni_cw125, List.forall_mem_cons.mpr ⟨ni_cw126, List.forall_mem_cons.mpr ⟨ni_cw127, List.forall_mem_cons.mpr ⟨ni_cw128, List.forall_mem_cons.mpr ⟨ni_cw129, List.forall_mem_cons.mpr ⟨ni_cw130, List.forall_mem_cons.mpr ⟨ni_cw131, List.forall_mem_cons.mpr ⟨ni_cw132, List.forall_mem_cons.mpr ⟨ni_cw133, List.forall_mem_cons.mpr ⟨ni_cw134, List.forall_mem_cons.mpr ⟨ni_cw135, List.forall_mem_cons.mpr ⟨ni_cw136, List.forall_mem_cons.mpr ⟨ni_cw137, List.forall_mem_cons.mpr ⟨ni_cw138, List.forall_mem_cons.mpr ⟨ni_cw139, List.forall_mem_cons.mpr ⟨ni_cw140, List.forall_mem_cons.mpr ⟨ni_cw141, List.forall_mem_cons.mpr ⟨ni_cw142, List.forall_mem_cons.mpr ⟨ni_cw143, List.forall_mem_cons.mpr ⟨ni_cw144, List.forall_mem_cons.mpr ⟨ni_cw145, List.forall_mem_cons.mpr ⟨ni_cw146, List.forall_mem_cons.mpr ⟨ni_cw147, List.forall_mem_cons.mpr ⟨ni_cw148, List.forall_mem_cons.mpr ⟨ni_cw149, List.forall_mem_cons.mpr ⟨ni_cw150, List.forall_mem_cons.mpr ⟨ni_cw151, List.forall_mem_cons.mpr ⟨ni_cw152, List.forall_mem_cons.mpr ⟨ni_cw153, List.forall_mem_cons.mpr ⟨ni_cw154, List.forall_mem_cons.mpr ⟨ni_cw155, List.forall_mem_cons.mpr ⟨ni_cw156, List.forall_mem_cons.mpr ⟨ni_cw157, List.forall_mem_cons.mpr ⟨ni_cw158, List.forall_mem_cons.mpr ⟨ni_cw159, List.forall_mem_cons.mpr ⟨ni_cw160, List.forall_mem_cons.mpr ⟨ni_cw161, List.forall_mem_cons.mpr ⟨ni_cw162, List.forall_mem_cons.mpr ⟨ni_cw163, List.forall_mem_cons.mpr ⟨ni_cw164, List.forall_mem_cons.mpr ⟨ni_cw165, List.forall_mem_cons.mpr ⟨ni_cw166, List.forall_mem_cons.mpr ⟨ni_cw167, List.forall_mem_cons.mpr ⟨ni_cw168, List.forall_mem_cons.mpr ⟨ni_cw169, List.forall_mem_cons.mpr ⟨ni_cw170, List.forall_mem_cons.mpr ⟨ni_cw171, List.forall_mem_cons.mpr ⟨ni_cw172, List.forall_mem_cons.mpr ⟨ni_cw173, List.forall_mem_cons.mpr ⟨ni_cw174, List.forall_mem_cons.mpr ⟨ni_cw175, List.forall_mem_cons.mpr ⟨ni_cw176, List.forall_mem_cons.mpr ⟨ni_cw177, List.forall_mem_cons.mpr ⟨ni_cw178, List.forall_mem_cons.mpr ⟨ni_cw179, List.forall_mem_cons.mpr ⟨ni_cw180, List.forall_mem_cons.mpr ⟨ni_cw181, List.forall_mem_cons.mpr ⟨ni_cw182, List.forall_mem_cons.mpr ⟨ni_cw183, List.forall_mem_cons.mpr ⟨ni_cw184, List.forall_mem_cons.mpr ⟨ni_cw185, List.forall_mem_cons.mpr ⟨ni_cw186, List.forall_mem_cons.mpr ⟨ni_cw187, List.forall_mem_cons.mpr ⟨ni_cw188, List.forall_mem_cons.mpr ⟨ni_cw189, List.forall_mem_cons.mpr ⟨ni_cw190, List.forall_mem_cons.mpr ⟨ni_cw191, List.forall_mem_cons.mpr ⟨ni_cw192, List.forall_mem_cons.mpr ⟨ni_cw193, List.forall_mem_cons.mpr ⟨ni_cw194, List.forall_mem_cons.mpr ⟨ni_cw195, List.forall_mem_cons.mpr ⟨ni_cw196, List.forall_mem_cons.mpr ⟨ni_cw197, List.forall_mem_cons.mpr ⟨ni_cw198, List.forall_mem_cons.mpr ⟨ni_cw200, List.forall_mem_cons.mpr ⟨ni_cw201, List.forall_mem_cons.mpr ⟨ni_cw202, List.forall_mem_cons.mpr ⟨ni_cw203, List.forall_mem_cons.mpr ⟨ni_cw204, List.forall_mem_cons.mpr ⟨ni_cw205, List.forall_mem_cons.mpr ⟨ni_cw206, List.forall_mem_cons.mpr ⟨ni_cw207, List.forall_mem_cons.mpr ⟨ni_cw208, List.forall_mem_cons.mpr ⟨ni_cw209, fun _ h => absurd h List.not_mem_nil⟩⟩⟩⟩⟩⟩⟩⟩⟩⟩⟩⟩⟩⟩⟩⟩⟩⟩⟩⟩⟩⟩⟩⟩⟩⟩⟩⟩⟩⟩⟩⟩⟩⟩⟩⟩⟩⟩⟩⟩⟩⟩⟩⟩⟩⟩⟩⟩⟩⟩⟩⟩⟩⟩⟩⟩⟩⟩⟩⟩⟩⟩⟩⟩⟩⟩⟩⟩⟩⟩⟩⟩⟩⟩⟩⟩⟩⟩⟩⟩⟩⟩⟩⟩⟩⟩⟩⟩⟩⟩⟩⟩⟩⟩⟩⟩⟩⟩⟩⟩⟩⟩⟩⟩⟩⟩⟩⟩⟩⟩⟩⟩⟩⟩⟩⟩⟩⟩⟩⟩⟩⟩⟩⟩⟩⟩⟩⟩⟩⟩⟩⟩⟩⟩⟩⟩⟩⟩⟩⟩⟩⟩⟩⟩⟩⟩⟩⟩⟩⟩⟩⟩⟩⟩⟩⟩⟩⟩⟩⟩⟩⟩⟩⟩⟩⟩⟩⟩⟩⟩⟩⟩⟩⟩⟩⟩⟩⟩⟩⟩⟩⟩⟩⟩⟩⟩⟩⟩⟩⟩⟩⟩⟩⟩⟩⟩⟩⟩⟩⟩⟩⟩⟩⟩⟩⟩⟩⟩⟩
