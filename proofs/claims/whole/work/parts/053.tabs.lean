/-! ===== what the tables say of links, fields and methods ===== -/
def ni_TB : List Cond := lw_tbl.filter goodWord
theorem ni_TB_mem {w : Cond} {i : Nat} (h : lw_tbl[i]? = some w) (g : goodWord w = true) : w ∈ ni_TB := List.mem_filter.mpr ⟨List.mem_of_getElem? h, g⟩
def ni_cn (i : Nat) : String := (bif Nat.blt i 7 then (bif Nat.blt i 3 then (bif Nat.blt i 1 then "FiveStones$Acts" else (bif Nat.blt i 2 then "FiveStones$Hand" else "FiveStones$Mind")) else (bif Nat.blt i 5 then (bif Nat.blt i 4 then "FiveStones$Reader" else "FiveStones$Shelf") else (bif Nat.blt i 6 then "FiveStones$Table" else "FiveStones"))) else (bif Nat.blt i 10 then (bif Nat.blt i 8 then "FiveStonesModel" else (bif Nat.blt i 9 then "FiveStonesLaw" else "java/lang/Integer")) else (bif Nat.blt i 12 then (bif Nat.blt i 11 then "java/lang/String" else "java/lang/StringLatin1") else (bif Nat.blt i 13 then "jdk/internal/util/Preconditions" else "java/util/Arrays"))))
def ni_fl : List (Nat × Nat × Nat × Nat × Nat) := [(1, 27, 1, 0, 107), (0, 42, 1, 0, 108), (1, 9, 1, 1, 109), (0, 19, 1, 1, 110), (6, 133, 1, 1, 111), (1, 15, 1, 2, 112), (0, 45, 1, 2, 113), (6, 136, 1, 2, 114), (1, 18, 1, 3, 115), (3, 82, 1, 3, 116), (6, 139, 1, 3, 117), (1, 21, 1, 4, 118), (6, 142, 1, 4, 119), (1, 24, 1, 5, 120), (5, 61, 1, 5, 121), (6, 145, 1, 5, 122), (5, 9, 5, 0, 137), (2, 47, 5, 0, 138), (3, 71, 5, 0, 139), (6, 161, 5, 0, 140), (5, 17, 5, 1, 141), (6, 227, 5, 1, 142), (5, 21, 5, 2, 143), (3, 75, 5, 2, 144), (6, 221, 5, 2, 145), (5, 25, 5, 3, 146), (3, 87, 5, 3, 147), (6, 168, 5, 3, 148), (5, 28, 5, 4, 149), (6, 275, 5, 4, 150), (5, 31, 5, 5, 151), (6, 281, 5, 5, 152), (2, 9, 2, 0, 172), (6, 188, 2, 0, 173), (2, 15, 2, 1, 174), (6, 211, 2, 1, 175), (2, 18, 2, 2, 176), (6, 214, 2, 2, 177), (2, 21, 2, 3, 178), (2, 24, 2, 4, 179), (2, 27, 2, 5, 180), (6, 194, 2, 5, 181), (2, 31, 2, 6, 182), (6, 265, 2, 6, 183), (0, 11, 0, 0, 205), (0, 15, 0, 1, 206), (6, 296, 0, 1, 207), (3, 9, 3, 0, 219), (6, 179, 3, 0, 220), (3, 15, 3, 1, 221), (3, 18, 3, 2, 222), (4, 9, 4, 0, 235), (6, 93, 4, 0, 236), (4, 15, 4, 1, 237), (6, 103, 4, 1, 238), (4, 19, 4, 2, 239), (6, 110, 4, 2, 240), (4, 22, 4, 3, 241), (6, 113, 4, 3, 242), (4, 25, 4, 4, 243), (3, 25, 4, 4, 244), (6, 78, 4, 4, 245), (6, 11, 6, 0, 258), (6, 18, 6, 1, 259), (6, 22, 6, 2, 260), (6, 25, 6, 3, 261), (6, 31, 6, 4, 262), (6, 38, 6, 5, 263), (6, 45, 6, 6, 264), (6, 49, 6, 7, 265), (6, 53, 6, 8, 266), (6, 57, 6, 9, 267), (7, 72, 7, 0, 847), (7, 112, 7, 1, 848), (7, 154, 7, 2, 849), (7, 7, 7, 3, 850), (7, 13, 7, 4, 851), (7, 16, 7, 5, 852), (7, 20, 7, 6, 853), (7, 23, 7, 7, 854), (7, 26, 7, 8, 855), (7, 29, 7, 9, 856), (7, 32, 7, 10, 857), (7, 35, 7, 11, 858), (7, 38, 7, 12, 859), (7, 41, 7, 13, 860), (7, 44, 7, 14, 861), (7, 47, 7, 15, 862), (7, 50, 7, 16, 863), (7, 54, 7, 17, 864), (7, 57, 7, 18, 865), (7, 60, 7, 19, 866), (7, 124, 7, 20, 867), (7, 118, 7, 21, 868), (7, 121, 7, 22, 869), (7, 127, 7, 23, 870), (7, 115, 7, 24, 871), (7, 63, 7, 25, 872), (7, 66, 7, 26, 873), (7, 179, 7, 27, 874), (7, 196, 7, 28, 875), (7, 211, 7, 29, 876), (7, 69, 7, 30, 877), (7, 230, 7, 31, 878), (7, 246, 7, 32, 879)]
def ni_flc (e : Nat × Nat × Nat × Nat × Nat) : Bool := match vwCl[e.2.2.1]? with
  | some (C, T, N) => Nat.ble (e.2.2.2.1 + 1) N && decide (lw_tbl[e.2.2.2.2]? = some (Cond.fieldLink (ni_cn e.1) e.2.1 C (T e.2.2.2.1).2.1 (T e.2.2.2.1).2.2.1)) && decide ((T e.2.2.2.1).1 = C)
  | none => false
set_option maxRecDepth 100000 in
theorem ni_fl_ok : ni_fl.all ni_flc = true := by decide +kernel
def ni_ml : List (Nat × Nat × Nat × Nat) := [(8, 9, 66, 83), (6, 17, 46, 93), (5, 34, 209, 99), (5, 40, 6, 103), (8, 13, 67, 289), (6, 62, 107, 293), (6, 66, 105, 297), (6, 70, 42, 301), (4, 28, 208, 305), (8, 20, 68, 308), (6, 74, 111, 312), (6, 81, 43, 315), (8, 25, 69, 319), (6, 85, 112, 323), (6, 89, 45, 326), (8, 30, 70, 333), (8, 35, 71, 337), (6, 106, 48, 341), (8, 40, 72, 345), (8, 45, 73, 349), (6, 116, 9, 353), (6, 122, 13, 359), (1, 34, 12, 363), (1, 38, 10, 367), (1, 42, 11, 371), (8, 49, 74, 375), (6, 125, 49, 379), (6, 129, 50, 383), (5, 53, 49, 387), (5, 57, 7, 388), (8, 53, 75, 392), (6, 148, 11, 396), (6, 152, 12, 397), (8, 57, 76, 398), (6, 155, 106, 402), (6, 158, 55, 406), (8, 61, 77, 410), (8, 65, 78, 414), (6, 164, 110, 418), (6, 224, 108, 421), (8, 69, 79, 424), (8, 73, 80, 428), (6, 171, 47, 432), (5, 49, 8, 437), (6, 175, 28, 441), (3, 21, 29, 445), (3, 34, 35, 449), (3, 90, 37, 453), (3, 94, 36, 461), (3, 98, 201, 465), (10, 335, 203, 469), (3, 108, 44, 475), (3, 112, 202, 479), (10, 492, 204, 483), (10, 495, 206, 487), (11, 9, 205, 490), (10, 1059, 207, 495), (3, 38, 49, 520), (3, 44, 30, 521), (3, 59, 38, 525), (3, 30, 39, 529), (3, 126, 40, 533), (3, 63, 50, 536), (3, 47, 31, 537), (3, 67, 55, 541), (3, 50, 32, 542), (3, 53, 33, 546), (3, 78, 48, 550), (3, 56, 34, 551), (8, 77, 81, 556), (8, 82, 82, 560), (6, 182, 54, 564), (5, 64, 53, 568), (6, 185, 16, 575), (2, 34, 53, 579), (2, 40, 58, 580), (2, 50, 17, 591), (2, 54, 18, 595), (8, 86, 83, 603), (6, 191, 109, 607), (6, 197, 19, 610), (2, 67, 10, 614), (2, 73, 200, 615), (2, 78, 12, 621), (2, 81, 20, 622), (2, 84, 11, 626), (8, 90, 84, 628), (6, 201, 21, 632), (2, 90, 19, 636), (6, 205, 22, 637), (8, 94, 85, 641), (6, 208, 210, 645), (6, 217, 23, 649), (2, 95, 24, 654), (2, 99, 25, 658), (2, 103, 22, 661), (8, 98, 86, 662), (8, 102, 87, 666), (8, 106, 88, 670), (8, 110, 89, 674), (8, 114, 90, 679), (6, 236, 113, 683), (6, 240, 44, 687), (6, 243, 51, 689), (8, 118, 91, 693), (8, 122, 92, 697), (8, 127, 93, 702), (6, 249, 56, 706), (6, 252, 57, 711), (5, 81, 58, 715), (6, 255, 59, 716), (5, 84, 60, 720), (8, 131, 94, 725), (6, 258, 114, 729), (6, 262, 26, 732), (2, 107, 44, 736), (8, 135, 95, 738), (8, 139, 96, 742), (6, 268, 115, 746), (6, 299, 61, 750), (6, 302, 62, 755), (6, 290, 53, 759), (6, 306, 14, 760), (6, 309, 63, 764), (5, 92, 51, 768), (8, 143, 97, 769), (6, 272, 64, 773), (5, 95, 61, 777), (5, 98, 65, 778), (5, 101, 55, 782), (8, 147, 98, 783), (6, 278, 116, 787), (8, 151, 99, 791), (8, 155, 100, 795), (6, 284, 1, 799), (0, 24, 3, 803), (0, 28, 4, 807), (0, 35, 5, 813), (8, 159, 101, 817), (6, 287, 2, 821), (8, 163, 102, 825), (8, 167, 103, 829), (8, 171, 104, 833), (6, 293, 52, 837), (8, 12, 119, 843), (8, 17, 125, 947), (7, 75, 122, 951), (7, 79, 120, 955), (8, 24, 126, 959), (8, 29, 127, 963), (8, 34, 128, 967), (8, 39, 129, 971), (7, 83, 123, 975), (8, 44, 130, 979), (8, 48, 131, 983), (7, 86, 162, 987), (7, 89, 160, 991), (7, 93, 161, 995), (8, 52, 136, 999), (7, 99, 135, 1003), (8, 56, 137, 1007), (8, 60, 139, 1011), (7, 102, 124, 1015), (7, 105, 121, 1019), (7, 108, 138, 1023), (8, 64, 140, 1027), (8, 68, 141, 1031), (8, 72, 142, 1035), (8, 76, 154, 1039), (7, 96, 132, 1043), (7, 157, 153, 1047), (7, 150, 152, 1051), (7, 161, 151, 1055), (7, 137, 146, 1059), (7, 134, 145, 1063), (7, 140, 147, 1067), (7, 144, 149, 1071), (7, 130, 148, 1075), (7, 147, 150, 1079), (8, 81, 155, 1083), (8, 85, 159, 1087), (7, 173, 158, 1091), (7, 170, 143, 1095), (7, 167, 157, 1099), (7, 164, 156, 1103), (8, 89, 164, 1107), (7, 182, 163, 1111), (7, 176, 144, 1115), (8, 93, 166, 1119), (7, 186, 165, 1123), (8, 97, 170, 1127), (7, 199, 169, 1131), (7, 202, 168, 1135), (7, 190, 167, 1139), (8, 101, 171, 1145), (8, 105, 172, 1149), (8, 109, 173, 1153), (8, 113, 174, 1157), (8, 117, 176, 1161), (7, 208, 175, 1165), (7, 205, 133, 1169), (8, 121, 177, 1173), (8, 126, 178, 1177), (8, 130, 179, 1181), (8, 134, 181, 1185), (7, 214, 134, 1189), (7, 217, 180, 1193), (8, 138, 182, 1197), (8, 142, 185, 1201), (7, 224, 184, 1205), (7, 221, 183, 1209), (8, 146, 187, 1214), (7, 227, 186, 1218), (8, 150, 188, 1222), (8, 154, 189, 1226), (8, 158, 194, 1230), (7, 237, 191, 1234), (7, 233, 190, 1238), (7, 240, 192, 1242), (7, 243, 193, 1246), (8, 162, 195, 1250), (8, 166, 196, 1254), (8, 170, 197, 1258), (8, 174, 198, 1262)]
def ni_mlc (e : Nat × Nat × Nat × Nat) : Bool := decide (lw_tbl[e.2.2.2]? = some (Cond.methodLink (ni_cn e.1) e.2.1 (ni_mt e.2.2.1).1))
set_option maxRecDepth 100000 in
theorem ni_ml_ok : ni_ml.all ni_mlc = true := by decide +kernel
def ni_mn : List (Nat × Nat × Nat) := [(6, 30, 15), (6, 37, 0), (6, 44, 27), (6, 61, 41), (5, 68, 118), (5, 72, 117), (2, 44, 118), (2, 58, 117), (2, 112, 109)]
/-- method, kind (0 static, 1 of an object, 2 a constructor), the places of its words, how many parameters -/
def ni_mf : List (Nat × Nat × Nat × Nat × Nat × Nat × Nat) := [(0, 2, 203, 202, 0, 70, 0), (1, 1, 802, 800, 801, 70, 3), (2, 1, 824, 822, 823, 70, 1), (3, 1, 806, 805, 21, 70, 5), (4, 0, 809, 808, 0, 70, 2), (5, 1, 816, 815, 22, 70, 1), (6, 2, 105, 104, 0, 68, 1), (7, 1, 391, 389, 390, 68, 2), (8, 1, 440, 438, 439, 68, 1), (9, 1, 356, 354, 355, 68, 1), (10, 1, 370, 368, 369, 68, 1), (11, 1, 374, 372, 373, 68, 0), (12, 1, 366, 364, 365, 68, 0), (13, 1, 362, 360, 361, 68, 1), (14, 1, 763, 761, 762, 68, 0), (15, 2, 170, 169, 0, 69, 0), (16, 1, 578, 576, 577, 69, 1), (17, 1, 594, 593, 13, 69, 2), (18, 1, 598, 597, 14, 69, 3), (19, 1, 613, 611, 612, 69, 4), (20, 1, 625, 624, 15, 69, 2), (21, 1, 635, 633, 634, 69, 3), (22, 1, 640, 638, 639, 69, 3), (23, 1, 652, 650, 651, 69, 2), (24, 1, 657, 656, 17, 69, 3), (25, 0, 660, 659, 0, 69, 3), (26, 1, 735, 733, 734, 69, 3), (27, 2, 217, 216, 0, 71, 0), (28, 1, 444, 442, 443, 71, 2), (29, 1, 448, 447, 3, 71, 2), (30, 1, 524, 523, 6, 71, 2), (31, 1, 540, 539, 9, 71, 2), (32, 1, 545, 544, 10, 71, 2), (33, 1, 549, 548, 11, 71, 2), (34, 1, 554, 553, 12, 71, 2), (35, 1, 452, 451, 4, 71, 1), (36, 1, 464, 463, 5, 71, 2), (37, 0, 455, 454, 0, 71, 1), (38, 1, 528, 527, 7, 71, 3), (39, 1, 532, 531, 8, 71, 2), (40, 0, 535, 534, 0, 71, 1), (41, 2, 233, 232, 0, 72, 0), (42, 1, 304, 302, 303, 72, 2), (43, 1, 318, 316, 317, 72, 2), (44, 1, 478, 476, 477, 72, 1), (45, 1, 329, 327, 328, 72, 2), (46, 2, 95, 94, 0, 66, 0), (47, 1, 435, 433, 434, 66, 1), (48, 1, 344, 342, 343, 66, 1), (49, 1, 382, 380, 381, 66, 0), (50, 1, 386, 384, 385, 66, 2), (51, 1, 692, 690, 691, 66, 1), (52, 1, 840, 838, 839, 66, 0), (53, 1, 571, 569, 570, 66, 0), (54, 1, 567, 565, 566, 66, 1), (55, 1, 409, 407, 408, 66, 2), (56, 1, 709, 707, 708, 66, 0), (57, 1, 714, 712, 713, 66, 0), (58, 1, 583, 581, 582, 66, 2), (59, 1, 719, 717, 718, 66, 0), (60, 1, 723, 721, 722, 66, 1), (61, 1, 753, 751, 752, 66, 1), (62, 1, 758, 756, 757, 66, 1), (63, 1, 767, 765, 766, 66, 0), (64, 1, 776, 774, 775, 66, 1), (65, 1, 781, 779, 780, 66, 2), (66, 2, 85, 84, 0, 65, 0), (67, 1, 292, 290, 291, 65, 3), (68, 1, 311, 309, 310, 65, 3), (69, 1, 322, 320, 321, 65, 5), (70, 1, 336, 334, 335, 65, 2), (71, 1, 340, 338, 339, 65, 2), (72, 1, 348, 346, 347, 65, 1), (73, 1, 352, 350, 351, 65, 2), (74, 1, 378, 376, 377, 65, 2), (75, 1, 395, 393, 394, 65, 2), (76, 1, 401, 399, 400, 65, 2), (77, 1, 413, 411, 412, 65, 1), (78, 1, 417, 415, 416, 65, 2), (79, 1, 427, 425, 426, 65, 1), (80, 1, 431, 429, 430, 65, 1), (81, 1, 559, 557, 558, 65, 0), (82, 1, 563, 561, 562, 65, 1), (83, 1, 606, 604, 605, 65, 3), (84, 1, 631, 629, 630, 65, 3), (85, 1, 644, 642, 643, 65, 2), (86, 1, 665, 663, 664, 65, 2), (87, 1, 669, 667, 668, 65, 1), (88, 1, 673, 671, 672, 65, 1), (89, 1, 677, 675, 676, 65, 1), (90, 1, 682, 680, 681, 65, 3), (91, 1, 696, 694, 695, 65, 2), (92, 1, 700, 698, 699, 65, 0), (93, 1, 705, 703, 704, 65, 1), (94, 1, 728, 726, 727, 65, 3), (95, 1, 741, 739, 740, 65, 3), (96, 1, 745, 743, 744, 65, 2), (97, 1, 772, 770, 771, 65, 1), (98, 1, 786, 784, 785, 65, 1), (99, 1, 794, 792, 793, 65, 1), (100, 1, 798, 796, 797, 65, 3), (101, 1, 820, 818, 819, 65, 1), (102, 1, 828, 826, 827, 65, 0), (103, 1, 832, 830, 831, 65, 0), (104, 1, 836, 834, 835, 65, 1), (105, 1, 300, 299, 1, 65, 1), (106, 1, 405, 404, 2, 65, 1), (107, 1, 296, 295, 0, 65, 1), (108, 0, 423, 422, 0, 65, 1), (109, 0, 609, 608, 0, 65, 1), (110, 0, 420, 419, 0, 65, 2), (111, 0, 314, 313, 0, 65, 1), (112, 0, 325, 324, 0, 65, 3), (113, 1, 686, 685, 18, 65, 1), (114, 0, 731, 730, 0, 65, 3), (115, 1, 749, 748, 19, 65, 3), (116, 1, 790, 789, 20, 65, 0), (117, 0, 586, 585, 0, 65, 2), (118, 0, 574, 573, 0, 65, 2), (119, 2, 845, 844, 0, 73, 0), (120, 1, 958, 957, 24, 73, 1), (121, 1, 1022, 1021, 31, 73, 1), (122, 1, 954, 953, 23, 73, 1), (123, 1, 978, 977, 25, 73, 1), (124, 1, 1018, 1017, 30, 73, 1), (125, 1, 950, 948, 949, 73, 3), (126, 1, 962, 960, 961, 73, 3), (127, 1, 966, 964, 965, 73, 5), (128, 1, 970, 968, 969, 73, 2), (129, 1, 974, 972, 973, 73, 2), (130, 1, 982, 980, 981, 73, 1), (131, 1, 986, 984, 985, 73, 2), (132, 1, 1046, 1045, 33, 73, 1), (133, 1, 1172, 1171, 54, 73, 2), (134, 1, 1192, 1191, 55, 73, 3), (135, 1, 1006, 1005, 29, 73, 2), (136, 1, 1002, 1000, 1001, 73, 2), (137, 1, 1010, 1008, 1009, 73, 2), (138, 1, 1026, 1025, 32, 73, 2), (139, 1, 1014, 1012, 1013, 73, 2), (140, 1, 1030, 1028, 1029, 73, 1), (141, 1, 1034, 1032, 1033, 73, 2), (142, 1, 1038, 1036, 1037, 73, 1), (143, 1, 1098, 1097, 44, 73, 0), (144, 1, 1118, 1117, 48, 73, 1), (145, 1, 1066, 1065, 38, 73, 1), (146, 1, 1062, 1061, 37, 73, 1), (147, 1, 1070, 1069, 39, 73, 0), (148, 1, 1078, 1077, 41, 73, 0), (149, 1, 1074, 1073, 40, 73, 0), (150, 1, 1082, 1081, 42, 73, 2), (151, 1, 1058, 1057, 36, 73, 0), (152, 1, 1054, 1053, 35, 73, 5), (153, 1, 1050, 1049, 34, 73, 2), (154, 1, 1042, 1040, 1041, 73, 1), (155, 1, 1086, 1084, 1085, 73, 0), (156, 1, 1106, 1105, 46, 73, 2), (157, 1, 1102, 1101, 45, 73, 2), (158, 1, 1094, 1093, 43, 73, 1), (159, 1, 1090, 1088, 1089, 73, 1), (160, 1, 994, 993, 27, 73, 2), (161, 1, 998, 997, 28, 73, 1), (162, 1, 990, 989, 26, 73, 1), (163, 1, 1114, 1113, 47, 73, 3), (164, 1, 1110, 1108, 1109, 73, 3), (165, 1, 1126, 1125, 49, 73, 2), (166, 1, 1122, 1120, 1121, 73, 3), (167, 1, 1142, 1141, 52, 73, 4), (168, 1, 1138, 1137, 51, 73, 2), (169, 1, 1134, 1133, 50, 73, 1), (170, 1, 1130, 1128, 1129, 73, 2), (171, 1, 1148, 1146, 1147, 73, 2), (172, 1, 1152, 1150, 1151, 73, 1), (173, 1, 1156, 1154, 1155, 73, 1), (174, 1, 1160, 1158, 1159, 73, 1), (175, 1, 1168, 1167, 53, 73, 1), (176, 1, 1164, 1162, 1163, 73, 3), (177, 1, 1176, 1174, 1175, 73, 2), (178, 1, 1180, 1178, 1179, 73, 0), (179, 1, 1184, 1182, 1183, 73, 1), (180, 1, 1196, 1195, 56, 73, 3), (181, 1, 1188, 1186, 1187, 73, 3), (182, 1, 1200, 1198, 1199, 73, 3), (183, 1, 1212, 1211, 58, 73, 1), (184, 1, 1208, 1207, 57, 73, 2), (185, 1, 1204, 1202, 1203, 73, 2), (186, 1, 1221, 1220, 59, 73, 1), (187, 1, 1217, 1215, 1216, 73, 1), (188, 1, 1225, 1223, 1224, 73, 1), (189, 1, 1229, 1227, 1228, 73, 1), (190, 1, 1241, 1240, 61, 73, 1), (191, 1, 1237, 1236, 60, 73, 2), (192, 1, 1245, 1244, 62, 73, 2), (193, 1, 1249, 1248, 63, 73, 2), (194, 1, 1233, 1231, 1232, 73, 3), (195, 1, 1253, 1251, 1252, 73, 1), (196, 1, 1257, 1255, 1256, 73, 0), (197, 1, 1261, 1259, 1260, 73, 0), (198, 1, 1265, 1263, 1264, 73, 1), (200, 0, 617, 616, 0, 80, 1), (201, 1, 468, 466, 467, 75, 0), (202, 1, 482, 480, 481, 75, 1), (203, 1, 472, 470, 471, 75, 0), (204, 1, 486, 484, 485, 75, 0), (205, 0, 492, 491, 0, 75, 2), (206, 0, 489, 488, 0, 76, 2), (207, 0, 497, 496, 0, 77, 3), (208, 0, 307, 306, 0, 67, 2), (209, 0, 101, 100, 0, 67, 2), (210, 1, 648, 647, 16, 65, 2)]
def ni_mfc (e : Nat × Nat × Nat × Nat × Nat × Nat × Nat) : Bool := match e with
  | (m, k, _, p1, p2, p3, np) => match ni_mt m with
    | (y, _, ml, _, own) => (match k with
      | 0 => decide (lw_tbl[p1]? = some (Cond.static y))
      | 1 => decide (lw_tbl[p1]? = some (Cond.instanceMethod y)) && decide (lw_tbl[p2]? = some (Cond.selects y.cls y y))
      | _ => decide (lw_tbl[p1]? = some (Cond.instanceMethod y)) && decide (y.name = "<init>")) && decide (lw_tbl[p3]? = some (Cond.initialized y.cls)) && decide (y.cls = ni_cn own) && plainName y.cls && decide (y.cls ≠ "java/lang/invoke/MethodHandle") && decide (y.cls ≠ "java/lang/invoke/VarHandle") && decide ((parseMethodDescriptor y.desc).map (fun d => d.parameters.length) = some np) && Nat.ble ml 20
set_option maxRecDepth 100000 in
theorem ni_mf_ok : ni_mf.all ni_mfc = true := by decide +kernel
/-- the code words -/
def ni_cw (m : Nat) : Cond := Cond.code (ni_mt m).1 (ni_mt m).2.1 (ni_mt m).2.2.1 (ni_mt m).2.2.2.1
theorem ni_in1 {w : Cond} (h : w ∈ tables_1_1) : w ∈ lw_tbl := List.mem_append_right _ (List.mem_append_left _ h)
theorem ni_in2 {w : Cond} (h : w ∈ tables_1_2) : w ∈ lw_tbl := List.mem_append_right _ (List.mem_append_right _ (List.mem_append_left _ h))
theorem ni_in3 {w : Cond} (h : w ∈ tables_1_3) : w ∈ lw_tbl := List.mem_append_right _ (List.mem_append_right _ (List.mem_append_right _ (List.mem_append_left _ h)))
theorem ni_in4 {w : Cond} (h : w ∈ tables_1_4) : w ∈ lw_tbl := List.mem_append_right _ (List.mem_append_right _ (List.mem_append_right _ (List.mem_append_right _ (List.mem_append_left _ h))))
theorem ni_in5 {w : Cond} (h : w ∈ tables_1_5) : w ∈ lw_tbl := List.mem_append_right _ (List.mem_append_right _ (List.mem_append_right _ (List.mem_append_right _ (List.mem_append_right _ (List.mem_append_left _ h)))))
theorem ni_in6 {w : Cond} (h : w ∈ tables_1_6) : w ∈ lw_tbl := List.mem_append_right _ (List.mem_append_right _ (List.mem_append_right _ (List.mem_append_right _ (List.mem_append_right _ (List.mem_append_right _ h)))))
set_option maxRecDepth 100000 in
theorem ni_cw0 : ni_cw 0 ∈ lw_tbl := ni_in1 (List.mem_of_getElem? (i := 139) rfl)
set_option maxRecDepth 100000 in
theorem ni_cw1 : ni_cw 1 ∈ lw_tbl := ni_in4 (List.mem_of_getElem? (i := 18) rfl)
set_option maxRecDepth 100000 in
theorem ni_cw2 : ni_cw 2 ∈ lw_tbl := ni_in4 (List.mem_of_getElem? (i := 40) rfl)
set_option maxRecDepth 100000 in
theorem ni_cw3 : ni_cw 3 ∈ lw_tbl := ni_in4 (List.mem_of_getElem? (i := 22) rfl)
set_option maxRecDepth 100000 in
theorem ni_cw4 : ni_cw 4 ∈ lw_tbl := ni_in4 (List.mem_of_getElem? (i := 25) rfl)
set_option maxRecDepth 100000 in
theorem ni_cw5 : ni_cw 5 ∈ lw_tbl := ni_in4 (List.mem_of_getElem? (i := 32) rfl)
set_option maxRecDepth 100000 in
theorem ni_cw6 : ni_cw 6 ∈ lw_tbl := ni_in1 (List.mem_of_getElem? (i := 41) rfl)
set_option maxRecDepth 100000 in
theorem ni_cw7 : ni_cw 7 ∈ lw_tbl := ni_in2 (List.mem_of_getElem? (i := 87) rfl)
set_option maxRecDepth 100000 in
theorem ni_cw8 : ni_cw 8 ∈ lw_tbl := ni_in2 (List.mem_of_getElem? (i := 136) rfl)
set_option maxRecDepth 100000 in
theorem ni_cw9 : ni_cw 9 ∈ lw_tbl := ni_in2 (List.mem_of_getElem? (i := 52) rfl)
set_option maxRecDepth 100000 in
theorem ni_cw10 : ni_cw 10 ∈ lw_tbl := ni_in2 (List.mem_of_getElem? (i := 66) rfl)
set_option maxRecDepth 100000 in
theorem ni_cw11 : ni_cw 11 ∈ lw_tbl := ni_in2 (List.mem_of_getElem? (i := 70) rfl)
set_option maxRecDepth 100000 in
theorem ni_cw12 : ni_cw 12 ∈ lw_tbl := ni_in2 (List.mem_of_getElem? (i := 62) rfl)
set_option maxRecDepth 100000 in
theorem ni_cw13 : ni_cw 13 ∈ lw_tbl := ni_in2 (List.mem_of_getElem? (i := 58) rfl)
set_option maxRecDepth 100000 in
theorem ni_cw14 : ni_cw 14 ∈ lw_tbl := ni_in3 (List.mem_of_getElem? (i := 219) rfl)
set_option maxRecDepth 100000 in
theorem ni_cw15 : ni_cw 15 ∈ lw_tbl := ni_in1 (List.mem_of_getElem? (i := 106) rfl)
set_option maxRecDepth 100000 in
theorem ni_cw16 : ni_cw 16 ∈ lw_tbl := ni_in3 (List.mem_of_getElem? (i := 34) rfl)
set_option maxRecDepth 100000 in
theorem ni_cw17 : ni_cw 17 ∈ lw_tbl := ni_in3 (List.mem_of_getElem? (i := 50) rfl)
set_option maxRecDepth 100000 in
theorem ni_cw18 : ni_cw 18 ∈ lw_tbl := ni_in3 (List.mem_of_getElem? (i := 54) rfl)
set_option maxRecDepth 100000 in
theorem ni_cw19 : ni_cw 19 ∈ lw_tbl := ni_in3 (List.mem_of_getElem? (i := 69) rfl)
set_option maxRecDepth 100000 in
theorem ni_cw20 : ni_cw 20 ∈ lw_tbl := ni_in3 (List.mem_of_getElem? (i := 81) rfl)
set_option maxRecDepth 100000 in
theorem ni_cw21 : ni_cw 21 ∈ lw_tbl := ni_in3 (List.mem_of_getElem? (i := 91) rfl)
set_option maxRecDepth 100000 in
theorem ni_cw22 : ni_cw 22 ∈ lw_tbl := ni_in3 (List.mem_of_getElem? (i := 96) rfl)
set_option maxRecDepth 100000 in
theorem ni_cw23 : ni_cw 23 ∈ lw_tbl := ni_in3 (List.mem_of_getElem? (i := 108) rfl)
set_option maxRecDepth 100000 in
theorem ni_cw24 : ni_cw 24 ∈ lw_tbl := ni_in3 (List.mem_of_getElem? (i := 113) rfl)
set_option maxRecDepth 100000 in
theorem ni_cw25 : ni_cw 25 ∈ lw_tbl := ni_in3 (List.mem_of_getElem? (i := 116) rfl)
set_option maxRecDepth 100000 in
theorem ni_cw26 : ni_cw 26 ∈ lw_tbl := ni_in3 (List.mem_of_getElem? (i := 191) rfl)
set_option maxRecDepth 100000 in
theorem ni_cw27 : ni_cw 27 ∈ lw_tbl := ni_in1 (List.mem_of_getElem? (i := 153) rfl)
set_option maxRecDepth 100000 in
theorem ni_cw28 : ni_cw 28 ∈ lw_tbl := ni_in2 (List.mem_of_getElem? (i := 140) rfl)
set_option maxRecDepth 100000 in
theorem ni_cw29 : ni_cw 29 ∈ lw_tbl := ni_in2 (List.mem_of_getElem? (i := 144) rfl)
set_option maxRecDepth 100000 in
theorem ni_cw30 : ni_cw 30 ∈ lw_tbl := ni_in2 (List.mem_of_getElem? (i := 220) rfl)
set_option maxRecDepth 100000 in
theorem ni_cw31 : ni_cw 31 ∈ lw_tbl := ni_in2 (List.mem_of_getElem? (i := 236) rfl)
set_option maxRecDepth 100000 in
theorem ni_cw32 : ni_cw 32 ∈ lw_tbl := ni_in3 (List.mem_of_getElem? (i := 1) rfl)
set_option maxRecDepth 100000 in
theorem ni_cw33 : ni_cw 33 ∈ lw_tbl := ni_in3 (List.mem_of_getElem? (i := 5) rfl)
set_option maxRecDepth 100000 in
theorem ni_cw34 : ni_cw 34 ∈ lw_tbl := ni_in3 (List.mem_of_getElem? (i := 10) rfl)
set_option maxRecDepth 100000 in
theorem ni_cw35 : ni_cw 35 ∈ lw_tbl := ni_in2 (List.mem_of_getElem? (i := 148) rfl)
set_option maxRecDepth 100000 in
theorem ni_cw36 : ni_cw 36 ∈ lw_tbl := ni_in2 (List.mem_of_getElem? (i := 160) rfl)
set_option maxRecDepth 100000 in
theorem ni_cw37 : ni_cw 37 ∈ lw_tbl := ni_in2 (List.mem_of_getElem? (i := 151) rfl)
set_option maxRecDepth 100000 in
theorem ni_cw38 : ni_cw 38 ∈ lw_tbl := ni_in2 (List.mem_of_getElem? (i := 224) rfl)
set_option maxRecDepth 100000 in
theorem ni_cw39 : ni_cw 39 ∈ lw_tbl := ni_in2 (List.mem_of_getElem? (i := 228) rfl)
set_option maxRecDepth 100000 in
theorem ni_cw40 : ni_cw 40 ∈ lw_tbl := ni_in2 (List.mem_of_getElem? (i := 231) rfl)
set_option maxRecDepth 100000 in
theorem ni_cw41 : ni_cw 41 ∈ lw_tbl := ni_in1 (List.mem_of_getElem? (i := 169) rfl)
set_option maxRecDepth 100000 in
theorem ni_cw42 : ni_cw 42 ∈ lw_tbl := ni_in2 (List.mem_of_getElem? (i := 0) rfl)
set_option maxRecDepth 100000 in
theorem ni_cw43 : ni_cw 43 ∈ lw_tbl := ni_in2 (List.mem_of_getElem? (i := 14) rfl)
set_option maxRecDepth 100000 in
theorem ni_cw44 : ni_cw 44 ∈ lw_tbl := ni_in2 (List.mem_of_getElem? (i := 174) rfl)
set_option maxRecDepth 100000 in
theorem ni_cw45 : ni_cw 45 ∈ lw_tbl := ni_in2 (List.mem_of_getElem? (i := 25) rfl)
set_option maxRecDepth 100000 in
theorem ni_cw46 : ni_cw 46 ∈ lw_tbl := ni_in1 (List.mem_of_getElem? (i := 31) rfl)
set_option maxRecDepth 100000 in
theorem ni_cw47 : ni_cw 47 ∈ lw_tbl := ni_in2 (List.mem_of_getElem? (i := 131) rfl)
set_option maxRecDepth 100000 in
theorem ni_cw48 : ni_cw 48 ∈ lw_tbl := ni_in2 (List.mem_of_getElem? (i := 40) rfl)
set_option maxRecDepth 100000 in
theorem ni_cw49 : ni_cw 49 ∈ lw_tbl := ni_in2 (List.mem_of_getElem? (i := 78) rfl)
set_option maxRecDepth 100000 in
theorem ni_cw50 : ni_cw 50 ∈ lw_tbl := ni_in2 (List.mem_of_getElem? (i := 82) rfl)
set_option maxRecDepth 100000 in
theorem ni_cw51 : ni_cw 51 ∈ lw_tbl := ni_in3 (List.mem_of_getElem? (i := 148) rfl)
set_option maxRecDepth 100000 in
theorem ni_cw52 : ni_cw 52 ∈ lw_tbl := ni_in4 (List.mem_of_getElem? (i := 56) rfl)
set_option maxRecDepth 100000 in
theorem ni_cw53 : ni_cw 53 ∈ lw_tbl := ni_in3 (List.mem_of_getElem? (i := 27) rfl)
set_option maxRecDepth 100000 in
theorem ni_cw54 : ni_cw 54 ∈ lw_tbl := ni_in3 (List.mem_of_getElem? (i := 23) rfl)
set_option maxRecDepth 100000 in
theorem ni_cw55 : ni_cw 55 ∈ lw_tbl := ni_in2 (List.mem_of_getElem? (i := 105) rfl)
set_option maxRecDepth 100000 in
theorem ni_cw56 : ni_cw 56 ∈ lw_tbl := ni_in3 (List.mem_of_getElem? (i := 165) rfl)
set_option maxRecDepth 100000 in
theorem ni_cw57 : ni_cw 57 ∈ lw_tbl := ni_in3 (List.mem_of_getElem? (i := 170) rfl)
set_option maxRecDepth 100000 in
theorem ni_cw58 : ni_cw 58 ∈ lw_tbl := ni_in3 (List.mem_of_getElem? (i := 39) rfl)
set_option maxRecDepth 100000 in
theorem ni_cw59 : ni_cw 59 ∈ lw_tbl := ni_in3 (List.mem_of_getElem? (i := 175) rfl)
set_option maxRecDepth 100000 in
theorem ni_cw60 : ni_cw 60 ∈ lw_tbl := ni_in3 (List.mem_of_getElem? (i := 179) rfl)
set_option maxRecDepth 100000 in
theorem ni_cw61 : ni_cw 61 ∈ lw_tbl := ni_in3 (List.mem_of_getElem? (i := 209) rfl)
set_option maxRecDepth 100000 in
theorem ni_cw62 : ni_cw 62 ∈ lw_tbl := ni_in3 (List.mem_of_getElem? (i := 214) rfl)
set_option maxRecDepth 100000 in
theorem ni_cw63 : ni_cw 63 ∈ lw_tbl := ni_in3 (List.mem_of_getElem? (i := 223) rfl)
set_option maxRecDepth 100000 in
theorem ni_cw64 : ni_cw 64 ∈ lw_tbl := ni_in3 (List.mem_of_getElem? (i := 232) rfl)
set_option maxRecDepth 100000 in
theorem ni_cw65 : ni_cw 65 ∈ lw_tbl := ni_in3 (List.mem_of_getElem? (i := 237) rfl)
set_option maxRecDepth 100000 in
theorem ni_cw66 : ni_cw 66 ∈ lw_tbl := ni_in1 (List.mem_of_getElem? (i := 21) rfl)
set_option maxRecDepth 100000 in
theorem ni_cw67 : ni_cw 67 ∈ lw_tbl := ni_in1 (List.mem_of_getElem? (i := 228) rfl)
set_option maxRecDepth 100000 in
theorem ni_cw68 : ni_cw 68 ∈ lw_tbl := ni_in2 (List.mem_of_getElem? (i := 7) rfl)
set_option maxRecDepth 100000 in
theorem ni_cw69 : ni_cw 69 ∈ lw_tbl := ni_in2 (List.mem_of_getElem? (i := 18) rfl)
set_option maxRecDepth 100000 in
theorem ni_cw70 : ni_cw 70 ∈ lw_tbl := ni_in2 (List.mem_of_getElem? (i := 32) rfl)
set_option maxRecDepth 100000 in
theorem ni_cw71 : ni_cw 71 ∈ lw_tbl := ni_in2 (List.mem_of_getElem? (i := 36) rfl)
set_option maxRecDepth 100000 in
theorem ni_cw72 : ni_cw 72 ∈ lw_tbl := ni_in2 (List.mem_of_getElem? (i := 44) rfl)
set_option maxRecDepth 100000 in
theorem ni_cw73 : ni_cw 73 ∈ lw_tbl := ni_in2 (List.mem_of_getElem? (i := 48) rfl)
set_option maxRecDepth 100000 in
theorem ni_cw74 : ni_cw 74 ∈ lw_tbl := ni_in2 (List.mem_of_getElem? (i := 74) rfl)
set_option maxRecDepth 100000 in
theorem ni_cw75 : ni_cw 75 ∈ lw_tbl := ni_in2 (List.mem_of_getElem? (i := 91) rfl)
set_option maxRecDepth 100000 in
theorem ni_cw76 : ni_cw 76 ∈ lw_tbl := ni_in2 (List.mem_of_getElem? (i := 97) rfl)
set_option maxRecDepth 100000 in
theorem ni_cw77 : ni_cw 77 ∈ lw_tbl := ni_in2 (List.mem_of_getElem? (i := 109) rfl)
set_option maxRecDepth 100000 in
theorem ni_cw78 : ni_cw 78 ∈ lw_tbl := ni_in2 (List.mem_of_getElem? (i := 113) rfl)
set_option maxRecDepth 100000 in
theorem ni_cw79 : ni_cw 79 ∈ lw_tbl := ni_in2 (List.mem_of_getElem? (i := 123) rfl)
set_option maxRecDepth 100000 in
theorem ni_cw80 : ni_cw 80 ∈ lw_tbl := ni_in2 (List.mem_of_getElem? (i := 127) rfl)
set_option maxRecDepth 100000 in
theorem ni_cw81 : ni_cw 81 ∈ lw_tbl := ni_in3 (List.mem_of_getElem? (i := 15) rfl)
set_option maxRecDepth 100000 in
theorem ni_cw82 : ni_cw 82 ∈ lw_tbl := ni_in3 (List.mem_of_getElem? (i := 19) rfl)
set_option maxRecDepth 100000 in
theorem ni_cw83 : ni_cw 83 ∈ lw_tbl := ni_in3 (List.mem_of_getElem? (i := 62) rfl)
set_option maxRecDepth 100000 in
theorem ni_cw84 : ni_cw 84 ∈ lw_tbl := ni_in3 (List.mem_of_getElem? (i := 87) rfl)
set_option maxRecDepth 100000 in
theorem ni_cw85 : ni_cw 85 ∈ lw_tbl := ni_in3 (List.mem_of_getElem? (i := 100) rfl)
set_option maxRecDepth 100000 in
theorem ni_cw86 : ni_cw 86 ∈ lw_tbl := ni_in3 (List.mem_of_getElem? (i := 121) rfl)
set_option maxRecDepth 100000 in
theorem ni_cw87 : ni_cw 87 ∈ lw_tbl := ni_in3 (List.mem_of_getElem? (i := 125) rfl)
set_option maxRecDepth 100000 in
theorem ni_cw88 : ni_cw 88 ∈ lw_tbl := ni_in3 (List.mem_of_getElem? (i := 129) rfl)
set_option maxRecDepth 100000 in
theorem ni_cw89 : ni_cw 89 ∈ lw_tbl := ni_in3 (List.mem_of_getElem? (i := 133) rfl)
set_option maxRecDepth 100000 in
theorem ni_cw90 : ni_cw 90 ∈ lw_tbl := ni_in3 (List.mem_of_getElem? (i := 138) rfl)
set_option maxRecDepth 100000 in
theorem ni_cw91 : ni_cw 91 ∈ lw_tbl := ni_in3 (List.mem_of_getElem? (i := 152) rfl)
set_option maxRecDepth 100000 in
theorem ni_cw92 : ni_cw 92 ∈ lw_tbl := ni_in3 (List.mem_of_getElem? (i := 156) rfl)
set_option maxRecDepth 100000 in
theorem ni_cw93 : ni_cw 93 ∈ lw_tbl := ni_in3 (List.mem_of_getElem? (i := 161) rfl)
set_option maxRecDepth 100000 in
theorem ni_cw94 : ni_cw 94 ∈ lw_tbl := ni_in3 (List.mem_of_getElem? (i := 184) rfl)
set_option maxRecDepth 100000 in
theorem ni_cw95 : ni_cw 95 ∈ lw_tbl := ni_in3 (List.mem_of_getElem? (i := 197) rfl)
set_option maxRecDepth 100000 in
theorem ni_cw96 : ni_cw 96 ∈ lw_tbl := ni_in3 (List.mem_of_getElem? (i := 201) rfl)
set_option maxRecDepth 100000 in
theorem ni_cw97 : ni_cw 97 ∈ lw_tbl := ni_in3 (List.mem_of_getElem? (i := 228) rfl)
set_option maxRecDepth 100000 in
theorem ni_cw98 : ni_cw 98 ∈ lw_tbl := ni_in4 (List.mem_of_getElem? (i := 2) rfl)
set_option maxRecDepth 100000 in
theorem ni_cw99 : ni_cw 99 ∈ lw_tbl := ni_in4 (List.mem_of_getElem? (i := 10) rfl)
set_option maxRecDepth 100000 in
theorem ni_cw100 : ni_cw 100 ∈ lw_tbl := ni_in4 (List.mem_of_getElem? (i := 14) rfl)
set_option maxRecDepth 100000 in
theorem ni_cw101 : ni_cw 101 ∈ lw_tbl := ni_in4 (List.mem_of_getElem? (i := 36) rfl)
set_option maxRecDepth 100000 in
theorem ni_cw102 : ni_cw 102 ∈ lw_tbl := ni_in4 (List.mem_of_getElem? (i := 44) rfl)
set_option maxRecDepth 100000 in
theorem ni_cw103 : ni_cw 103 ∈ lw_tbl := ni_in4 (List.mem_of_getElem? (i := 48) rfl)
set_option maxRecDepth 100000 in
theorem ni_cw104 : ni_cw 104 ∈ lw_tbl := ni_in4 (List.mem_of_getElem? (i := 52) rfl)
set_option maxRecDepth 100000 in
theorem ni_cw105 : ni_cw 105 ∈ lw_tbl := ni_in1 (List.mem_of_getElem? (i := 236) rfl)
set_option maxRecDepth 100000 in
theorem ni_cw106 : ni_cw 106 ∈ lw_tbl := ni_in2 (List.mem_of_getElem? (i := 101) rfl)
set_option maxRecDepth 100000 in
theorem ni_cw107 : ni_cw 107 ∈ lw_tbl := ni_in1 (List.mem_of_getElem? (i := 232) rfl)
set_option maxRecDepth 100000 in
theorem ni_cw108 : ni_cw 108 ∈ lw_tbl := ni_in2 (List.mem_of_getElem? (i := 119) rfl)
set_option maxRecDepth 100000 in
theorem ni_cw109 : ni_cw 109 ∈ lw_tbl := ni_in3 (List.mem_of_getElem? (i := 65) rfl)
set_option maxRecDepth 100000 in
theorem ni_cw110 : ni_cw 110 ∈ lw_tbl := ni_in2 (List.mem_of_getElem? (i := 116) rfl)
set_option maxRecDepth 100000 in
theorem ni_cw111 : ni_cw 111 ∈ lw_tbl := ni_in2 (List.mem_of_getElem? (i := 10) rfl)
set_option maxRecDepth 100000 in
theorem ni_cw112 : ni_cw 112 ∈ lw_tbl := ni_in2 (List.mem_of_getElem? (i := 21) rfl)
set_option maxRecDepth 100000 in
theorem ni_cw113 : ni_cw 113 ∈ lw_tbl := ni_in3 (List.mem_of_getElem? (i := 142) rfl)
set_option maxRecDepth 100000 in
theorem ni_cw114 : ni_cw 114 ∈ lw_tbl := ni_in3 (List.mem_of_getElem? (i := 187) rfl)
set_option maxRecDepth 100000 in
theorem ni_cw115 : ni_cw 115 ∈ lw_tbl := ni_in3 (List.mem_of_getElem? (i := 205) rfl)
set_option maxRecDepth 100000 in
theorem ni_cw116 : ni_cw 116 ∈ lw_tbl := ni_in4 (List.mem_of_getElem? (i := 6) rfl)
set_option maxRecDepth 100000 in
theorem ni_cw117 : ni_cw 117 ∈ lw_tbl := ni_in3 (List.mem_of_getElem? (i := 42) rfl)
set_option maxRecDepth 100000 in
theorem ni_cw118 : ni_cw 118 ∈ lw_tbl := ni_in3 (List.mem_of_getElem? (i := 30) rfl)
set_option maxRecDepth 100000 in
theorem ni_cw119 : ni_cw 119 ∈ lw_tbl := ni_in4 (List.mem_of_getElem? (i := 61) rfl)
set_option maxRecDepth 100000 in
theorem ni_cw120 : ni_cw 120 ∈ lw_tbl := ni_in4 (List.mem_of_getElem? (i := 174) rfl)
set_option maxRecDepth 100000 in
theorem ni_cw121 : ni_cw 121 ∈ lw_tbl := ni_in4 (List.mem_of_getElem? (i := 238) rfl)
set_option maxRecDepth 100000 in
theorem ni_cw122 : ni_cw 122 ∈ lw_tbl := ni_in4 (List.mem_of_getElem? (i := 170) rfl)
set_option maxRecDepth 100000 in
theorem ni_cw123 : ni_cw 123 ∈ lw_tbl := ni_in4 (List.mem_of_getElem? (i := 194) rfl)
set_option maxRecDepth 100000 in
theorem ni_cw124 : ni_cw 124 ∈ lw_tbl := ni_in4 (List.mem_of_getElem? (i := 234) rfl)
set_option maxRecDepth 100000 in
theorem ni_cw125 : ni_cw 125 ∈ lw_tbl := ni_in4 (List.mem_of_getElem? (i := 166) rfl)
set_option maxRecDepth 100000 in
theorem ni_cw126 : ni_cw 126 ∈ lw_tbl := ni_in4 (List.mem_of_getElem? (i := 178) rfl)
set_option maxRecDepth 100000 in
theorem ni_cw127 : ni_cw 127 ∈ lw_tbl := ni_in4 (List.mem_of_getElem? (i := 182) rfl)
set_option maxRecDepth 100000 in
theorem ni_cw128 : ni_cw 128 ∈ lw_tbl := ni_in4 (List.mem_of_getElem? (i := 186) rfl)
set_option maxRecDepth 100000 in
theorem ni_cw129 : ni_cw 129 ∈ lw_tbl := ni_in4 (List.mem_of_getElem? (i := 190) rfl)
set_option maxRecDepth 100000 in
theorem ni_cw130 : ni_cw 130 ∈ lw_tbl := ni_in4 (List.mem_of_getElem? (i := 198) rfl)
set_option maxRecDepth 100000 in
theorem ni_cw131 : ni_cw 131 ∈ lw_tbl := ni_in4 (List.mem_of_getElem? (i := 202) rfl)
set_option maxRecDepth 100000 in
theorem ni_cw132 : ni_cw 132 ∈ lw_tbl := ni_in5 (List.mem_of_getElem? (i := 22) rfl)
set_option maxRecDepth 100000 in
theorem ni_cw133 : ni_cw 133 ∈ lw_tbl := ni_in5 (List.mem_of_getElem? (i := 148) rfl)
set_option maxRecDepth 100000 in
theorem ni_cw134 : ni_cw 134 ∈ lw_tbl := ni_in5 (List.mem_of_getElem? (i := 168) rfl)
set_option maxRecDepth 100000 in
theorem ni_cw135 : ni_cw 135 ∈ lw_tbl := ni_in4 (List.mem_of_getElem? (i := 222) rfl)
set_option maxRecDepth 100000 in
theorem ni_cw136 : ni_cw 136 ∈ lw_tbl := ni_in4 (List.mem_of_getElem? (i := 218) rfl)
set_option maxRecDepth 100000 in
theorem ni_cw137 : ni_cw 137 ∈ lw_tbl := ni_in4 (List.mem_of_getElem? (i := 226) rfl)
set_option maxRecDepth 100000 in
theorem ni_cw138 : ni_cw 138 ∈ lw_tbl := ni_in5 (List.mem_of_getElem? (i := 2) rfl)
set_option maxRecDepth 100000 in
theorem ni_cw139 : ni_cw 139 ∈ lw_tbl := ni_in4 (List.mem_of_getElem? (i := 230) rfl)
set_option maxRecDepth 100000 in
theorem ni_cw140 : ni_cw 140 ∈ lw_tbl := ni_in5 (List.mem_of_getElem? (i := 6) rfl)
set_option maxRecDepth 100000 in
theorem ni_cw141 : ni_cw 141 ∈ lw_tbl := ni_in5 (List.mem_of_getElem? (i := 10) rfl)
set_option maxRecDepth 100000 in
theorem ni_cw142 : ni_cw 142 ∈ lw_tbl := ni_in5 (List.mem_of_getElem? (i := 14) rfl)
set_option maxRecDepth 100000 in
theorem ni_cw143 : ni_cw 143 ∈ lw_tbl := ni_in5 (List.mem_of_getElem? (i := 74) rfl)
set_option maxRecDepth 100000 in
theorem ni_cw144 : ni_cw 144 ∈ lw_tbl := ni_in5 (List.mem_of_getElem? (i := 94) rfl)
set_option maxRecDepth 100000 in
theorem ni_cw145 : ni_cw 145 ∈ lw_tbl := ni_in5 (List.mem_of_getElem? (i := 42) rfl)
set_option maxRecDepth 100000 in
theorem ni_cw146 : ni_cw 146 ∈ lw_tbl := ni_in5 (List.mem_of_getElem? (i := 38) rfl)
set_option maxRecDepth 100000 in
theorem ni_cw147 : ni_cw 147 ∈ lw_tbl := ni_in5 (List.mem_of_getElem? (i := 46) rfl)
set_option maxRecDepth 100000 in
theorem ni_cw148 : ni_cw 148 ∈ lw_tbl := ni_in5 (List.mem_of_getElem? (i := 54) rfl)
set_option maxRecDepth 100000 in
theorem ni_cw149 : ni_cw 149 ∈ lw_tbl := ni_in5 (List.mem_of_getElem? (i := 50) rfl)
set_option maxRecDepth 100000 in
theorem ni_cw150 : ni_cw 150 ∈ lw_tbl := ni_in5 (List.mem_of_getElem? (i := 58) rfl)
set_option maxRecDepth 100000 in
theorem ni_cw151 : ni_cw 151 ∈ lw_tbl := ni_in5 (List.mem_of_getElem? (i := 34) rfl)
set_option maxRecDepth 100000 in
theorem ni_cw152 : ni_cw 152 ∈ lw_tbl := ni_in5 (List.mem_of_getElem? (i := 30) rfl)
set_option maxRecDepth 100000 in
theorem ni_cw153 : ni_cw 153 ∈ lw_tbl := ni_in5 (List.mem_of_getElem? (i := 26) rfl)
set_option maxRecDepth 100000 in
theorem ni_cw154 : ni_cw 154 ∈ lw_tbl := ni_in5 (List.mem_of_getElem? (i := 18) rfl)
set_option maxRecDepth 100000 in
theorem ni_cw155 : ni_cw 155 ∈ lw_tbl := ni_in5 (List.mem_of_getElem? (i := 62) rfl)
set_option maxRecDepth 100000 in
theorem ni_cw156 : ni_cw 156 ∈ lw_tbl := ni_in5 (List.mem_of_getElem? (i := 82) rfl)
set_option maxRecDepth 100000 in
theorem ni_cw157 : ni_cw 157 ∈ lw_tbl := ni_in5 (List.mem_of_getElem? (i := 78) rfl)
set_option maxRecDepth 100000 in
theorem ni_cw158 : ni_cw 158 ∈ lw_tbl := ni_in5 (List.mem_of_getElem? (i := 70) rfl)
set_option maxRecDepth 100000 in
theorem ni_cw159 : ni_cw 159 ∈ lw_tbl := ni_in5 (List.mem_of_getElem? (i := 66) rfl)
set_option maxRecDepth 100000 in
theorem ni_cw160 : ni_cw 160 ∈ lw_tbl := ni_in4 (List.mem_of_getElem? (i := 210) rfl)
set_option maxRecDepth 100000 in
theorem ni_cw161 : ni_cw 161 ∈ lw_tbl := ni_in4 (List.mem_of_getElem? (i := 214) rfl)
set_option maxRecDepth 100000 in
theorem ni_cw162 : ni_cw 162 ∈ lw_tbl := ni_in4 (List.mem_of_getElem? (i := 206) rfl)
set_option maxRecDepth 100000 in
theorem ni_cw163 : ni_cw 163 ∈ lw_tbl := ni_in5 (List.mem_of_getElem? (i := 90) rfl)
set_option maxRecDepth 100000 in
theorem ni_cw164 : ni_cw 164 ∈ lw_tbl := ni_in5 (List.mem_of_getElem? (i := 86) rfl)
set_option maxRecDepth 100000 in
theorem ni_cw165 : ni_cw 165 ∈ lw_tbl := ni_in5 (List.mem_of_getElem? (i := 102) rfl)
set_option maxRecDepth 100000 in
theorem ni_cw166 : ni_cw 166 ∈ lw_tbl := ni_in5 (List.mem_of_getElem? (i := 98) rfl)
set_option maxRecDepth 100000 in
theorem ni_cw167 : ni_cw 167 ∈ lw_tbl := ni_in5 (List.mem_of_getElem? (i := 118) rfl)
set_option maxRecDepth 100000 in
theorem ni_cw168 : ni_cw 168 ∈ lw_tbl := ni_in5 (List.mem_of_getElem? (i := 114) rfl)
set_option maxRecDepth 100000 in
theorem ni_cw169 : ni_cw 169 ∈ lw_tbl := ni_in5 (List.mem_of_getElem? (i := 110) rfl)
set_option maxRecDepth 100000 in
theorem ni_cw170 : ni_cw 170 ∈ lw_tbl := ni_in5 (List.mem_of_getElem? (i := 106) rfl)
set_option maxRecDepth 100000 in
theorem ni_cw171 : ni_cw 171 ∈ lw_tbl := ni_in5 (List.mem_of_getElem? (i := 124) rfl)
set_option maxRecDepth 100000 in
theorem ni_cw172 : ni_cw 172 ∈ lw_tbl := ni_in5 (List.mem_of_getElem? (i := 128) rfl)
set_option maxRecDepth 100000 in
theorem ni_cw173 : ni_cw 173 ∈ lw_tbl := ni_in5 (List.mem_of_getElem? (i := 132) rfl)
set_option maxRecDepth 100000 in
theorem ni_cw174 : ni_cw 174 ∈ lw_tbl := ni_in5 (List.mem_of_getElem? (i := 136) rfl)
set_option maxRecDepth 100000 in
theorem ni_cw175 : ni_cw 175 ∈ lw_tbl := ni_in5 (List.mem_of_getElem? (i := 144) rfl)
set_option maxRecDepth 100000 in
theorem ni_cw176 : ni_cw 176 ∈ lw_tbl := ni_in5 (List.mem_of_getElem? (i := 140) rfl)
set_option maxRecDepth 100000 in
theorem ni_cw177 : ni_cw 177 ∈ lw_tbl := ni_in5 (List.mem_of_getElem? (i := 152) rfl)
set_option maxRecDepth 100000 in
theorem ni_cw178 : ni_cw 178 ∈ lw_tbl := ni_in5 (List.mem_of_getElem? (i := 156) rfl)
set_option maxRecDepth 100000 in
theorem ni_cw179 : ni_cw 179 ∈ lw_tbl := ni_in5 (List.mem_of_getElem? (i := 160) rfl)
set_option maxRecDepth 100000 in
theorem ni_cw180 : ni_cw 180 ∈ lw_tbl := ni_in5 (List.mem_of_getElem? (i := 172) rfl)
set_option maxRecDepth 100000 in
theorem ni_cw181 : ni_cw 181 ∈ lw_tbl := ni_in5 (List.mem_of_getElem? (i := 164) rfl)
set_option maxRecDepth 100000 in
theorem ni_cw182 : ni_cw 182 ∈ lw_tbl := ni_in5 (List.mem_of_getElem? (i := 176) rfl)
set_option maxRecDepth 100000 in
theorem ni_cw183 : ni_cw 183 ∈ lw_tbl := ni_in5 (List.mem_of_getElem? (i := 188) rfl)
set_option maxRecDepth 100000 in
theorem ni_cw184 : ni_cw 184 ∈ lw_tbl := ni_in5 (List.mem_of_getElem? (i := 184) rfl)
set_option maxRecDepth 100000 in
theorem ni_cw185 : ni_cw 185 ∈ lw_tbl := ni_in5 (List.mem_of_getElem? (i := 180) rfl)
set_option maxRecDepth 100000 in
theorem ni_cw186 : ni_cw 186 ∈ lw_tbl := ni_in5 (List.mem_of_getElem? (i := 197) rfl)
set_option maxRecDepth 100000 in
theorem ni_cw187 : ni_cw 187 ∈ lw_tbl := ni_in5 (List.mem_of_getElem? (i := 193) rfl)
set_option maxRecDepth 100000 in
theorem ni_cw188 : ni_cw 188 ∈ lw_tbl := ni_in5 (List.mem_of_getElem? (i := 201) rfl)
set_option maxRecDepth 100000 in
theorem ni_cw189 : ni_cw 189 ∈ lw_tbl := ni_in5 (List.mem_of_getElem? (i := 205) rfl)
set_option maxRecDepth 100000 in
theorem ni_cw190 : ni_cw 190 ∈ lw_tbl := ni_in5 (List.mem_of_getElem? (i := 217) rfl)
set_option maxRecDepth 100000 in
theorem ni_cw191 : ni_cw 191 ∈ lw_tbl := ni_in5 (List.mem_of_getElem? (i := 213) rfl)
set_option maxRecDepth 100000 in
theorem ni_cw192 : ni_cw 192 ∈ lw_tbl := ni_in5 (List.mem_of_getElem? (i := 221) rfl)
set_option maxRecDepth 100000 in
theorem ni_cw193 : ni_cw 193 ∈ lw_tbl := ni_in5 (List.mem_of_getElem? (i := 225) rfl)
set_option maxRecDepth 100000 in
theorem ni_cw194 : ni_cw 194 ∈ lw_tbl := ni_in5 (List.mem_of_getElem? (i := 209) rfl)
set_option maxRecDepth 100000 in
theorem ni_cw195 : ni_cw 195 ∈ lw_tbl := ni_in5 (List.mem_of_getElem? (i := 229) rfl)
set_option maxRecDepth 100000 in
theorem ni_cw196 : ni_cw 196 ∈ lw_tbl := ni_in5 (List.mem_of_getElem? (i := 233) rfl)
set_option maxRecDepth 100000 in
theorem ni_cw197 : ni_cw 197 ∈ lw_tbl := ni_in5 (List.mem_of_getElem? (i := 237) rfl)
set_option maxRecDepth 100000 in
theorem ni_cw198 : ni_cw 198 ∈ lw_tbl := ni_in6 (List.mem_of_getElem? (i := 1) rfl)
set_option maxRecDepth 100000 in
theorem ni_cw200 : ni_cw 200 ∈ lw_tbl := ni_in3 (List.mem_of_getElem? (i := 73) rfl)
set_option maxRecDepth 100000 in
theorem ni_cw201 : ni_cw 201 ∈ lw_tbl := ni_in2 (List.mem_of_getElem? (i := 164) rfl)
set_option maxRecDepth 100000 in
theorem ni_cw202 : ni_cw 202 ∈ lw_tbl := ni_in2 (List.mem_of_getElem? (i := 178) rfl)
set_option maxRecDepth 100000 in
theorem ni_cw203 : ni_cw 203 ∈ lw_tbl := ni_in2 (List.mem_of_getElem? (i := 168) rfl)
set_option maxRecDepth 100000 in
theorem ni_cw204 : ni_cw 204 ∈ lw_tbl := ni_in2 (List.mem_of_getElem? (i := 182) rfl)
set_option maxRecDepth 100000 in
theorem ni_cw205 : ni_cw 205 ∈ lw_tbl := ni_in2 (List.mem_of_getElem? (i := 188) rfl)
set_option maxRecDepth 100000 in
theorem ni_cw206 : ni_cw 206 ∈ lw_tbl := ni_in2 (List.mem_of_getElem? (i := 185) rfl)
set_option maxRecDepth 100000 in
theorem ni_cw207 : ni_cw 207 ∈ lw_tbl := ni_in2 (List.mem_of_getElem? (i := 193) rfl)
set_option maxRecDepth 100000 in
theorem ni_cw208 : ni_cw 208 ∈ lw_tbl := ni_in2 (List.mem_of_getElem? (i := 3) rfl)
set_option maxRecDepth 100000 in
theorem ni_cw209 : ni_cw 209 ∈ lw_tbl := ni_in1 (List.mem_of_getElem? (i := 37) rfl)
set_option maxRecDepth 100000 in
theorem ni_cw210 : ni_cw 210 ∈ lw_tbl := ni_in3 (List.mem_of_getElem? (i := 104) rfl)
set_option maxRecDepth 100000 in
theorem ni_cw_ok : ∀ e ∈ ni_mf, ni_cw e.1 ∈ lw_tbl := List.forall_mem_cons.mpr ⟨ni_cw0, List.forall_mem_cons.mpr ⟨ni_cw1, List.forall_mem_cons.mpr ⟨ni_cw2, List.forall_mem_cons.mpr ⟨ni_cw3, List.forall_mem_cons.mpr ⟨ni_cw4, List.forall_mem_cons.mpr ⟨ni_cw5, List.forall_mem_cons.mpr ⟨ni_cw6, List.forall_mem_cons.mpr ⟨ni_cw7, List.forall_mem_cons.mpr ⟨ni_cw8, List.forall_mem_cons.mpr ⟨ni_cw9, List.forall_mem_cons.mpr ⟨ni_cw10, List.forall_mem_cons.mpr ⟨ni_cw11, List.forall_mem_cons.mpr ⟨ni_cw12, List.forall_mem_cons.mpr ⟨ni_cw13, List.forall_mem_cons.mpr ⟨ni_cw14, List.forall_mem_cons.mpr ⟨ni_cw15, List.forall_mem_cons.mpr ⟨ni_cw16, List.forall_mem_cons.mpr ⟨ni_cw17, List.forall_mem_cons.mpr ⟨ni_cw18, List.forall_mem_cons.mpr ⟨ni_cw19, List.forall_mem_cons.mpr ⟨ni_cw20, List.forall_mem_cons.mpr ⟨ni_cw21, List.forall_mem_cons.mpr ⟨ni_cw22, List.forall_mem_cons.mpr ⟨ni_cw23, List.forall_mem_cons.mpr ⟨ni_cw24, List.forall_mem_cons.mpr ⟨ni_cw25, List.forall_mem_cons.mpr ⟨ni_cw26, List.forall_mem_cons.mpr ⟨ni_cw27, List.forall_mem_cons.mpr ⟨ni_cw28, List.forall_mem_cons.mpr ⟨ni_cw29, List.forall_mem_cons.mpr ⟨ni_cw30, List.forall_mem_cons.mpr ⟨ni_cw31, List.forall_mem_cons.mpr ⟨ni_cw32, List.forall_mem_cons.mpr ⟨ni_cw33, List.forall_mem_cons.mpr ⟨ni_cw34, List.forall_mem_cons.mpr ⟨ni_cw35, List.forall_mem_cons.mpr ⟨ni_cw36, List.forall_mem_cons.mpr ⟨ni_cw37, List.forall_mem_cons.mpr ⟨ni_cw38, List.forall_mem_cons.mpr ⟨ni_cw39, List.forall_mem_cons.mpr ⟨ni_cw40, List.forall_mem_cons.mpr ⟨ni_cw41, List.forall_mem_cons.mpr ⟨ni_cw42, List.forall_mem_cons.mpr ⟨ni_cw43, List.forall_mem_cons.mpr ⟨ni_cw44, List.forall_mem_cons.mpr ⟨ni_cw45, List.forall_mem_cons.mpr ⟨ni_cw46, List.forall_mem_cons.mpr ⟨ni_cw47, List.forall_mem_cons.mpr ⟨ni_cw48, List.forall_mem_cons.mpr ⟨ni_cw49, List.forall_mem_cons.mpr ⟨ni_cw50, List.forall_mem_cons.mpr ⟨ni_cw51, List.forall_mem_cons.mpr ⟨ni_cw52, List.forall_mem_cons.mpr ⟨ni_cw53, List.forall_mem_cons.mpr ⟨ni_cw54, List.forall_mem_cons.mpr ⟨ni_cw55, List.forall_mem_cons.mpr ⟨ni_cw56, List.forall_mem_cons.mpr ⟨ni_cw57, List.forall_mem_cons.mpr ⟨ni_cw58, List.forall_mem_cons.mpr ⟨ni_cw59, List.forall_mem_cons.mpr ⟨ni_cw60, List.forall_mem_cons.mpr ⟨ni_cw61, List.forall_mem_cons.mpr ⟨ni_cw62, List.forall_mem_cons.mpr ⟨ni_cw63, List.forall_mem_cons.mpr ⟨ni_cw64, List.forall_mem_cons.mpr ⟨ni_cw65, List.forall_mem_cons.mpr ⟨ni_cw66, List.forall_mem_cons.mpr ⟨ni_cw67, List.forall_mem_cons.mpr ⟨ni_cw68, List.forall_mem_cons.mpr ⟨ni_cw69, List.forall_mem_cons.mpr ⟨ni_cw70, List.forall_mem_cons.mpr ⟨ni_cw71, List.forall_mem_cons.mpr ⟨ni_cw72, List.forall_mem_cons.mpr ⟨ni_cw73, List.forall_mem_cons.mpr ⟨ni_cw74, List.forall_mem_cons.mpr ⟨ni_cw75, List.forall_mem_cons.mpr ⟨ni_cw76, List.forall_mem_cons.mpr ⟨ni_cw77, List.forall_mem_cons.mpr ⟨ni_cw78, List.forall_mem_cons.mpr ⟨ni_cw79, List.forall_mem_cons.mpr ⟨ni_cw80, List.forall_mem_cons.mpr ⟨ni_cw81, List.forall_mem_cons.mpr ⟨ni_cw82, List.forall_mem_cons.mpr ⟨ni_cw83, List.forall_mem_cons.mpr ⟨ni_cw84, List.forall_mem_cons.mpr ⟨ni_cw85, List.forall_mem_cons.mpr ⟨ni_cw86, List.forall_mem_cons.mpr ⟨ni_cw87, List.forall_mem_cons.mpr ⟨ni_cw88, List.forall_mem_cons.mpr ⟨ni_cw89, List.forall_mem_cons.mpr ⟨ni_cw90, List.forall_mem_cons.mpr ⟨ni_cw91, List.forall_mem_cons.mpr ⟨ni_cw92, List.forall_mem_cons.mpr ⟨ni_cw93, List.forall_mem_cons.mpr ⟨ni_cw94, List.forall_mem_cons.mpr ⟨ni_cw95, List.forall_mem_cons.mpr ⟨ni_cw96, List.forall_mem_cons.mpr ⟨ni_cw97, List.forall_mem_cons.mpr ⟨ni_cw98, List.forall_mem_cons.mpr ⟨ni_cw99, List.forall_mem_cons.mpr ⟨ni_cw100, List.forall_mem_cons.mpr ⟨ni_cw101, List.forall_mem_cons.mpr ⟨ni_cw102, List.forall_mem_cons.mpr ⟨ni_cw103, List.forall_mem_cons.mpr ⟨ni_cw104, List.forall_mem_cons.mpr ⟨ni_cw105, List.forall_mem_cons.mpr ⟨ni_cw106, List.forall_mem_cons.mpr ⟨ni_cw107, List.forall_mem_cons.mpr ⟨ni_cw108, List.forall_mem_cons.mpr ⟨ni_cw109, List.forall_mem_cons.mpr ⟨ni_cw110, List.forall_mem_cons.mpr ⟨ni_cw111, List.forall_mem_cons.mpr ⟨ni_cw112, List.forall_mem_cons.mpr ⟨ni_cw113, List.forall_mem_cons.mpr ⟨ni_cw114, List.forall_mem_cons.mpr ⟨ni_cw115, List.forall_mem_cons.mpr ⟨ni_cw116, List.forall_mem_cons.mpr ⟨ni_cw117, List.forall_mem_cons.mpr ⟨ni_cw118, List.forall_mem_cons.mpr ⟨ni_cw119, List.forall_mem_cons.mpr ⟨ni_cw120, List.forall_mem_cons.mpr ⟨ni_cw121, List.forall_mem_cons.mpr ⟨ni_cw122, List.forall_mem_cons.mpr ⟨ni_cw123, List.forall_mem_cons.mpr ⟨ni_cw124, List.forall_mem_cons.mpr ⟨ni_cw125, List.forall_mem_cons.mpr ⟨ni_cw126, List.forall_mem_cons.mpr ⟨ni_cw127, List.forall_mem_cons.mpr ⟨ni_cw128, List.forall_mem_cons.mpr ⟨ni_cw129, List.forall_mem_cons.mpr ⟨ni_cw130, List.forall_mem_cons.mpr ⟨ni_cw131, List.forall_mem_cons.mpr ⟨ni_cw132, List.forall_mem_cons.mpr ⟨ni_cw133, List.forall_mem_cons.mpr ⟨ni_cw134, List.forall_mem_cons.mpr ⟨ni_cw135, List.forall_mem_cons.mpr ⟨ni_cw136, List.forall_mem_cons.mpr ⟨ni_cw137, List.forall_mem_cons.mpr ⟨ni_cw138, List.forall_mem_cons.mpr ⟨ni_cw139, List.forall_mem_cons.mpr ⟨ni_cw140, List.forall_mem_cons.mpr ⟨ni_cw141, List.forall_mem_cons.mpr ⟨ni_cw142, List.forall_mem_cons.mpr ⟨ni_cw143, List.forall_mem_cons.mpr ⟨ni_cw144, List.forall_mem_cons.mpr ⟨ni_cw145, List.forall_mem_cons.mpr ⟨ni_cw146, List.forall_mem_cons.mpr ⟨ni_cw147, List.forall_mem_cons.mpr ⟨ni_cw148, List.forall_mem_cons.mpr ⟨ni_cw149, List.forall_mem_cons.mpr ⟨ni_cw150, List.forall_mem_cons.mpr ⟨ni_cw151, List.forall_mem_cons.mpr ⟨ni_cw152, List.forall_mem_cons.mpr ⟨ni_cw153, List.forall_mem_cons.mpr ⟨ni_cw154, List.forall_mem_cons.mpr ⟨ni_cw155, List.forall_mem_cons.mpr ⟨ni_cw156, List.forall_mem_cons.mpr ⟨ni_cw157, List.forall_mem_cons.mpr ⟨ni_cw158, List.forall_mem_cons.mpr ⟨ni_cw159, List.forall_mem_cons.mpr ⟨ni_cw160, List.forall_mem_cons.mpr ⟨ni_cw161, List.forall_mem_cons.mpr ⟨ni_cw162, List.forall_mem_cons.mpr ⟨ni_cw163, List.forall_mem_cons.mpr ⟨ni_cw164, List.forall_mem_cons.mpr ⟨ni_cw165, List.forall_mem_cons.mpr ⟨ni_cw166, List.forall_mem_cons.mpr ⟨ni_cw167, List.forall_mem_cons.mpr ⟨ni_cw168, List.forall_mem_cons.mpr ⟨ni_cw169, List.forall_mem_cons.mpr ⟨ni_cw170, List.forall_mem_cons.mpr ⟨ni_cw171, List.forall_mem_cons.mpr ⟨ni_cw172, List.forall_mem_cons.mpr ⟨ni_cw173, List.forall_mem_cons.mpr ⟨ni_cw174, List.forall_mem_cons.mpr ⟨ni_cw175, List.forall_mem_cons.mpr ⟨ni_cw176, List.forall_mem_cons.mpr ⟨ni_cw177, List.forall_mem_cons.mpr ⟨ni_cw178, List.forall_mem_cons.mpr ⟨ni_cw179, List.forall_mem_cons.mpr ⟨ni_cw180, List.forall_mem_cons.mpr ⟨ni_cw181, List.forall_mem_cons.mpr ⟨ni_cw182, List.forall_mem_cons.mpr ⟨ni_cw183, List.forall_mem_cons.mpr ⟨ni_cw184, List.forall_mem_cons.mpr ⟨ni_cw185, List.forall_mem_cons.mpr ⟨ni_cw186, List.forall_mem_cons.mpr ⟨ni_cw187, List.forall_mem_cons.mpr ⟨ni_cw188, List.forall_mem_cons.mpr ⟨ni_cw189, List.forall_mem_cons.mpr ⟨ni_cw190, List.forall_mem_cons.mpr ⟨ni_cw191, List.forall_mem_cons.mpr ⟨ni_cw192, List.forall_mem_cons.mpr ⟨ni_cw193, List.forall_mem_cons.mpr ⟨ni_cw194, List.forall_mem_cons.mpr ⟨ni_cw195, List.forall_mem_cons.mpr ⟨ni_cw196, List.forall_mem_cons.mpr ⟨ni_cw197, List.forall_mem_cons.mpr ⟨ni_cw198, List.forall_mem_cons.mpr ⟨ni_cw200, List.forall_mem_cons.mpr ⟨ni_cw201, List.forall_mem_cons.mpr ⟨ni_cw202, List.forall_mem_cons.mpr ⟨ni_cw203, List.forall_mem_cons.mpr ⟨ni_cw204, List.forall_mem_cons.mpr ⟨ni_cw205, List.forall_mem_cons.mpr ⟨ni_cw206, List.forall_mem_cons.mpr ⟨ni_cw207, List.forall_mem_cons.mpr ⟨ni_cw208, List.forall_mem_cons.mpr ⟨ni_cw209, List.forall_mem_cons.mpr ⟨ni_cw210, fun _ h => absurd h List.not_mem_nil⟩⟩⟩⟩⟩⟩⟩⟩⟩⟩⟩⟩⟩⟩⟩⟩⟩⟩⟩⟩⟩⟩⟩⟩⟩⟩⟩⟩⟩⟩⟩⟩⟩⟩⟩⟩⟩⟩⟩⟩⟩⟩⟩⟩⟩⟩⟩⟩⟩⟩⟩⟩⟩⟩⟩⟩⟩⟩⟩⟩⟩⟩⟩⟩⟩⟩⟩⟩⟩⟩⟩⟩⟩⟩⟩⟩⟩⟩⟩⟩⟩⟩⟩⟩⟩⟩⟩⟩⟩⟩⟩⟩⟩⟩⟩⟩⟩⟩⟩⟩⟩⟩⟩⟩⟩⟩⟩⟩⟩⟩⟩⟩⟩⟩⟩⟩⟩⟩⟩⟩⟩⟩⟩⟩⟩⟩⟩⟩⟩⟩⟩⟩⟩⟩⟩⟩⟩⟩⟩⟩⟩⟩⟩⟩⟩⟩⟩⟩⟩⟩⟩⟩⟩⟩⟩⟩⟩⟩⟩⟩⟩⟩⟩⟩⟩⟩⟩⟩⟩⟩⟩⟩⟩⟩⟩⟩⟩⟩⟩⟩⟩⟩⟩⟩⟩⟩⟩⟩⟩⟩⟩⟩⟩⟩⟩⟩⟩⟩⟩⟩⟩⟩⟩⟩⟩⟩⟩⟩⟩⟩
