set_option maxRecDepth 20000 in
theorem wsL_law_in : ∀ w ∈ wsL_law, w ∈ lw_tbl := fun w h => (goodIn_p wsL_law [75, 78, 83, 90, 142, 162, 181, 196, 210, 747, 263, 267, 271, 278, 281, 285, 289, 293, 297, 301, 305, 308, 312, 316, 833, 836, 840, 844, 848, 851, 855, 320, 324, 328, 859, 863, 332, 336, 341, 345, 867, 871, 875, 350, 354, 358, 879, 883, 363, 367, 371, 375, 379, 383, 887, 891, 895, 899, 902, 387, 391, 906, 395, 399, 403, 406, 412, 416, 422, 419, 910, 913, 917, 920, 426, 430, 434, 438, 442, 446, 450, 453, 457, 460, 464, 468, 472, 478, 924, 928, 932, 936, 940, 944, 482, 486, 948, 490, 495, 499, 503, 508, 512, 952, 956, 960, 964, 968, 972, 518, 976, 522, 980, 527, 984, 531, 989, 535, 538, 993, 997, 542, 1001, 546, 550, 554, 558, 1005, 562, 1009, 567, 1014, 571, 1018, 575, 579, 583, 587, 1022, 1026, 591, 595, 599, 603, 1030, 1034, 608, 1038, 612, 1042, 616, 620, 1046, 624, 628, 1050, 632, 636, 640, 643, 647, 651, 655, 659, 665, 669, 673, 1054, 1058, 1062, 1066, 1070, 1074, 1079, 1083, 1087, 1093, 1097, 1100, 1103, 1108, 1111, 1117, 1120, 1123, 1126, 1131, 1134, 1137, 1146, 1149, 1152, 1156, 1161, 677, 1175, 681, 685, 690, 694, 1179, 1183, 699, 703, 707, 1187, 713, 717, 721, 1191, 1194, 1197, 726, 730, 1205, 734, 1209, 738, 742, 1213] (by decide +kernel) (by decide +kernel) w h).1
theorem inX0 : ∀ w ∈ wsX00, w ∈ lw_tbl := fun w h => wsL_law_in w (inlX0 w h)
theorem inX1 : ∀ w ∈ wsX10, w ∈ lw_tbl := fun w h => wsL_law_in w (inlX1 w h)
theorem inX2 : ∀ w ∈ wsX20, w ∈ lw_tbl := fun w h => wsL_law_in w (inlX2 w h)
theorem inX3 : ∀ w ∈ wsX30, w ∈ lw_tbl := fun w h => wsL_law_in w (inlX3 w h)
theorem inX4 : ∀ w ∈ wsX40, w ∈ lw_tbl := fun w h => wsL_law_in w (inlX4 w h)
theorem inX5 : ∀ w ∈ wsX50, w ∈ lw_tbl := fun w h => wsL_law_in w (inlX5 w h)
theorem inX6 : ∀ w ∈ wsX60, w ∈ lw_tbl := fun w h => wsL_law_in w (inlX6 w h)
theorem inX7 : ∀ w ∈ wsX70, w ∈ lw_tbl := fun w h => wsL_law_in w (inlX7 w h)
theorem inX8 : ∀ w ∈ wsX80, w ∈ lw_tbl := fun w h => wsL_law_in w (inlX8 w h)
theorem inJx145de : ∀ w ∈ wsJx145de0, w ∈ lw_tbl := by decide +kernel
theorem inJx9f9b0 : ∀ w ∈ wsJx9f9b00, w ∈ lw_tbl := by decide +kernel
theorem inJ11 : ∀ w ∈ wsJ110, w ∈ lw_tbl := by decide +kernel
theorem inJxb160c : ∀ w ∈ wsJxb160c0, w ∈ lw_tbl := by decide +kernel
theorem inJxf58ca : ∀ w ∈ wsJxf58ca0, w ∈ lw_tbl := by decide +kernel
theorem inJ6 : ∀ w ∈ wsJ60, w ∈ lw_tbl := by decide +kernel
theorem inJ9 : ∀ w ∈ wsJ90, w ∈ lw_tbl := by decide +kernel
theorem inJxd2413 : ∀ w ∈ wsJxd24130, w ∈ lw_tbl := by decide +kernel
theorem inJ0 : ∀ w ∈ wsJ00, w ∈ lw_tbl := by decide +kernel
theorem inJ1 : ∀ w ∈ wsJ10, w ∈ lw_tbl := by decide +kernel
theorem inJ2 : ∀ w ∈ wsJ20, w ∈ lw_tbl := by decide +kernel
theorem inJ10 : ∀ w ∈ wsJ100, w ∈ lw_tbl := by decide +kernel
theorem inJxfd54e : ∀ w ∈ wsJxfd54e0, w ∈ lw_tbl := by decide +kernel
theorem inJx3cf43 : ∀ w ∈ wsJx3cf430, w ∈ lw_tbl := by decide +kernel
theorem inJ7 : ∀ w ∈ wsJ70, w ∈ lw_tbl := by decide +kernel
theorem inJ3 : ∀ w ∈ wsJ30, w ∈ lw_tbl := by decide +kernel
