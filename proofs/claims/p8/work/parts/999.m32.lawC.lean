set_option maxRecDepth 20000 in
theorem wl_wsL_law_r21 : ∀ w ∈ wsL_law_r21, w ∈ lw_tbl := mem_r _ [569, 11, 570, 571, 573, 12, 574, 575, 576, 577, 578, 1028, 1029, 1030, 1031, 1032, 1034, 40, 1035, 844, 1036, 1038, 41, 1039] (by decide +kernel)
set_option maxRecDepth 20000 in
theorem wl_wsL_law_r22 : ∀ w ∈ wsL_law_r22, w ∈ lw_tbl := mem_r _ [841, 842, 843, 1040, 579, 580, 581, 582, 245, 247, 243, 241, 1041, 1042, 1043, 1044, 583, 584, 585, 586, 587, 588, 589, 590] (by decide +kernel)
set_option maxRecDepth 20000 in
theorem wl_wsL_law_r23 : ∀ w ∈ wsL_law_r23, w ∈ lw_tbl := mem_r _ [328, 239, 592, 327, 118, 606, 591, 593, 595, 13, 596, 304, 303, 597, 598, 599, 600, 601, 602, 604, 14, 605, 607, 608] (by decide +kernel)
set_option maxRecDepth 20000 in
theorem wl_wsL_law_r24 : ∀ w ∈ wsL_law_r24, w ∈ lw_tbl := mem_r _ [609, 610, 611, 612, 613, 614, 616, 15, 617, 122, 618, 619, 620, 621, 622, 623, 624, 626, 628, 16, 629, 630, 632, 17] (by decide +kernel)
set_option maxRecDepth 20000 in
theorem wl_wsL_law_r25 : ∀ w ∈ wsL_law_r25, w ∈ lw_tbl := mem_r _ [633, 634, 636, 18, 637, 638, 640, 19, 641, 642, 644, 20, 645, 646, 647, 648, 650, 21, 651, 652, 653, 654, 655, 656] (by decide +kernel)
set_option maxRecDepth 20000 in
theorem wl_wsL_law_r26 : ∀ w ∈ wsL_law_r26, w ∈ lw_tbl := mem_r _ [658, 22, 659, 660, 661, 662, 663, 301, 664, 665, 666, 667, 300, 668, 669, 670, 671, 672, 673, 674, 675, 676, 677, 678] (by decide +kernel)
set_option maxRecDepth 20000 in
theorem wl_wsL_law_r27 : ∀ w ∈ wsL_law_r27, w ∈ lw_tbl := mem_r _ [679, 680, 681, 682, 1053, 1054, 1055, 1056, 855, 847, 848, 1057, 1059, 43, 1060, 1061, 1063, 44, 1064, 1065, 1067, 45, 1068, 1069] (by decide +kernel)
set_option maxRecDepth 20000 in
theorem wl_wsL_law_r28 : ∀ w ∈ wsL_law_r28, w ∈ lw_tbl := mem_r _ [1071, 46, 1072, 1073, 1075, 47, 1076, 1077, 1079, 48, 1080, 1081, 1082, 1083, 1084, 1086, 49, 1087, 1088, 1090, 50, 1091, 1092, 1094] (by decide +kernel)
set_option maxRecDepth 20000 in
theorem wl_wsL_law_r29 : ∀ w ∈ wsL_law_r29, w ∈ lw_tbl := mem_r _ [51, 1095, 1096, 1098, 52, 1099, 1100, 683, 684, 685, 686, 326, 1101, 1102, 1103, 1104, 687, 688, 689, 690, 691, 693, 23, 694] (by decide +kernel)
set_option maxRecDepth 20000 in
theorem wl_wsL_law_r30 : ∀ w ∈ wsL_law_r30, w ∈ lw_tbl := mem_r _ [324, 695, 696, 697, 698, 699, 1105, 1106, 1107, 1108, 700, 701, 702, 703, 704, 705, 706, 707, 708, 709, 710, 711, 1109, 1110] (by decide +kernel)
set_option maxRecDepth 20000 in
theorem wl_wsL_law_r31 : ∀ w ∈ wsL_law_r31, w ∈ lw_tbl := mem_r _ [1111, 1112, 1113, 1115, 53, 1116, 712, 713, 714, 715, 716, 717, 718, 719, 302, 720, 721, 722, 723, 724, 725, 726, 727, 728] (by decide +kernel)
set_option maxRecDepth 20000 in
theorem wl_wsL_law_r32 : ∀ w ∈ wsL_law_r32, w ∈ lw_tbl := mem_r _ [729, 730, 731, 732, 733, 734, 735, 736, 737, 1117, 1118, 1119, 1120, 1121, 1123, 54, 1124, 738, 739, 740, 741, 742, 743, 744] (by decide +kernel)
set_option maxRecDepth 20000 in
theorem wl_wsL_law_r33 : ∀ w ∈ wsL_law_r33, w ∈ lw_tbl := mem_r _ [745, 746, 747, 748, 749, 750, 751, 753, 24, 754, 755, 756, 1125, 1126, 1127, 1128, 1129, 1131, 55, 1132, 1133, 1135, 56, 1136] (by decide +kernel)
set_option maxRecDepth 20000 in
theorem wl_wsL_law_r34 : ∀ w ∈ wsL_law_r34, w ∈ lw_tbl := mem_r _ [757, 758, 759, 760, 761, 762, 763, 764, 765, 767, 25, 768, 769, 770, 771, 772, 773, 774, 775, 1137, 1138, 1139, 1140, 1141] (by decide +kernel)
set_option maxRecDepth 20000 in
theorem wl_wsL_law_r35 : ∀ w ∈ wsL_law_r35, w ∈ lw_tbl := mem_r _ [1143, 57, 1144, 1145, 1147, 58, 1148, 776, 777, 778, 779, 124, 780, 781, 782, 783, 784, 785, 786, 787, 788, 789, 1149, 1150] (by decide +kernel)
set_option maxRecDepth 20000 in
theorem wl_wsL_law_r36 : ∀ w ∈ wsL_law_r36, w ∈ lw_tbl := mem_r _ [1151, 1152, 790, 791, 792, 793, 1045, 1046, 1047, 1048, 1049, 1051, 42, 1052, 794, 795, 796, 797, 1153, 1154, 1155, 1156, 798, 799] (by decide +kernel)
set_option maxRecDepth 20000 in
theorem wl_wsL_law_r37 : ∀ w ∈ wsL_law_r37, w ∈ lw_tbl := mem_r _ [800, 801, 1157, 1158, 1159, 1160, 802, 803, 804, 805, 148, 806, 807, 808, 809, 810, 811, 812, 813, 100, 814, 815, 1161, 1162] (by decide +kernel)
set_option maxRecDepth 20000 in
theorem wl_wsL_law_r38 : ∀ w ∈ wsL_law_r38, w ∈ lw_tbl := mem_r _ [1163, 1164, 1165, 1167, 59, 1168, 1169, 1171, 60, 1172, 816, 817, 818, 819, 820, 821, 822, 823, 922, 923, 924, 925] (by decide +kernel)
set_option maxRecDepth 20000 in
theorem wl_wsX100 : ∀ w ∈ wsX100, w ∈ lw_tbl := mem_r _ [358, 360, 362, 364, 366, 368] (by decide +kernel)
set_option maxRecDepth 20000 in
theorem wl_wsX110 : ∀ w ∈ wsX110, w ∈ lw_tbl := mem_r _ [860, 862, 864, 866, 868, 870, 872, 874, 876, 878, 880, 882, 884, 886, 888, 890, 892, 894, 896, 898, 900, 902, 904, 906, 908, 910, 912, 914, 916, 918] (by decide +kernel)
set_option maxRecDepth 20000 in
theorem wl_wsX80 : ∀ w ∈ wsX80, w ∈ lw_tbl := mem_r _ [125, 127, 129, 131, 133] (by decide +kernel)
set_option maxRecDepth 20000 in
theorem wl_wsX30 : ∀ w ∈ wsX30, w ∈ lw_tbl := mem_r _ [149, 151, 153] (by decide +kernel)
set_option maxRecDepth 20000 in
theorem wl_wsX20 : ∀ w ∈ wsX20, w ∈ lw_tbl := mem_r _ [172, 174, 176, 178, 180] (by decide +kernel)
set_option maxRecDepth 20000 in
theorem wl_wsX40 : ∀ w ∈ wsX40, w ∈ lw_tbl := mem_r _ [207, 209] (by decide +kernel)
set_option maxRecDepth 20000 in
theorem wl_wsX90 : ∀ w ∈ wsX90, w ∈ lw_tbl := mem_r _ [220, 222] (by decide +kernel)
set_option maxRecDepth 20000 in
theorem wl_wsX00 : ∀ w ∈ wsX00, w ∈ lw_tbl := mem_r _ [248, 250, 252, 254, 256, 258, 260, 262, 264] (by decide +kernel)
set_option maxRecDepth 20000 in
theorem wl_wsX60 : ∀ w ∈ wsX60, w ∈ lw_tbl := mem_r _ [329, 331, 333, 335, 337, 339, 341, 343, 345, 347, 349] (by decide +kernel)
set_option maxRecDepth 20000 in
theorem wl_wsX50 : ∀ w ∈ wsX50, w ∈ lw_tbl := mem_r _ [102, 104] (by decide +kernel)
set_option maxRecDepth 20000 in
theorem wl_wsX70 : ∀ w ∈ wsX70, w ∈ lw_tbl := mem_r _ [286, 288, 290] (by decide +kernel)
set_option maxRecDepth 20000 in
theorem wl_wsX10 : ∀ w ∈ wsX10, w ∈ lw_tbl := mem_r _ [305, 307, 309, 311, 313] (by decide +kernel)
set_option maxRecDepth 20000 in
theorem wsL_law_in : ∀ w ∈ wsL_law, w ∈ lw_tbl := List.forall_mem_append.mpr ⟨List.forall_mem_append.mpr ⟨List.forall_mem_append.mpr ⟨List.forall_mem_append.mpr ⟨List.forall_mem_append.mpr ⟨List.forall_mem_append.mpr ⟨List.forall_mem_append.mpr ⟨List.forall_mem_append.mpr ⟨List.forall_mem_append.mpr ⟨List.forall_mem_append.mpr ⟨List.forall_mem_append.mpr ⟨List.forall_mem_append.mpr ⟨List.forall_mem_append.mpr ⟨List.forall_mem_append.mpr ⟨wl_wsL_law_r1, List.forall_mem_append.mpr ⟨wl_wsL_law_r2, List.forall_mem_append.mpr ⟨wl_wsL_law_r3, List.forall_mem_append.mpr ⟨wl_wsL_law_r4, List.forall_mem_append.mpr ⟨wl_wsL_law_r5, List.forall_mem_append.mpr ⟨wl_wsL_law_r6, List.forall_mem_append.mpr ⟨wl_wsL_law_r7, List.forall_mem_append.mpr ⟨wl_wsL_law_r8, List.forall_mem_append.mpr ⟨wl_wsL_law_r9, List.forall_mem_append.mpr ⟨wl_wsL_law_r10, List.forall_mem_append.mpr ⟨wl_wsL_law_r11, List.forall_mem_append.mpr ⟨wl_wsL_law_r12, List.forall_mem_append.mpr ⟨wl_wsL_law_r13, List.forall_mem_append.mpr ⟨wl_wsL_law_r14, List.forall_mem_append.mpr ⟨wl_wsL_law_r15, List.forall_mem_append.mpr ⟨wl_wsL_law_r16, List.forall_mem_append.mpr ⟨wl_wsL_law_r17, List.forall_mem_append.mpr ⟨wl_wsL_law_r18, List.forall_mem_append.mpr ⟨wl_wsL_law_r19, List.forall_mem_append.mpr ⟨wl_wsL_law_r20, List.forall_mem_append.mpr ⟨wl_wsL_law_r21, List.forall_mem_append.mpr ⟨wl_wsL_law_r22, List.forall_mem_append.mpr ⟨wl_wsL_law_r23, List.forall_mem_append.mpr ⟨wl_wsL_law_r24, List.forall_mem_append.mpr ⟨wl_wsL_law_r25, List.forall_mem_append.mpr ⟨wl_wsL_law_r26, List.forall_mem_append.mpr ⟨wl_wsL_law_r27, List.forall_mem_append.mpr ⟨wl_wsL_law_r28, List.forall_mem_append.mpr ⟨wl_wsL_law_r29, List.forall_mem_append.mpr ⟨wl_wsL_law_r30, List.forall_mem_append.mpr ⟨wl_wsL_law_r31, List.forall_mem_append.mpr ⟨wl_wsL_law_r32, List.forall_mem_append.mpr ⟨wl_wsL_law_r33, List.forall_mem_append.mpr ⟨wl_wsL_law_r34, List.forall_mem_append.mpr ⟨wl_wsL_law_r35, List.forall_mem_append.mpr ⟨wl_wsL_law_r36, List.forall_mem_append.mpr ⟨wl_wsL_law_r37, wl_wsL_law_r38⟩⟩⟩⟩⟩⟩⟩⟩⟩⟩⟩⟩⟩⟩⟩⟩⟩⟩⟩⟩⟩⟩⟩⟩⟩⟩⟩⟩⟩⟩⟩⟩⟩⟩⟩⟩⟩, wl_wsX100⟩, wl_wsX110⟩, wl_wsX80⟩, wl_wsX30⟩, wl_wsX20⟩, wl_wsX40⟩, wl_wsX90⟩, wl_wsX00⟩, wl_wsX60⟩, wl_wsX50⟩, wl_wsX70⟩, wl_wsX10⟩, fun _ h => absurd h List.not_mem_nil⟩
theorem inlX0 : ∀ w ∈ wsX00, w ∈ wsL_law := fun _ h => List.mem_append_left _ (List.mem_append_left _ (List.mem_append_left _ (List.mem_append_left _ (List.mem_append_left _ (List.mem_append_right _ h)))))
theorem inX0 : ∀ w ∈ wsX00, w ∈ lw_tbl := fun w h => wsL_law_in w (inlX0 w h)
theorem inlX1 : ∀ w ∈ wsX10, w ∈ wsL_law := fun _ h => List.mem_append_left _ (List.mem_append_right _ h)
theorem inX1 : ∀ w ∈ wsX10, w ∈ lw_tbl := fun w h => wsL_law_in w (inlX1 w h)
theorem inlX2 : ∀ w ∈ wsX20, w ∈ wsL_law := fun _ h => List.mem_append_left _ (List.mem_append_left _ (List.mem_append_left _ (List.mem_append_left _ (List.mem_append_left _ (List.mem_append_left _ (List.mem_append_left _ (List.mem_append_left _ (List.mem_append_right _ h))))))))
theorem inX2 : ∀ w ∈ wsX20, w ∈ lw_tbl := fun w h => wsL_law_in w (inlX2 w h)
theorem inlX3 : ∀ w ∈ wsX30, w ∈ wsL_law := fun _ h => List.mem_append_left _ (List.mem_append_left _ (List.mem_append_left _ (List.mem_append_left _ (List.mem_append_left _ (List.mem_append_left _ (List.mem_append_left _ (List.mem_append_left _ (List.mem_append_left _ (List.mem_append_right _ h)))))))))
theorem inX3 : ∀ w ∈ wsX30, w ∈ lw_tbl := fun w h => wsL_law_in w (inlX3 w h)
theorem inlX4 : ∀ w ∈ wsX40, w ∈ wsL_law := fun _ h => List.mem_append_left _ (List.mem_append_left _ (List.mem_append_left _ (List.mem_append_left _ (List.mem_append_left _ (List.mem_append_left _ (List.mem_append_left _ (List.mem_append_right _ h)))))))
theorem inX4 : ∀ w ∈ wsX40, w ∈ lw_tbl := fun w h => wsL_law_in w (inlX4 w h)
theorem inlX5 : ∀ w ∈ wsX50, w ∈ wsL_law := fun _ h => List.mem_append_left _ (List.mem_append_left _ (List.mem_append_left _ (List.mem_append_right _ h)))
theorem inX5 : ∀ w ∈ wsX50, w ∈ lw_tbl := fun w h => wsL_law_in w (inlX5 w h)
theorem inlX6 : ∀ w ∈ wsX60, w ∈ wsL_law := fun _ h => List.mem_append_left _ (List.mem_append_left _ (List.mem_append_left _ (List.mem_append_left _ (List.mem_append_right _ h))))
theorem inX6 : ∀ w ∈ wsX60, w ∈ lw_tbl := fun w h => wsL_law_in w (inlX6 w h)
theorem inlX7 : ∀ w ∈ wsX70, w ∈ wsL_law := fun _ h => List.mem_append_left _ (List.mem_append_left _ (List.mem_append_right _ h))
theorem inX7 : ∀ w ∈ wsX70, w ∈ lw_tbl := fun w h => wsL_law_in w (inlX7 w h)
theorem inlX8 : ∀ w ∈ wsX80, w ∈ wsL_law := fun _ h => List.mem_append_left _ (List.mem_append_left _ (List.mem_append_left _ (List.mem_append_left _ (List.mem_append_left _ (List.mem_append_left _ (List.mem_append_left _ (List.mem_append_left _ (List.mem_append_left _ (List.mem_append_left _ (List.mem_append_right _ h))))))))))
theorem inX8 : ∀ w ∈ wsX80, w ∈ lw_tbl := fun w h => wsL_law_in w (inlX8 w h)
theorem inlX9 : ∀ w ∈ wsX90, w ∈ wsL_law := fun _ h => List.mem_append_left _ (List.mem_append_left _ (List.mem_append_left _ (List.mem_append_left _ (List.mem_append_left _ (List.mem_append_left _ (List.mem_append_right _ h))))))
theorem inX9 : ∀ w ∈ wsX90, w ∈ lw_tbl := fun w h => wsL_law_in w (inlX9 w h)
theorem inlX10 : ∀ w ∈ wsX100, w ∈ wsL_law := fun _ h => List.mem_append_left _ (List.mem_append_left _ (List.mem_append_left _ (List.mem_append_left _ (List.mem_append_left _ (List.mem_append_left _ (List.mem_append_left _ (List.mem_append_left _ (List.mem_append_left _ (List.mem_append_left _ (List.mem_append_left _ (List.mem_append_left _ (List.mem_append_right _ h))))))))))))
theorem inX10 : ∀ w ∈ wsX100, w ∈ lw_tbl := fun w h => wsL_law_in w (inlX10 w h)
theorem inlX11 : ∀ w ∈ wsX110, w ∈ wsL_law := fun _ h => List.mem_append_left _ (List.mem_append_left _ (List.mem_append_left _ (List.mem_append_left _ (List.mem_append_left _ (List.mem_append_left _ (List.mem_append_left _ (List.mem_append_left _ (List.mem_append_left _ (List.mem_append_left _ (List.mem_append_left _ (List.mem_append_right _ h)))))))))))
theorem inX11 : ∀ w ∈ wsX110, w ∈ lw_tbl := fun w h => wsL_law_in w (inlX11 w h)
theorem inJ9 : ∀ w ∈ wsJ90, w ∈ lw_tbl := by decide +kernel
theorem inJ10 : ∀ w ∈ wsJ100, w ∈ lw_tbl := by decide +kernel
theorem inJ7 : ∀ w ∈ wsJ70, w ∈ lw_tbl := by decide +kernel
