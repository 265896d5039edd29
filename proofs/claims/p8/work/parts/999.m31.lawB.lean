set_option maxRecDepth 20000 in
theorem wl_wsL_law_r1 : ∀ w ∈ wsL_law_r1, w ∈ lw_tbl := mem_r _ [77, 78, 62, 824, 825, 73, 79, 80, 81, 82, 83, 84, 85, 86, 63, 352, 136, 137, 65, 353, 156, 157, 66, 354] (by decide +kernel)
set_option maxRecDepth 20000 in
theorem wl_wsL_law_r2 : ∀ w ∈ wsL_law_r2, w ∈ lw_tbl := mem_r _ [183, 184, 67, 212, 213, 68, 355, 225, 226, 69, 356, 267, 268, 70, 357, 88, 89, 90, 107, 108, 111, 91, 92, 64] (by decide +kernel)
set_option maxRecDepth 20000 in
theorem wl_wsL_law_r3 : ∀ w ∈ wsL_law_r3, w ∈ lw_tbl := mem_r _ [115, 119, 94, 95, 96, 97, 138, 139, 140, 141, 142, 145, 159, 160, 161, 164, 162, 165, 185, 186, 187, 188, 206, 204] (by decide +kernel)
set_option maxRecDepth 20000 in
theorem wl_wsL_law_r4 : ∀ w ∈ wsL_law_r4, w ∈ lw_tbl := mem_r _ [189, 190, 191, 193, 194, 202, 203, 214, 215, 216, 217, 219, 218, 227, 228, 229, 230, 231, 235, 236, 237, 234, 233, 269] (by decide +kernel)
set_option maxRecDepth 20000 in
theorem wl_wsL_law_r5 : ∀ w ∈ wsL_law_r5, w ∈ lw_tbl := mem_r _ [270, 271, 272, 273, 320, 321, 322, 325, 316, 317, 275, 318, 277, 278, 71, 319, 293, 72, 276, 279, 280, 281, 282, 284] (by decide +kernel)
set_option maxRecDepth 20000 in
theorem wl_wsL_law_r6 : ∀ w ∈ wsL_law_r6, w ∈ lw_tbl := mem_r _ [285, 283, 295, 296, 297, 298, 299, 826, 827, 828, 829, 830, 831, 832, 836, 837, 921, 838, 839, 840, 846, 849, 850, 851] (by decide +kernel)
set_option maxRecDepth 20000 in
theorem wl_wsL_law_r7 : ∀ w ∈ wsL_law_r7, w ∈ lw_tbl := mem_r _ [852, 853, 854, 856, 857, 858, 859, 845, 371, 372, 373, 374, 109, 375, 376, 377, 378, 379, 381, 0, 382, 383, 384, 385] (by decide +kernel)
set_option maxRecDepth 20000 in
theorem wl_wsL_law_r8 : ∀ w ∈ wsL_law_r8, w ∈ lw_tbl := mem_r _ [386, 146, 147, 402, 403, 74, 404, 387, 388, 74, 389, 390, 391, 392, 393, 394, 396, 395, 75, 123, 397, 398, 399, 400] (by decide +kernel)
set_option maxRecDepth 20000 in
theorem wl_wsL_law_r9 : ∀ w ∈ wsL_law_r9, w ∈ lw_tbl := mem_r _ [401, 98, 405, 406, 407, 408, 323, 930, 931, 932, 933, 934, 935, 936, 937, 939, 27, 940, 941, 943, 28, 944, 833, 926] (by decide +kernel)
set_option maxRecDepth 20000 in
theorem wl_wsL_law_r10 : ∀ w ∈ wsL_law_r10, w ∈ lw_tbl := mem_r _ [928, 26, 929, 409, 410, 411, 412, 117, 121, 114, 413, 414, 415, 416, 417, 418, 419, 945, 946, 947, 948, 949, 950, 951] (by decide +kernel)
set_option maxRecDepth 20000 in
theorem wl_wsL_law_r11 : ∀ w ∈ wsL_law_r11, w ∈ lw_tbl := mem_r _ [952, 954, 29, 955, 956, 958, 30, 959, 420, 421, 422, 423, 424, 426, 1, 427, 101, 428, 429, 430, 431, 960, 961, 962] (by decide +kernel)
set_option maxRecDepth 20000 in
theorem wl_wsL_law_r12 : ∀ w ∈ wsL_law_r12, w ∈ lw_tbl := mem_r _ [963, 964, 966, 31, 967, 432, 433, 434, 435, 436, 437, 438, 439, 440, 441, 442, 443, 968, 969, 970, 971, 972, 974, 32] (by decide +kernel)
set_option maxRecDepth 20000 in
theorem wl_wsL_law_r13 : ∀ w ∈ wsL_law_r13, w ∈ lw_tbl := mem_r _ [975, 444, 445, 446, 447, 976, 977, 978, 979, 448, 449, 450, 451, 452, 453, 454, 455, 980, 981, 982, 983, 456, 457, 458] (by decide +kernel)
set_option maxRecDepth 20000 in
theorem wl_wsL_law_r14 : ∀ w ∈ wsL_law_r14, w ∈ lw_tbl := mem_r _ [459, 168, 460, 461, 462, 463, 167, 984, 985, 986, 987, 834, 464, 465, 466, 467, 171, 166, 468, 469, 470, 471, 169, 170] (by decide +kernel)
set_option maxRecDepth 20000 in
theorem wl_wsL_law_r15 : ∀ w ∈ wsL_law_r15, w ∈ lw_tbl := mem_r _ [472, 473, 475, 2, 476, 477, 479, 3, 480, 481, 483, 4, 484, 485, 487, 5, 488, 489, 490, 491, 493, 6, 494, 495] (by decide +kernel)
set_option maxRecDepth 20000 in
theorem wl_wsL_law_r16 : ∀ w ∈ wsL_law_r16, w ∈ lw_tbl := mem_r _ [496, 497, 498, 499, 500, 501, 502, 504, 988, 989, 990, 991, 835, 992, 994, 33, 995, 996, 998, 34, 999, 1000, 1002, 35] (by decide +kernel)
set_option maxRecDepth 20000 in
theorem wl_wsL_law_r17 : ∀ w ∈ wsL_law_r17, w ∈ lw_tbl := mem_r _ [1003, 505, 506, 507, 508, 509, 510, 511, 512, 205, 112, 533, 534, 535, 513, 514, 76, 515, 517, 519, 7, 520, 523, 524] (by decide +kernel)
set_option maxRecDepth 20000 in
theorem wl_wsL_law_r18 : ∀ w ∈ wsL_law_r18, w ∈ lw_tbl := mem_r _ [525, 526, 113, 528, 529, 530, 531, 110, 536, 537, 538, 539, 1004, 1005, 1006, 1007, 1016, 1008, 1010, 36, 1011, 1012, 1014, 37] (by decide +kernel)
set_option maxRecDepth 20000 in
theorem wl_wsL_law_r19 : ∀ w ∈ wsL_law_r19, w ∈ lw_tbl := mem_r _ [1015, 1017, 1019, 38, 1020, 1021, 1022, 1023, 1024, 1026, 39, 1027, 540, 541, 542, 543, 544, 545, 546, 547, 548, 116, 99, 120] (by decide +kernel)
set_option maxRecDepth 20000 in
theorem wl_wsL_law_r20 : ∀ w ∈ wsL_law_r20, w ∈ lw_tbl := mem_r _ [549, 238, 240, 550, 551, 552, 554, 8, 555, 561, 244, 242, 246, 556, 558, 9, 559, 560, 562, 564, 10, 565, 566, 567] (by decide +kernel)
