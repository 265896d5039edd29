set_option maxRecDepth 20000 in
theorem ggL_law_X11_fly : GoodIn wsL_law wsX11_fly := goodIn_r _ [841, 151, 633, 131, 143, 203, 204, 5, 205, 210, 211, 212, 213, 214, 132, 674, 675, 676, 677, 141, 678, 172, 173, 174, 916, 917, 918, 919, 920, 921, 922, 923, 924, 925, 926, 927, 928, 929, 930, 931, 932, 933, 934, 935, 936, 937, 938, 939, 940, 941, 942, 943, 944, 945] (by decide +kernel) (by decide +kernel)
set_option maxRecDepth 20000 in
theorem gL_law_X11_fly : GoodIn wsL_law (wsV RL 91 RX11 yX11_fly wsX11_fly) := goodIn_app (goodIn_of _ (by decide +kernel)) ggL_law_X11_fly
set_option maxRecDepth 20000 in
theorem ggL_law_X10_greatestWith : GoodIn wsL_law wsX10_greatestWith := goodIn_r _ [845, 15, 156, 34, 512, 157, 77, 2, 78, 158, 159, 160, 449, 450, 451, 33, 452, 93, 453, 454, 455, 456, 172, 173, 174, 457, 458, 90, 91, 459, 360, 361, 47, 362, 53, 277, 278, 279, 280, 193, 460, 390, 391, 29, 392, 83, 84, 393, 394, 395, 396, 397, 398, 399, 400, 401, 227, 228, 402, 403, 404, 405, 406, 407, 408, 26, 409, 70, 71, 410, 75, 76, 411, 412, 413, 414, 415, 461, 462, 463, 464, 465, 466, 467, 468, 469, 470, 471, 472, 473, 417, 418, 419, 474, 475, 476, 477, 92, 478, 184, 185, 186, 479, 480, 481, 482, 483, 484, 485, 486, 910, 911, 912, 913, 914, 915, 946, 947, 948, 949, 950, 963, 964, 965, 966, 967, 968, 969, 970, 971, 983, 984, 961, 962, 959, 960] (by decide +kernel) (by decide +kernel)
set_option maxRecDepth 20000 in
theorem gL_law_X10_greatestWith : GoodIn wsL_law (wsV RL 92 RX10 yX10_greatestWith wsX10_greatestWith) := goodIn_app (goodIn_of _ (by decide +kernel)) ggL_law_X10_greatestWith
set_option maxRecDepth 20000 in
theorem ggL_law_X11_greatestWith : GoodIn wsL_law wsX11_greatestWith := goodIn_r _ [849, 131, 504, 203, 204, 5, 205, 850, 851, 852, 853, 137, 495, 496, 497, 498, 499, 500, 501, 502, 503, 505, 506, 139, 138, 424, 507, 396, 173, 397, 425, 426, 427, 428, 135, 429, 430, 431, 432, 265, 266, 267, 268, 433, 434, 435, 436, 437, 438, 439, 440, 441, 442, 443, 916, 917, 918, 919, 920, 921, 922, 923, 924, 925, 926, 927, 928, 929, 930, 931, 932, 933, 934, 935, 936, 937, 938, 939, 940, 941, 942, 943, 944, 945] (by decide +kernel) (by decide +kernel)
set_option maxRecDepth 20000 in
theorem gL_law_X11_greatestWith : GoodIn wsL_law (wsV RL 95 RX11 yX11_greatestWith wsX11_greatestWith) := goodIn_app (goodIn_of _ (by decide +kernel)) ggL_law_X11_greatestWith
set_option maxRecDepth 20000 in
theorem ggL_law_X10_cellOf : GoodIn wsL_law wsX10_cellOf := goodIn_r _ [857, 15, 223, 224, 359, 360, 361, 47, 362, 53, 277, 278, 279, 280, 193, 910, 911, 912, 913, 914, 915, 946, 947, 948, 949, 950, 983, 984] (by decide +kernel) (by decide +kernel)
set_option maxRecDepth 20000 in
theorem gL_law_X10_cellOf : GoodIn wsL_law (wsV RL 96 RX10 yX10_cellOf wsX10_cellOf) := goodIn_app (goodIn_of _ (by decide +kernel)) ggL_law_X10_cellOf
set_option maxRecDepth 20000 in
theorem ggL_law_X11_cellOf : GoodIn wsL_law wsX11_cellOf := goodIn_r _ [861, 131, 203, 204, 5, 205, 285, 286, 287, 288, 916, 917, 918, 919, 920, 921, 922, 923, 924, 925, 926, 927, 928, 929, 930, 931, 932, 933, 934, 935, 936, 937, 938, 939, 940, 941, 942, 943, 944, 945] (by decide +kernel) (by decide +kernel)
set_option maxRecDepth 20000 in
theorem gL_law_X11_cellOf : GoodIn wsL_law (wsV RL 99 RX11 yX11_cellOf wsX11_cellOf) := goodIn_app (goodIn_of _ (by decide +kernel)) ggL_law_X11_cellOf
set_option maxRecDepth 20000 in
theorem ggL_law_X10_look : GoodIn wsL_law wsX10_look := goodIn_r _ [865, 15, 225, 223, 224, 226, 227, 2, 228, 229, 230, 231, 47, 232, 193, 53, 910, 911, 912, 913, 914, 915, 946, 947, 948, 949, 950, 983, 984] (by decide +kernel) (by decide +kernel)
set_option maxRecDepth 20000 in
theorem gL_law_X10_look : GoodIn wsL_law (wsV RL 100 RX10 yX10_look wsX10_look) := goodIn_app (goodIn_of _ (by decide +kernel)) ggL_law_X10_look
set_option maxRecDepth 20000 in
theorem ggL_law_X11_look : GoodIn wsL_law wsX11_look := goodIn_r _ [869, 237, 238, 5, 239, 203, 204, 205, 265, 266, 267, 268, 131, 240, 241, 242, 243, 244, 245, 246, 247, 916, 917, 918, 919, 920, 921, 922, 923, 924, 925, 926, 927, 928, 929, 930, 931, 932, 933, 934, 935, 936, 937, 938, 939, 940, 941, 942, 943, 944, 945] (by decide +kernel) (by decide +kernel)
set_option maxRecDepth 20000 in
theorem gL_law_X11_look : GoodIn wsL_law (wsV RL 103 RX11 yX11_look wsX11_look) := goodIn_app (goodIn_of _ (by decide +kernel)) ggL_law_X11_look
set_option maxRecDepth 20000 in
theorem ggL_law_X10_count : GoodIn wsL_law wsX10_count := goodIn_r _ [873, 15, 223, 256, 224, 827, 19, 874, 23, 313, 38, 696, 875, 876, 877, 14, 878, 44, 879, 880, 881, 882, 48, 883, 49, 884, 360, 361, 47, 362, 53, 277, 278, 279, 280, 193, 885, 230, 231, 232, 910, 911, 912, 913, 914, 915, 946, 947, 948, 949, 950, 983, 984, 951, 952, 953, 954, 955, 956, 957, 958, 972, 973, 974, 975, 976, 977, 978, 979, 980, 981, 982] (by decide +kernel) (by decide +kernel)
set_option maxRecDepth 20000 in
theorem gL_law_X10_count : GoodIn wsL_law (wsV RL 104 RX10 yX10_count wsX10_count) := goodIn_app (goodIn_of _ (by decide +kernel)) ggL_law_X10_count
set_option maxRecDepth 20000 in
theorem ggL_law_X11_count : GoodIn wsL_law wsX11_count := goodIn_r _ [889, 131, 214, 323, 151, 890, 891, 892, 5, 893, 894, 895, 896, 897, 244, 245, 246, 247, 916, 917, 918, 919, 920, 921, 922, 923, 924, 925, 926, 927, 928, 929, 930, 931, 932, 933, 934, 935, 936, 937, 938, 939, 940, 941, 942, 943, 944, 945] (by decide +kernel) (by decide +kernel)
set_option maxRecDepth 20000 in
theorem gL_law_X11_count : GoodIn wsL_law (wsV RL 107 RX11 yX11_count wsX11_count) := goodIn_app (goodIn_of _ (by decide +kernel)) ggL_law_X11_count
set_option maxRecDepth 20000 in
theorem ggL_law_X10_undo : GoodIn wsL_law wsX10_undo := goodIn_r _ [901, 38, 19, 15, 874, 194, 195, 196, 37, 197, 198, 103, 902, 903, 904, 18, 905, 170, 169, 59, 175, 176, 177, 178, 179, 180, 181, 14, 182, 43, 183, 184, 185, 186, 44, 48, 49, 187, 188, 189, 190, 47, 191, 53, 192, 193, 910, 911, 912, 913, 914, 915, 951, 952, 953, 972, 973, 974, 975, 976, 977, 978, 979, 980, 981, 982, 946, 947, 948, 949, 950, 983, 984] (by decide +kernel) (by decide +kernel)
set_option maxRecDepth 20000 in
theorem gL_law_X10_undo : GoodIn wsL_law (wsV RL 108 RX10 yX10_undo wsX10_undo) := goodIn_app (goodIn_of _ (by decide +kernel)) ggL_law_X10_undo
set_option maxRecDepth 20000 in
theorem ggL_law_X11_undo : GoodIn wsL_law wsX11_undo := goodIn_r _ [909, 214, 131, 132, 215, 216, 217, 5, 218, 151, 140, 137, 916, 917, 918, 919, 920, 921, 922, 923, 924, 925, 926, 927, 928, 929, 930, 931, 932, 933, 934, 935, 936, 937, 938, 939, 940, 941, 942, 943, 944, 945] (by decide +kernel) (by decide +kernel)
set_option maxRecDepth 20000 in
theorem gL_law_X11_undo : GoodIn wsL_law (wsV RL 111 RX11 yX11_undo wsX11_undo) := goodIn_app (goodIn_of _ (by decide +kernel)) ggL_law_X11_undo
