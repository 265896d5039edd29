set_option maxRecDepth 20000 in
theorem ggL_law_X10_init : GoodIn wsL_law wsX10_init := goodIn_r _ [8, 9, 10, 11, 12, 13, 14, 15, 16, 17, 18, 19, 20, 21, 22, 23, 24, 25, 26, 27, 28, 29, 30, 31, 32, 33, 34, 35, 36, 37, 38, 39, 40, 41, 42, 43, 44, 45, 46, 47, 48, 49, 50, 51, 52, 53, 54, 55, 56, 57, 58, 59, 60, 61, 62, 63, 64, 65, 66, 67, 68, 69, 70, 71, 72, 73, 74, 75, 2, 76, 77, 78, 79, 80, 81, 82, 83, 84, 85, 86, 87, 88, 89, 90, 91, 92, 93, 94, 95, 96, 97, 98, 99, 100, 101, 102, 103, 104, 105, 106, 107, 108, 109, 110, 111, 112, 113, 114, 115, 116, 117, 118, 119, 120, 121, 122, 123, 124, 125, 126, 946, 947, 948, 949, 950, 910, 911, 912, 913, 914, 915, 951, 952, 953, 954, 955, 956, 957, 958, 959, 960, 961, 962, 963, 964, 965, 966, 967, 968, 969, 970, 971, 972, 973, 974, 975, 976, 977, 978, 979, 980, 981, 982, 983, 984, 985, 986, 987, 988, 989, 990, 991, 992] (by decide +kernel) (by decide +kernel)
set_option maxRecDepth 20000 in
theorem gL_law_X10_init : GoodIn wsL_law (wsX10_init) := ggL_law_X10_init
set_option maxRecDepth 20000 in
theorem ggL_law_X11_init : GoodIn wsL_law wsX11_init := goodIn_r _ [129, 130, 10, 11, 42, 131, 132, 133, 134, 135, 136, 137, 138, 139, 140, 141, 142, 143, 144, 145, 146, 147, 148, 149, 150, 151, 916, 917, 918, 919, 920, 921, 922, 923, 924, 925, 926, 927, 928, 929, 930, 931, 932, 933, 934, 935, 936, 937, 938, 939, 940, 941, 942, 943, 944, 945] (by decide +kernel) (by decide +kernel)
set_option maxRecDepth 20000 in
theorem gL_law_X11_init : GoodIn wsL_law (wsX11_init) := ggL_law_X11_init
set_option maxRecDepth 20000 in
theorem ggL_law_X10_setWind : GoodIn wsL_law wsX10_setWind := goodIn_r _ [155, 15, 156, 157, 77, 2, 78, 158, 159, 160, 161, 162, 163, 164, 19, 38, 165, 166, 167, 18, 168, 59, 169, 170, 171, 172, 173, 174, 175, 176, 177, 178, 179, 180, 181, 14, 182, 43, 183, 184, 185, 186, 44, 48, 49, 187, 188, 189, 190, 47, 191, 53, 192, 193, 194, 195, 196, 37, 197, 198, 103, 910, 911, 912, 913, 914, 915, 946, 947, 948, 949, 950, 951, 952, 953, 983, 984, 972, 973, 974, 975, 976, 977, 978, 979, 980, 981, 982] (by decide +kernel) (by decide +kernel)
set_option maxRecDepth 20000 in
theorem gL_law_X10_setWind : GoodIn wsL_law (wsV RL 13 RX10 yX10_setWind wsX10_setWind) := goodIn_app (goodIn_of _ (by decide +kernel)) ggL_law_X10_setWind
set_option maxRecDepth 20000 in
theorem ggL_law_X11_setWind : GoodIn wsL_law wsX11_setWind := goodIn_r _ [202, 131, 203, 204, 5, 205, 206, 207, 208, 209, 210, 211, 212, 213, 214, 132, 215, 216, 217, 218, 151, 140, 137, 916, 917, 918, 919, 920, 921, 922, 923, 924, 925, 926, 927, 928, 929, 930, 931, 932, 933, 934, 935, 936, 937, 938, 939, 940, 941, 942, 943, 944, 945] (by decide +kernel) (by decide +kernel)
set_option maxRecDepth 20000 in
theorem gL_law_X11_setWind : GoodIn wsL_law (wsV RL 17 RX11 yX11_setWind wsX11_setWind) := goodIn_app (goodIn_of _ (by decide +kernel)) ggL_law_X11_setWind
set_option maxRecDepth 20000 in
theorem ggL_law_X10_setObstacle : GoodIn wsL_law wsX10_setObstacle := goodIn_r _ [222, 15, 223, 224, 225, 226, 227, 2, 228, 229, 230, 231, 47, 232, 193, 53, 161, 162, 163, 164, 19, 38, 165, 166, 167, 18, 168, 59, 169, 170, 171, 172, 173, 174, 175, 176, 177, 178, 179, 180, 181, 14, 182, 43, 183, 184, 185, 186, 44, 48, 49, 187, 188, 189, 190, 191, 192, 194, 195, 196, 37, 197, 198, 103, 910, 911, 912, 913, 914, 915, 946, 947, 948, 949, 950, 983, 984, 951, 952, 953, 972, 973, 974, 975, 976, 977, 978, 979, 980, 981, 982] (by decide +kernel) (by decide +kernel)
set_option maxRecDepth 20000 in
theorem gL_law_X10_setObstacle : GoodIn wsL_law (wsV RL 18 RX10 yX10_setObstacle wsX10_setObstacle) := goodIn_app (goodIn_of _ (by decide +kernel)) ggL_law_X10_setObstacle
set_option maxRecDepth 20000 in
theorem ggL_law_X11_setObstacle : GoodIn wsL_law wsX11_setObstacle := goodIn_r _ [236, 131, 237, 238, 5, 239, 203, 204, 205, 240, 241, 242, 243, 244, 245, 246, 247, 206, 207, 208, 209, 210, 211, 212, 213, 214, 132, 215, 216, 217, 218, 151, 140, 137, 916, 917, 918, 919, 920, 921, 922, 923, 924, 925, 926, 927, 928, 929, 930, 931, 932, 933, 934, 935, 936, 937, 938, 939, 940, 941, 942, 943, 944, 945] (by decide +kernel) (by decide +kernel)
set_option maxRecDepth 20000 in
theorem gL_law_X11_setObstacle : GoodIn wsL_law (wsV RL 21 RX11 yX11_setObstacle wsX11_setObstacle) := goodIn_app (goodIn_of _ (by decide +kernel)) ggL_law_X11_setObstacle
set_option maxRecDepth 20000 in
theorem ggL_law_X10_addDrone : GoodIn wsL_law wsX10_addDrone := goodIn_r _ [251, 15, 223, 252, 253, 254, 2, 255, 256, 225, 226, 227, 228, 229, 230, 231, 47, 232, 193, 53, 161, 162, 163, 164, 19, 38, 165, 166, 167, 18, 168, 59, 169, 170, 171, 172, 173, 174, 175, 176, 177, 178, 179, 180, 181, 14, 182, 43, 183, 184, 185, 186, 44, 48, 49, 187, 188, 189, 190, 191, 192, 194, 195, 196, 37, 197, 198, 103, 257, 258, 259, 260, 910, 911, 912, 913, 914, 915, 946, 947, 948, 949, 950, 983, 984, 951, 952, 953, 972, 973, 974, 975, 976, 977, 978, 979, 980, 981, 982] (by decide +kernel) (by decide +kernel)
set_option maxRecDepth 20000 in
theorem gL_law_X10_addDrone : GoodIn wsL_law (wsV RL 22 RX10 yX10_addDrone wsX10_addDrone) := goodIn_app (goodIn_of _ (by decide +kernel)) ggL_law_X10_addDrone
set_option maxRecDepth 20000 in
theorem ggL_law_X11_addDrone : GoodIn wsL_law wsX11_addDrone := goodIn_r _ [264, 131, 237, 238, 5, 239, 203, 204, 205, 265, 266, 267, 268, 240, 241, 242, 243, 206, 207, 208, 209, 210, 211, 212, 213, 214, 132, 215, 216, 217, 218, 151, 140, 137, 916, 917, 918, 919, 920, 921, 922, 923, 924, 925, 926, 927, 928, 929, 930, 931, 932, 933, 934, 935, 936, 937, 938, 939, 940, 941, 942, 943, 944, 945] (by decide +kernel) (by decide +kernel)
set_option maxRecDepth 20000 in
theorem gL_law_X11_addDrone : GoodIn wsL_law (wsV RL 26 RX11 yX11_addDrone wsX11_addDrone) := goodIn_app (goodIn_of _ (by decide +kernel)) ggL_law_X11_addDrone
set_option maxRecDepth 20000 in
theorem ggL_law_X10_removeDrone : GoodIn wsL_law wsX10_removeDrone := goodIn_r _ [272, 15, 223, 256, 161, 162, 163, 2, 164, 19, 38, 165, 166, 167, 18, 168, 59, 169, 170, 171, 172, 173, 174, 175, 176, 177, 178, 179, 180, 181, 14, 182, 43, 183, 184, 185, 186, 44, 48, 49, 187, 188, 189, 190, 47, 191, 53, 192, 193, 194, 195, 196, 37, 197, 198, 103, 273, 274, 275, 276, 277, 278, 279, 280, 910, 911, 912, 913, 914, 915, 946, 947, 948, 949, 950, 983, 984, 951, 952, 953, 972, 973, 974, 975, 976, 977, 978, 979, 980, 981, 982] (by decide +kernel) (by decide +kernel)
set_option maxRecDepth 20000 in
theorem gL_law_X10_removeDrone : GoodIn wsL_law (wsV RL 27 RX10 yX10_removeDrone wsX10_removeDrone) := goodIn_app (goodIn_of _ (by decide +kernel)) ggL_law_X10_removeDrone
set_option maxRecDepth 20000 in
theorem ggL_law_X11_removeDrone : GoodIn wsL_law wsX11_removeDrone := goodIn_r _ [284, 131, 285, 286, 287, 5, 288, 203, 204, 205, 206, 207, 208, 209, 210, 211, 212, 213, 214, 132, 215, 216, 217, 218, 151, 140, 137, 916, 917, 918, 919, 920, 921, 922, 923, 924, 925, 926, 927, 928, 929, 930, 931, 932, 933, 934, 935, 936, 937, 938, 939, 940, 941, 942, 943, 944, 945] (by decide +kernel) (by decide +kernel)
set_option maxRecDepth 20000 in
theorem gL_law_X11_removeDrone : GoodIn wsL_law (wsV RL 30 RX11 yX11_removeDrone wsX11_removeDrone) := goodIn_app (goodIn_of _ (by decide +kernel)) ggL_law_X11_removeDrone
set_option maxRecDepth 20000 in
theorem ggL_law_X10_addSlot : GoodIn wsL_law wsX10_addSlot := goodIn_r _ [292, 15, 224, 252, 253, 254, 2, 255, 256, 225, 226, 227, 228, 229, 230, 231, 47, 232, 193, 53, 161, 162, 163, 164, 19, 38, 165, 166, 167, 18, 168, 59, 169, 170, 171, 172, 173, 174, 175, 176, 177, 178, 179, 180, 181, 14, 182, 43, 183, 184, 185, 186, 44, 48, 49, 187, 188, 189, 190, 191, 192, 194, 195, 196, 37, 197, 198, 103, 257, 258, 259, 260, 910, 911, 912, 913, 914, 915, 946, 947, 948, 949, 950, 983, 984, 951, 952, 953, 972, 973, 974, 975, 976, 977, 978, 979, 980, 981, 982] (by decide +kernel) (by decide +kernel)
set_option maxRecDepth 20000 in
theorem gL_law_X10_addSlot : GoodIn wsL_law (wsV RL 31 RX10 yX10_addSlot wsX10_addSlot) := goodIn_app (goodIn_of _ (by decide +kernel)) ggL_law_X10_addSlot
set_option maxRecDepth 20000 in
theorem ggL_law_X11_addSlot : GoodIn wsL_law wsX11_addSlot := goodIn_r _ [296, 131, 237, 238, 5, 239, 203, 204, 205, 265, 266, 267, 268, 244, 245, 246, 247, 206, 207, 208, 209, 210, 211, 212, 213, 214, 132, 215, 216, 217, 218, 151, 140, 137, 916, 917, 918, 919, 920, 921, 922, 923, 924, 925, 926, 927, 928, 929, 930, 931, 932, 933, 934, 935, 936, 937, 938, 939, 940, 941, 942, 943, 944, 945] (by decide +kernel) (by decide +kernel)
set_option maxRecDepth 20000 in
theorem gL_law_X11_addSlot : GoodIn wsL_law (wsV RL 34 RX11 yX11_addSlot wsX11_addSlot) := goodIn_app (goodIn_of _ (by decide +kernel)) ggL_law_X11_addSlot
set_option maxRecDepth 20000 in
theorem ggL_law_X10_clearSlots : GoodIn wsL_law wsX10_clearSlots := goodIn_r _ [300, 15, 224, 256, 161, 162, 163, 2, 164, 19, 38, 165, 166, 167, 18, 168, 59, 169, 170, 171, 172, 173, 174, 175, 176, 177, 178, 179, 180, 181, 14, 182, 43, 183, 184, 185, 186, 44, 48, 49, 187, 188, 189, 190, 47, 191, 53, 192, 193, 194, 195, 196, 37, 197, 198, 103, 301, 302, 303, 304, 910, 911, 912, 913, 914, 915, 946, 947, 948, 949, 950, 983, 984, 951, 952, 953, 972, 973, 974, 975, 976, 977, 978, 979, 980, 981, 982] (by decide +kernel) (by decide +kernel)
set_option maxRecDepth 20000 in
theorem gL_law_X10_clearSlots : GoodIn wsL_law (wsV RL 35 RX10 yX10_clearSlots wsX10_clearSlots) := goodIn_app (goodIn_of _ (by decide +kernel)) ggL_law_X10_clearSlots
