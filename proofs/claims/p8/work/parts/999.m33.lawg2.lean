set_option maxRecDepth 20000 in
theorem ggL_law_X10_stuck : GoodIn wsL_law wsX10_stuck := goodIn_r _ [682, 38, 683, 910, 911, 912, 913, 914, 915, 972, 973, 974, 975, 976, 977, 978, 979, 980, 981, 982] (by decide +kernel) (by decide +kernel)
set_option maxRecDepth 20000 in
theorem gL_law_X10_stuck : GoodIn wsL_law (wsV RL 64 RX10 yX10_stuck wsX10_stuck) := goodIn_app (goodIn_of _ (by decide +kernel)) ggL_law_X10_stuck
set_option maxRecDepth 20000 in
theorem ggL_law_X11_stuck : GoodIn wsL_law wsX11_stuck := goodIn_r _ [687, 140, 916, 917, 918, 919, 920, 921, 922, 923, 924, 925, 926, 927, 928, 929, 930, 931, 932, 933, 934, 935, 936, 937, 938, 939, 940, 941, 942, 943, 944, 945] (by decide +kernel) (by decide +kernel)
set_option maxRecDepth 20000 in
theorem gL_law_X11_stuck : GoodIn wsL_law (wsV RL 67 RX11 yX11_stuck wsX11_stuck) := goodIn_app (goodIn_of _ (by decide +kernel)) ggL_law_X11_stuck
set_option maxRecDepth 20000 in
theorem ggL_law_X10_at : GoodIn wsL_law wsX10_at := goodIn_r _ [691, 38, 692, 693, 694, 2, 695, 15, 223, 696, 448, 278, 279, 47, 280, 193, 697, 698, 699, 37, 700, 528, 546, 547, 548, 549, 100, 530, 172, 173, 174, 533, 396, 397, 701, 624, 625, 113, 626, 125, 627, 618, 910, 911, 912, 913, 914, 915, 946, 947, 948, 949, 950, 972, 973, 974, 975, 976, 977, 978, 979, 980, 981, 982, 983, 984, 988, 989, 990, 991, 992] (by decide +kernel) (by decide +kernel)
set_option maxRecDepth 20000 in
theorem gL_law_X10_at : GoodIn wsL_law (wsV RL 68 RX10 yX10_at wsX10_at) := goodIn_app (goodIn_of _ (by decide +kernel)) ggL_law_X10_at
set_option maxRecDepth 20000 in
theorem ggL_law_X11_at : GoodIn wsL_law wsX11_at := goodIn_r _ [705, 151, 633, 285, 286, 287, 5, 288, 131, 203, 204, 205, 674, 675, 676, 677, 141, 678, 172, 173, 174, 916, 917, 918, 919, 920, 921, 922, 923, 924, 925, 926, 927, 928, 929, 930, 931, 932, 933, 934, 935, 936, 937, 938, 939, 940, 941, 942, 943, 944, 945] (by decide +kernel) (by decide +kernel)
set_option maxRecDepth 20000 in
theorem gL_law_X11_at : GoodIn wsL_law (wsV RL 71 RX11 yX11_at wsX11_at) := goodIn_app (goodIn_of _ (by decide +kernel)) ggL_law_X11_at
set_option maxRecDepth 20000 in
theorem ggL_law_X10_action : GoodIn wsL_law wsX10_action := goodIn_r _ [709, 38, 692, 693, 694, 2, 695, 15, 223, 696, 448, 278, 279, 47, 280, 193, 710, 711, 712, 37, 713, 528, 546, 547, 548, 549, 100, 530, 172, 173, 174, 533, 396, 397, 714, 715, 716, 113, 717, 612, 126, 910, 911, 912, 913, 914, 915, 946, 947, 948, 949, 950, 972, 973, 974, 975, 976, 977, 978, 979, 980, 981, 982, 983, 984, 988, 989, 990, 991, 992] (by decide +kernel) (by decide +kernel)
set_option maxRecDepth 20000 in
theorem gL_law_X10_action : GoodIn wsL_law (wsV RL 72 RX10 yX10_action wsX10_action) := goodIn_app (goodIn_of _ (by decide +kernel)) ggL_law_X10_action
set_option maxRecDepth 20000 in
theorem ggL_law_X11_action : GoodIn wsL_law wsX11_action := goodIn_r _ [721, 151, 633, 285, 286, 287, 5, 288, 131, 203, 204, 205, 722, 723, 724, 725, 143, 142, 916, 917, 918, 919, 920, 921, 922, 923, 924, 925, 926, 927, 928, 929, 930, 931, 932, 933, 934, 935, 936, 937, 938, 939, 940, 941, 942, 943, 944, 945] (by decide +kernel) (by decide +kernel)
set_option maxRecDepth 20000 in
theorem gL_law_X11_action : GoodIn wsL_law (wsV RL 75 RX11 yX11_action wsX11_action) := goodIn_app (goodIn_of _ (by decide +kernel)) ggL_law_X11_action
set_option maxRecDepth 20000 in
theorem ggL_law_X10_flight : GoodIn wsL_law wsX10_flight := goodIn_r _ [729, 38, 692, 693, 694, 2, 695, 15, 223, 696, 448, 278, 279, 47, 280, 193, 730, 731, 732, 37, 733, 734, 528, 533, 396, 173, 397, 546, 547, 548, 549, 100, 530, 172, 174, 735, 736, 737, 738, 714, 715, 716, 113, 717, 612, 126, 739, 740, 741, 742, 107, 104, 532, 557, 558, 559, 560, 561, 540, 556, 360, 361, 362, 53, 277, 743, 390, 391, 29, 392, 83, 84, 393, 394, 395, 398, 399, 400, 401, 227, 228, 402, 403, 404, 405, 406, 407, 408, 26, 409, 70, 71, 410, 75, 76, 411, 412, 413, 414, 415, 744, 417, 418, 419, 745, 746, 747, 748, 539, 749, 750, 751, 752, 910, 911, 912, 913, 914, 915, 946, 947, 948, 949, 950, 972, 973, 974, 975, 976, 977, 978, 979, 980, 981, 982, 983, 984, 988, 989, 990, 991, 992, 961, 962, 959, 960] (by decide +kernel) (by decide +kernel)
set_option maxRecDepth 20000 in
theorem gL_law_X10_flight : GoodIn wsL_law (wsV RL 76 RX10 yX10_flight wsX10_flight) := goodIn_app (goodIn_of _ (by decide +kernel)) ggL_law_X10_flight
set_option maxRecDepth 20000 in
theorem ggL_law_X11_flight : GoodIn wsL_law wsX11_flight := goodIn_r _ [756, 151, 143, 633, 507, 396, 173, 397, 146, 144, 285, 286, 287, 5, 288, 131, 203, 204, 205, 757, 758, 759, 760, 722, 723, 724, 725, 142, 674, 675, 676, 677, 141, 678, 172, 174, 425, 426, 427, 428, 137, 135, 429, 430, 431, 432, 424, 265, 266, 267, 268, 433, 434, 435, 436, 437, 438, 439, 440, 441, 442, 443, 244, 245, 246, 247, 916, 917, 918, 919, 920, 921, 922, 923, 924, 925, 926, 927, 928, 929, 930, 931, 932, 933, 934, 935, 936, 937, 938, 939, 940, 941, 942, 943, 944, 945] (by decide +kernel) (by decide +kernel)
set_option maxRecDepth 20000 in
theorem gL_law_X11_flight : GoodIn wsL_law (wsV RL 79 RX11 yX11_flight wsX11_flight) := goodIn_app (goodIn_of _ (by decide +kernel)) ggL_law_X11_flight
set_option maxRecDepth 20000 in
theorem ggL_law_X10_explain : GoodIn wsL_law wsX10_explain := goodIn_r _ [764, 38, 692, 693, 694, 2, 695, 15, 223, 696, 448, 278, 279, 47, 280, 193, 765, 766, 767, 37, 768, 528, 734, 107, 531, 100, 539, 546, 547, 548, 549, 530, 172, 173, 174, 533, 396, 397, 714, 715, 716, 113, 717, 612, 126, 557, 558, 559, 560, 104, 561, 540, 556, 360, 361, 362, 53, 277, 743, 390, 391, 29, 392, 83, 84, 393, 394, 395, 398, 399, 400, 401, 227, 228, 402, 403, 404, 405, 406, 407, 408, 26, 409, 70, 71, 410, 75, 76, 411, 412, 413, 414, 415, 701, 624, 625, 626, 125, 627, 618, 769, 770, 771, 772, 773, 417, 418, 419, 774, 775, 776, 777, 105, 778, 779, 910, 911, 912, 913, 914, 915, 946, 947, 948, 949, 950, 972, 973, 974, 975, 976, 977, 978, 979, 980, 981, 982, 983, 984, 988, 989, 990, 991, 992, 961, 962, 959, 960] (by decide +kernel) (by decide +kernel)
set_option maxRecDepth 20000 in
theorem gL_law_X10_explain : GoodIn wsL_law (wsV RL 80 RX10 yX10_explain wsX10_explain) := goodIn_app (goodIn_of _ (by decide +kernel)) ggL_law_X10_explain
set_option maxRecDepth 20000 in
theorem ggL_law_X11_explain : GoodIn wsL_law wsX11_explain := goodIn_r _ [783, 151, 633, 143, 146, 131, 144, 285, 286, 287, 5, 288, 203, 204, 205, 722, 723, 724, 725, 142, 674, 675, 676, 677, 141, 678, 172, 173, 174, 784, 785, 786, 787, 433, 434, 435, 436, 437, 438, 439, 265, 266, 267, 268, 440, 441, 442, 443, 425, 426, 427, 428, 137, 135, 429, 430, 431, 432, 424, 788, 789, 790, 791, 916, 917, 918, 919, 920, 921, 922, 923, 924, 925, 926, 927, 928, 929, 930, 931, 932, 933, 934, 935, 936, 937, 938, 939, 940, 941, 942, 943, 944, 945] (by decide +kernel) (by decide +kernel)
set_option maxRecDepth 20000 in
theorem gL_law_X11_explain : GoodIn wsL_law (wsV RL 83 RX11 yX11_explain wsX11_explain) := goodIn_app (goodIn_of _ (by decide +kernel)) ggL_law_X11_explain
set_option maxRecDepth 20000 in
theorem ggL_law_X10_conflictsWithout : GoodIn wsL_law wsX10_conflictsWithout := goodIn_r _ [795, 38, 696, 796, 797, 798, 37, 799, 531, 101, 800, 801, 802, 803, 107, 104, 532, 105, 557, 558, 559, 560, 561, 540, 546, 547, 548, 549, 100, 530, 172, 173, 174, 533, 396, 397, 556, 360, 361, 47, 362, 53, 277, 278, 279, 280, 193, 743, 390, 391, 29, 392, 83, 84, 393, 394, 395, 398, 399, 400, 401, 227, 2, 228, 402, 403, 404, 405, 406, 407, 408, 26, 409, 70, 71, 410, 75, 76, 411, 412, 413, 414, 415, 804, 609, 610, 113, 611, 612, 125, 126, 613, 769, 770, 771, 772, 773, 417, 418, 419, 778, 779, 805, 615, 616, 617, 618, 806, 807, 808, 809, 810, 624, 625, 626, 627, 910, 911, 912, 913, 914, 915, 972, 973, 974, 975, 976, 977, 978, 979, 980, 981, 982, 946, 947, 948, 949, 950, 988, 989, 990, 991, 992, 983, 984, 961, 962, 959, 960] (by decide +kernel) (by decide +kernel)
set_option maxRecDepth 20000 in
theorem gL_law_X10_conflictsWithout : GoodIn wsL_law (wsV RL 84 RX10 yX10_conflictsWithout wsX10_conflictsWithout) := goodIn_app (goodIn_of _ (by decide +kernel)) ggL_law_X10_conflictsWithout
set_option maxRecDepth 20000 in
theorem ggL_law_X11_conflictsWithout : GoodIn wsL_law wsX11_conflictsWithout := goodIn_r _ [814, 151, 131, 815, 816, 817, 5, 818, 633, 150, 146, 674, 675, 676, 677, 141, 678, 172, 173, 174, 784, 785, 786, 787, 433, 434, 435, 436, 437, 438, 439, 203, 204, 205, 265, 266, 267, 268, 440, 441, 442, 443, 425, 426, 427, 428, 137, 135, 429, 430, 431, 432, 424, 819, 820, 821, 822, 916, 917, 918, 919, 920, 921, 922, 923, 924, 925, 926, 927, 928, 929, 930, 931, 932, 933, 934, 935, 936, 937, 938, 939, 940, 941, 942, 943, 944, 945] (by decide +kernel) (by decide +kernel)
set_option maxRecDepth 20000 in
theorem gL_law_X11_conflictsWithout : GoodIn wsL_law (wsV RL 87 RX11 yX11_conflictsWithout wsX11_conflictsWithout) := goodIn_app (goodIn_of _ (by decide +kernel)) ggL_law_X11_conflictsWithout
set_option maxRecDepth 20000 in
theorem ggL_law_X10_fly : GoodIn wsL_law wsX10_fly := goodIn_r _ [826, 38, 696, 19, 15, 827, 165, 166, 167, 18, 168, 59, 169, 170, 171, 172, 173, 174, 175, 176, 177, 178, 179, 180, 181, 14, 182, 43, 183, 184, 185, 186, 44, 48, 49, 187, 188, 189, 190, 47, 191, 53, 192, 193, 828, 829, 830, 37, 831, 528, 530, 531, 104, 532, 832, 698, 699, 700, 546, 547, 548, 549, 100, 533, 396, 397, 701, 624, 625, 113, 626, 125, 627, 618, 833, 834, 835, 836, 277, 278, 279, 280, 837, 731, 732, 733, 734, 910, 911, 912, 913, 914, 915, 972, 973, 974, 975, 976, 977, 978, 979, 980, 981, 982, 946, 947, 948, 949, 950, 951, 952, 953, 983, 984, 988, 989, 990, 991, 992] (by decide +kernel) (by decide +kernel)
set_option maxRecDepth 20000 in
theorem gL_law_X10_fly : GoodIn wsL_law (wsV RL 88 RX10 yX10_fly wsX10_fly) := goodIn_app (goodIn_of _ (by decide +kernel)) ggL_law_X10_fly
