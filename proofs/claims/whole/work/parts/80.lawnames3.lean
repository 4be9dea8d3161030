set_option maxRecDepth 20000 in
theorem ggL_law_X10_plan : GoodIn wsL_law wsX10_plan := goodIn_r _ [711, 418, 712, 160, 282, 131, 133, 132, 439, 440, 441, 5, 442, 163, 164, 165, 642, 643, 644, 645, 646, 647, 648, 649, 397, 398, 399, 400, 115, 121, 323, 650, 651, 652, 653, 117, 119, 713, 714, 715, 716, 717, 718, 719, 720, 118, 915, 916, 917, 918, 919, 920, 921, 922, 923, 924, 925, 926, 927, 928, 929, 930, 931, 932, 933, 934, 935, 936, 937, 938, 939, 940, 941, 942, 943, 944, 945, 946, 947, 948, 949, 950, 951, 952, 953] (by decide +kernel) (by decide +kernel)
set_option maxRecDepth 20000 in
theorem gL_law_X10_plan : GoodIn wsL_law (wsV RL 75 RX10 yX10_plan wsX10_plan) := goodIn_app (goodIn_of _ (by decide +kernel)) ggL_law_X10_plan
set_option maxRecDepth 20000 in
theorem ggL_law_X9_dry : GoodIn wsL_law wsX9_dry := goodIn_r _ [724, 144, 47, 370, 371, 372, 2, 373, 147, 148, 149, 374, 203, 204, 46, 205, 182, 375, 376, 377, 378, 19, 340, 379, 380, 381, 382, 105, 383, 384, 385, 386, 905, 906, 907, 908, 909, 910, 911, 912, 913, 914, 987, 988, 989, 990, 991, 992, 993, 994, 995, 959, 960, 961, 962, 963, 964] (by decide +kernel) (by decide +kernel)
set_option maxRecDepth 20000 in
theorem gL_law_X9_dry : GoodIn wsL_law (wsV RL 76 RX9 yX9_dry wsX9_dry) := goodIn_app (goodIn_of _ (by decide +kernel)) ggL_law_X9_dry
set_option maxRecDepth 20000 in
theorem ggL_law_X10_dry : GoodIn wsL_law wsX10_dry := goodIn_r _ [728, 160, 323, 392, 393, 394, 5, 395, 396, 163, 164, 165, 397, 398, 399, 400, 115, 121, 915, 916, 917, 918, 919, 920, 921, 922, 923, 924, 925, 926, 927, 928, 929, 930, 931, 932, 933, 934, 935, 936, 937, 938, 939, 940, 941, 942, 943, 944, 945, 946, 947, 948, 949, 950, 951, 952, 953] (by decide +kernel) (by decide +kernel)
set_option maxRecDepth 20000 in
theorem gL_law_X10_dry : GoodIn wsL_law (wsV RL 79 RX10 yX10_dry wsX10_dry) := goodIn_app (goodIn_of _ (by decide +kernel)) ggL_law_X10_dry
set_option maxRecDepth 20000 in
theorem ggL_law_X9_stays : GoodIn wsL_law wsX9_stays := goodIn_r _ [732, 144, 47, 370, 371, 372, 2, 373, 147, 148, 149, 733, 734, 735, 374, 203, 204, 46, 205, 182, 375, 376, 377, 378, 19, 340, 379, 380, 381, 382, 105, 383, 384, 385, 386, 905, 906, 907, 908, 909, 910, 911, 912, 913, 914, 987, 988, 989, 990, 991, 992, 993, 994, 995, 959, 960, 961, 962, 963, 964] (by decide +kernel) (by decide +kernel)
set_option maxRecDepth 20000 in
theorem gL_law_X9_stays : GoodIn wsL_law (wsV RL 80 RX9 yX9_stays wsX9_stays) := goodIn_app (goodIn_of _ (by decide +kernel)) ggL_law_X9_stays
set_option maxRecDepth 20000 in
theorem ggL_law_X10_stays : GoodIn wsL_law wsX10_stays := goodIn_r _ [739, 740, 160, 323, 392, 393, 394, 5, 395, 396, 163, 164, 165, 397, 398, 399, 400, 115, 121, 915, 916, 917, 918, 919, 920, 921, 922, 923, 924, 925, 926, 927, 928, 929, 930, 931, 932, 933, 934, 935, 936, 937, 938, 939, 940, 941, 942, 943, 944, 945, 946, 947, 948, 949, 950, 951, 952, 953] (by decide +kernel) (by decide +kernel)
set_option maxRecDepth 20000 in
theorem gL_law_X10_stays : GoodIn wsL_law (wsV RL 83 RX10 yX10_stays wsX10_stays) := goodIn_app (goodIn_of _ (by decide +kernel)) ggL_law_X10_stays
set_option maxRecDepth 20000 in
theorem ggL_law_X9_spot : GoodIn wsL_law wsX9_spot := goodIn_r _ [744, 144, 47, 370, 733, 734, 2, 735, 147, 148, 149, 374, 203, 204, 46, 205, 182, 375, 376, 377, 378, 19, 340, 379, 380, 381, 382, 105, 383, 384, 385, 386, 905, 906, 907, 908, 909, 910, 911, 912, 913, 914, 987, 988, 989, 990, 991, 992, 993, 994, 995, 959, 960, 961, 962, 963, 964] (by decide +kernel) (by decide +kernel)
set_option maxRecDepth 20000 in
theorem gL_law_X9_spot : GoodIn wsL_law (wsV RL 84 RX9 yX9_spot wsX9_spot) := goodIn_app (goodIn_of _ (by decide +kernel)) ggL_law_X9_spot
set_option maxRecDepth 20000 in
theorem ggL_law_X10_spot : GoodIn wsL_law wsX10_spot := goodIn_r _ [748, 740, 160, 323, 392, 163, 164, 5, 165, 397, 398, 399, 400, 115, 121, 915, 916, 917, 918, 919, 920, 921, 922, 923, 924, 925, 926, 927, 928, 929, 930, 931, 932, 933, 934, 935, 936, 937, 938, 939, 940, 941, 942, 943, 944, 945, 946, 947, 948, 949, 950, 951, 952, 953] (by decide +kernel) (by decide +kernel)
set_option maxRecDepth 20000 in
theorem gL_law_X10_spot : GoodIn wsL_law (wsV RL 87 RX10 yX10_spot wsX10_spot) := goodIn_app (goodIn_of _ (by decide +kernel)) ggL_law_X10_spot
set_option maxRecDepth 20000 in
theorem ggL_law_X9_soonest : GoodIn wsL_law wsX9_soonest := goodIn_r _ [752, 47, 405, 19, 407, 406, 409, 340, 410, 411, 412, 46, 413, 183, 431, 432, 433, 434, 184, 753, 631, 632, 633, 634, 457, 385, 458, 383, 384, 386, 635, 380, 381, 382, 182, 105, 636, 488, 489, 490, 107, 637, 480, 481, 482, 109, 905, 906, 907, 908, 909, 910, 911, 912, 913, 914, 959, 960, 961, 962, 963, 964, 987, 988, 989, 990, 991, 992, 993, 994, 995] (by decide +kernel) (by decide +kernel)
set_option maxRecDepth 20000 in
theorem gL_law_X9_soonest : GoodIn wsL_law (wsV RL 88 RX9 yX9_soonest wsX9_soonest) := goodIn_app (goodIn_of _ (by decide +kernel)) ggL_law_X9_soonest
set_option maxRecDepth 20000 in
theorem ggL_law_X10_soonest : GoodIn wsL_law wsX10_soonest := goodIn_r _ [757, 418, 121, 116, 419, 420, 421, 5, 422, 324, 163, 164, 165, 439, 440, 441, 442, 282, 397, 398, 399, 400, 115, 323, 650, 651, 652, 653, 117, 119, 915, 916, 917, 918, 919, 920, 921, 922, 923, 924, 925, 926, 927, 928, 929, 930, 931, 932, 933, 934, 935, 936, 937, 938, 939, 940, 941, 942, 943, 944, 945, 946, 947, 948, 949, 950, 951, 952, 953] (by decide +kernel) (by decide +kernel)
set_option maxRecDepth 20000 in
theorem gL_law_X10_soonest : GoodIn wsL_law (wsV RL 91 RX10 yX10_soonest wsX10_soonest) := goodIn_app (goodIn_of _ (by decide +kernel)) ggL_law_X10_soonest
set_option maxRecDepth 20000 in
theorem ggL_law_X9_offer : GoodIn wsL_law wsX9_offer := goodIn_r _ [761, 47, 405, 144, 353, 762, 384, 385, 386, 431, 432, 433, 46, 434, 184, 147, 148, 2, 149, 905, 906, 907, 908, 909, 910, 911, 912, 913, 914, 987, 988, 989, 990, 991, 992, 993, 994, 995] (by decide +kernel) (by decide +kernel)
set_option maxRecDepth 20000 in
theorem gL_law_X9_offer : GoodIn wsL_law (wsV RL 92 RX9 yX9_offer wsX9_offer) := goodIn_app (goodIn_of _ (by decide +kernel)) ggL_law_X9_offer
set_option maxRecDepth 20000 in
theorem ggL_law_X10_offer : GoodIn wsL_law wsX10_offer := goodIn_r _ [766, 418, 767, 768, 160, 120, 439, 440, 441, 5, 442, 282, 163, 164, 165, 915, 916, 917, 918, 919, 920, 921, 922, 923, 924, 925, 926, 927, 928, 929, 930, 931, 932, 933, 934, 935, 936, 937, 938, 939, 940, 941, 942, 943, 944, 945, 946, 947, 948, 949, 950, 951, 952, 953] (by decide +kernel) (by decide +kernel)
set_option maxRecDepth 20000 in
theorem gL_law_X10_offer : GoodIn wsL_law (wsV RL 96 RX10 yX10_offer wsX10_offer) := goodIn_app (goodIn_of _ (by decide +kernel)) ggL_law_X10_offer
set_option maxRecDepth 20000 in
theorem ggL_law_X9_calm : GoodIn wsL_law wsX9_calm := goodIn_r _ [772, 144, 773, 774, 147, 148, 2, 149] (by decide +kernel) (by decide +kernel)
set_option maxRecDepth 20000 in
theorem gL_law_X9_calm : GoodIn wsL_law (wsV RL 97 RX9 yX9_calm wsX9_calm) := goodIn_app (goodIn_of _ (by decide +kernel)) ggL_law_X9_calm
set_option maxRecDepth 20000 in
theorem ggL_law_X10_calm : GoodIn wsL_law wsX10_calm := goodIn_r _ [778, 499, 767, 160, 779, 163, 164, 5, 165] (by decide +kernel) (by decide +kernel)
set_option maxRecDepth 20000 in
theorem gL_law_X10_calm : GoodIn wsL_law (wsV RL 100 RX10 yX10_calm wsX10_calm) := goodIn_app (goodIn_of _ (by decide +kernel)) ggL_law_X10_calm
set_option maxRecDepth 20000 in
theorem ggL_law_X9_shout : GoodIn wsL_law wsX9_shout := goodIn_r _ [783, 144, 35, 341, 146, 733, 734, 2, 735, 147, 148, 149, 784, 785, 786, 34, 787, 265, 92, 93, 905, 906, 907, 908, 909, 910, 911, 912, 913, 914, 980, 981, 982] (by decide +kernel) (by decide +kernel)
set_option maxRecDepth 20000 in
theorem gL_law_X9_shout : GoodIn wsL_law (wsV RL 101 RX9 yX9_shout wsX9_shout) := goodIn_app (goodIn_of _ (by decide +kernel)) ggL_law_X9_shout
set_option maxRecDepth 20000 in
theorem ggL_law_X10_shout : GoodIn wsL_law wsX10_shout := goodIn_r _ [791, 740, 160, 279, 162, 134, 135, 163, 164, 5, 165, 915, 916, 917, 918, 919, 920, 921, 922, 923, 924, 925, 926, 927, 928, 929, 930, 931, 932, 933, 934, 935, 936, 937, 938, 939, 940, 941, 942, 943, 944, 945, 946, 947, 948, 949, 950, 951, 952, 953] (by decide +kernel) (by decide +kernel)
set_option maxRecDepth 20000 in
theorem gL_law_X10_shout : GoodIn wsL_law (wsV RL 105 RX10 yX10_shout wsX10_shout) := goodIn_app (goodIn_of _ (by decide +kernel)) ggL_law_X10_shout
set_option maxRecDepth 20000 in
theorem ggL_law_X9_bears : GoodIn wsL_law wsX9_bears := goodIn_r _ [795, 35, 796, 797, 798, 34, 799, 800, 801, 802, 803, 265, 92, 93, 905, 906, 907, 908, 909, 910, 911, 912, 913, 914, 980, 981, 982] (by decide +kernel) (by decide +kernel)
set_option maxRecDepth 20000 in
theorem gL_law_X9_bears : GoodIn wsL_law (wsV RL 106 RX9 yX9_bears wsX9_bears) := goodIn_app (goodIn_of _ (by decide +kernel)) ggL_law_X9_bears
set_option maxRecDepth 20000 in
theorem ggL_law_X10_bears : GoodIn wsL_law wsX10_bears := goodIn_r _ [807, 808, 809, 810, 5, 811, 279, 134, 135, 915, 916, 917, 918, 919, 920, 921, 922, 923, 924, 925, 926, 927, 928, 929, 930, 931, 932, 933, 934, 935, 936, 937, 938, 939, 940, 941, 942, 943, 944, 945, 946, 947, 948, 949, 950, 951, 952, 953] (by decide +kernel) (by decide +kernel)
set_option maxRecDepth 20000 in
theorem gL_law_X10_bears : GoodIn wsL_law (wsV RL 109 RX10 yX10_bears wsX10_bears) := goodIn_app (goodIn_of _ (by decide +kernel)) ggL_law_X10_bears
set_option maxRecDepth 20000 in
theorem ggL_law_X9_listen : GoodIn wsL_law wsX9_listen := goodIn_r _ [815, 35, 816, 817, 818, 34, 819, 820, 384, 385, 386, 821, 797, 798, 799, 800, 801, 802, 803, 265, 92, 93, 822, 823, 677, 824, 825, 826, 827, 905, 906, 907, 908, 909, 910, 911, 912, 913, 914, 980, 981, 982] (by decide +kernel) (by decide +kernel)
set_option maxRecDepth 20000 in
theorem gL_law_X9_listen : GoodIn wsL_law (wsV RL 110 RX9 yX9_listen wsX9_listen) := goodIn_app (goodIn_of _ (by decide +kernel)) ggL_law_X9_listen
set_option maxRecDepth 20000 in
theorem ggL_law_X10_listen : GoodIn wsL_law wsX10_listen := goodIn_r _ [831, 808, 809, 810, 5, 811, 279, 134, 135, 915, 916, 917, 918, 919, 920, 921, 922, 923, 924, 925, 926, 927, 928, 929, 930, 931, 932, 933, 934, 935, 936, 937, 938, 939, 940, 941, 942, 943, 944, 945, 946, 947, 948, 949, 950, 951, 952, 953] (by decide +kernel) (by decide +kernel)
set_option maxRecDepth 20000 in
theorem gL_law_X10_listen : GoodIn wsL_law (wsV RL 113 RX10 yX10_listen wsX10_listen) := goodIn_app (goodIn_of _ (by decide +kernel)) ggL_law_X10_listen
set_option maxRecDepth 20000 in
theorem ggL_law_X9_write : GoodIn wsL_law wsX9_write := goodIn_r _ [835, 47, 405, 144, 39, 342, 146, 431, 432, 433, 46, 434, 184, 147, 148, 2, 149, 836, 837, 838, 38, 839, 270, 97, 98, 905, 906, 907, 908, 909, 910, 911, 912, 913, 914, 983, 984, 985, 987, 988, 989, 990, 991, 992, 993, 994, 995] (by decide +kernel) (by decide +kernel)
set_option maxRecDepth 20000 in
theorem gL_law_X9_write : GoodIn wsL_law (wsV RL 114 RX9 yX9_write wsX9_write) := goodIn_app (goodIn_of _ (by decide +kernel)) ggL_law_X9_write
set_option maxRecDepth 20000 in
theorem ggL_law_X10_write : GoodIn wsL_law wsX10_write := goodIn_r _ [843, 418, 712, 160, 280, 162, 136, 137, 439, 440, 441, 5, 442, 282, 163, 164, 165, 915, 916, 917, 918, 919, 920, 921, 922, 923, 924, 925, 926, 927, 928, 929, 930, 931, 932, 933, 934, 935, 936, 937, 938, 939, 940, 941, 942, 943, 944, 945, 946, 947, 948, 949, 950, 951, 952, 953] (by decide +kernel) (by decide +kernel)
set_option maxRecDepth 20000 in
theorem gL_law_X10_write : GoodIn wsL_law (wsV RL 117 RX10 yX10_write wsX10_write) := goodIn_app (goodIn_of _ (by decide +kernel)) ggL_law_X10_write
set_option maxRecDepth 20000 in
theorem ggL_law_X9_tear : GoodIn wsL_law wsX9_tear := goodIn_r _ [847, 35, 341, 39, 342, 261, 262, 263, 34, 264, 265, 266, 267, 268, 38, 269, 270, 905, 906, 907, 908, 909, 910, 911, 912, 913, 914, 980, 981, 982, 983, 984, 985] (by decide +kernel) (by decide +kernel)
set_option maxRecDepth 20000 in
theorem gL_law_X9_tear : GoodIn wsL_law (wsV RL 118 RX9 yX9_tear wsX9_tear) := goodIn_app (goodIn_of _ (by decide +kernel)) ggL_law_X9_tear
set_option maxRecDepth 20000 in
theorem ggL_law_X10_tear : GoodIn wsL_law wsX10_tear := goodIn_r _ [851, 279, 280, 915, 916, 917, 918, 919, 920, 921, 922, 923, 924, 925, 926, 927, 928, 929, 930, 931, 932, 933, 934, 935, 936, 937, 938, 939, 940, 941, 942, 943, 944, 945, 946, 947, 948, 949, 950, 951, 952, 953] (by decide +kernel) (by decide +kernel)
set_option maxRecDepth 20000 in
theorem gL_law_X10_tear : GoodIn wsL_law (wsV RL 121 RX10 yX10_tear wsX10_tear) := goodIn_app (goodIn_of _ (by decide +kernel)) ggL_law_X10_tear
set_option maxRecDepth 20000 in
theorem ggL_law_X9_judge : GoodIn wsL_law wsX9_judge := goodIn_r _ [855, 39, 19, 856, 857, 858, 38, 859, 270, 860, 97, 98, 905, 906, 907, 908, 909, 910, 911, 912, 913, 914, 983, 984, 985, 959, 960, 961, 962, 963, 964] (by decide +kernel) (by decide +kernel)
set_option maxRecDepth 20000 in
theorem gL_law_X9_judge : GoodIn wsL_law (wsV RL 122 RX9 yX9_judge wsX9_judge) := goodIn_app (goodIn_of _ (by decide +kernel)) ggL_law_X9_judge
set_option maxRecDepth 20000 in
theorem ggL_law_X10_judge : GoodIn wsL_law wsX10_judge := goodIn_r _ [864, 280, 121, 136, 137, 915, 916, 917, 918, 919, 920, 921, 922, 923, 924, 925, 926, 927, 928, 929, 930, 931, 932, 933, 934, 935, 936, 937, 938, 939, 940, 941, 942, 943, 944, 945, 946, 947, 948, 949, 950, 951, 952, 953] (by decide +kernel) (by decide +kernel)
set_option maxRecDepth 20000 in
theorem gL_law_X10_judge : GoodIn wsL_law (wsV RL 125 RX10 yX10_judge wsX10_judge) := goodIn_app (goodIn_of _ (by decide +kernel)) ggL_law_X10_judge
set_option maxRecDepth 20000 in
theorem ggL_law_X9_seed : GoodIn wsL_law wsX9_seed := goodIn_r _ [868, 144, 43, 869, 905, 906, 907, 908, 909, 910, 911, 912, 913, 914, 986] (by decide +kernel) (by decide +kernel)
set_option maxRecDepth 20000 in
theorem gL_law_X9_seed : GoodIn wsL_law (wsV RL 126 RX9 yX9_seed wsX9_seed) := goodIn_app (goodIn_of _ (by decide +kernel)) ggL_law_X9_seed
set_option maxRecDepth 20000 in
theorem ggL_law_X10_seed : GoodIn wsL_law wsX10_seed := goodIn_r _ [873, 160, 601, 915, 916, 917, 918, 919, 920, 921, 922, 923, 924, 925, 926, 927, 928, 929, 930, 931, 932, 933, 934, 935, 936, 937, 938, 939, 940, 941, 942, 943, 944, 945, 946, 947, 948, 949, 950, 951, 952, 953] (by decide +kernel) (by decide +kernel)
set_option maxRecDepth 20000 in
theorem gL_law_X10_seed : GoodIn wsL_law (wsV RL 129 RX10 yX10_seed wsX10_seed) := goodIn_app (goodIn_of _ (by decide +kernel)) ggL_law_X10_seed
set_option maxRecDepth 20000 in
theorem ggL_law_X9_keep : GoodIn wsL_law wsX9_keep := goodIn_r _ [877, 405, 27, 19, 43, 869, 23, 878, 879, 2, 880, 147, 148, 149, 881, 882, 883, 26, 884, 75, 76, 78, 885, 460, 461, 18, 462, 59, 463, 464, 465, 466, 60, 61, 62, 63, 251, 252, 253, 254, 22, 255, 256, 905, 906, 907, 908, 909, 910, 911, 912, 913, 914, 986, 968, 969, 970, 959, 960, 961, 962, 963, 964, 965, 966, 967] (by decide +kernel) (by decide +kernel)
set_option maxRecDepth 20000 in
theorem gL_law_X9_keep : GoodIn wsL_law (wsV RL 130 RX9 yX9_keep wsX9_keep) := goodIn_app (goodIn_of _ (by decide +kernel)) ggL_law_X9_keep
set_option maxRecDepth 20000 in
theorem ggL_law_X10_keep : GoodIn wsL_law wsX10_keep := goodIn_r _ [889, 418, 138, 121, 601, 139, 281, 163, 164, 5, 165, 915, 916, 917, 918, 919, 920, 921, 922, 923, 924, 925, 926, 927, 928, 929, 930, 931, 932, 933, 934, 935, 936, 937, 938, 939, 940, 941, 942, 943, 944, 945, 946, 947, 948, 949, 950, 951, 952, 953] (by decide +kernel) (by decide +kernel)
set_option maxRecDepth 20000 in
theorem gL_law_X10_keep : GoodIn wsL_law (wsV RL 133 RX10 yX10_keep wsX10_keep) := goodIn_app (goodIn_of _ (by decide +kernel)) ggL_law_X10_keep
set_option maxRecDepth 20000 in
theorem ggL_law_X9_goBack : GoodIn wsL_law wsX9_goBack := goodIn_r _ [893, 405, 27, 894, 370, 19, 43, 895, 869, 23, 878, 879, 2, 880, 147, 148, 149, 896, 897, 898, 26, 899, 75, 900, 615, 616, 18, 617, 59, 463, 464, 465, 466, 60, 61, 62, 63, 251, 252, 253, 254, 22, 255, 256, 905, 906, 907, 908, 909, 910, 911, 912, 913, 914, 968, 969, 970, 986, 959, 960, 961, 962, 963, 964, 965, 966, 967] (by decide +kernel) (by decide +kernel)
set_option maxRecDepth 20000 in
theorem gL_law_X9_goBack : GoodIn wsL_law (wsV RL 134 RX9 yX9_goBack wsX9_goBack) := goodIn_app (goodIn_of _ (by decide +kernel)) ggL_law_X9_goBack
set_option maxRecDepth 20000 in
theorem ggL_law_X10_goBack : GoodIn wsL_law wsX10_goBack := goodIn_r _ [904, 418, 139, 392, 121, 138, 601, 281, 163, 164, 5, 165, 915, 916, 917, 918, 919, 920, 921, 922, 923, 924, 925, 926, 927, 928, 929, 930, 931, 932, 933, 934, 935, 936, 937, 938, 939, 940, 941, 942, 943, 944, 945, 946, 947, 948, 949, 950, 951, 952, 953] (by decide +kernel) (by decide +kernel)
set_option maxRecDepth 20000 in
theorem gL_law_X10_goBack : GoodIn wsL_law (wsV RL 137 RX10 yX10_goBack wsX10_goBack) := goodIn_app (goodIn_of _ (by decide +kernel)) ggL_law_X10_goBack

