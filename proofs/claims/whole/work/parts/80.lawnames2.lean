set_option maxRecDepth 20000 in
theorem ggL_law_X9_init : GoodIn wsL_law wsX9_init := goodIn_r _ [8, 9, 10, 11, 12, 13, 14, 15, 16, 17, 18, 19, 20, 21, 22, 23, 24, 25, 26, 27, 28, 29, 30, 31, 32, 33, 34, 35, 36, 37, 38, 39, 40, 41, 42, 43, 44, 45, 46, 47, 48, 49, 50, 51, 52, 53, 54, 55, 56, 57, 58, 59, 60, 61, 62, 63, 64, 65, 66, 67, 68, 69, 70, 71, 72, 73, 74, 75, 76, 77, 78, 79, 80, 81, 82, 83, 84, 85, 86, 87, 88, 89, 90, 91, 92, 93, 94, 95, 96, 97, 98, 99, 100, 101, 102, 103, 104, 105, 106, 107, 108, 109, 110, 954, 955, 956, 957, 958, 905, 906, 907, 908, 909, 910, 911, 912, 913, 914, 959, 960, 961, 962, 963, 964, 965, 966, 967, 968, 969, 970, 971, 972, 973, 974, 975, 976, 977, 978, 979, 980, 981, 982, 983, 984, 985, 986, 987, 988, 989, 990, 991, 992, 993, 994, 995] (by decide +kernel) (by decide +kernel)
set_option maxRecDepth 20000 in
theorem gL_law_X9_init : GoodIn wsL_law (wsX9_init) := ggL_law_X9_init
set_option maxRecDepth 20000 in
theorem ggL_law_X10_init : GoodIn wsL_law wsX10_init := goodIn_r _ [113, 114, 10, 11, 52, 115, 116, 117, 118, 119, 120, 121, 122, 123, 124, 125, 126, 127, 128, 129, 130, 131, 132, 133, 134, 77, 135, 136, 137, 138, 139, 915, 916, 917, 918, 919, 920, 921, 922, 923, 924, 925, 926, 927, 928, 929, 930, 931, 932, 933, 934, 935, 936, 937, 938, 939, 940, 941, 942, 943, 944, 945, 946, 947, 948, 949, 950, 951, 952, 953] (by decide +kernel) (by decide +kernel)
set_option maxRecDepth 20000 in
theorem gL_law_X10_init : GoodIn wsL_law (wsX10_init) := ggL_law_X10_init
set_option maxRecDepth 20000 in
theorem ggL_law_X9_feed : GoodIn wsL_law wsX9_feed := goodIn_r _ [143, 144, 15, 145, 146, 147, 148, 2, 149, 150, 151, 152, 14, 153, 154, 53, 905, 906, 907, 908, 909, 910, 911, 912, 913, 914, 954, 955, 956, 957, 958] (by decide +kernel) (by decide +kernel)
set_option maxRecDepth 20000 in
theorem gL_law_X9_feed : GoodIn wsL_law (wsV RL 13 RX9 yX9_feed wsX9_feed) := goodIn_app (goodIn_of _ (by decide +kernel)) ggL_law_X9_feed
set_option maxRecDepth 20000 in
theorem ggL_law_X10_feed : GoodIn wsL_law wsX10_feed := goodIn_r _ [158, 159, 160, 161, 162, 122, 163, 164, 5, 165, 915, 916, 917, 918, 919, 920, 921, 922, 923, 924, 925, 926, 927, 928, 929, 930, 931, 932, 933, 934, 935, 936, 937, 938, 939, 940, 941, 942, 943, 944, 945, 946, 947, 948, 949, 950, 951, 952, 953] (by decide +kernel) (by decide +kernel)
set_option maxRecDepth 20000 in
theorem gL_law_X10_feed : GoodIn wsL_law (wsV RL 17 RX10 yX10_feed wsX10_feed) := goodIn_app (goodIn_of _ (by decide +kernel)) ggL_law_X10_feed
set_option maxRecDepth 20000 in
theorem ggL_law_X9_beach : GoodIn wsL_law wsX9_beach := goodIn_r _ [169, 15, 48, 170, 47, 19, 23, 27, 35, 39, 171, 172, 173, 174, 14, 175, 176, 177, 54, 154, 178, 179, 180, 46, 181, 182, 183, 184, 185, 186, 187, 188, 189, 190, 191, 192, 53, 193, 194, 195, 196, 197, 198, 199, 200, 201, 202, 203, 204, 205, 206, 207, 208, 209, 210, 211, 212, 213, 214, 215, 216, 217, 218, 219, 220, 105, 221, 222, 223, 224, 225, 226, 227, 228, 229, 230, 231, 232, 233, 234, 235, 236, 237, 106, 238, 239, 240, 241, 242, 243, 244, 245, 246, 107, 108, 109, 110, 247, 248, 249, 18, 250, 251, 59, 60, 61, 62, 63, 64, 65, 66, 67, 252, 253, 254, 22, 255, 256, 257, 258, 259, 26, 260, 78, 261, 262, 263, 34, 264, 265, 266, 267, 268, 38, 269, 270, 905, 906, 907, 908, 909, 910, 911, 912, 913, 914, 954, 955, 956, 957, 958, 987, 988, 989, 990, 991, 992, 993, 994, 995, 959, 960, 961, 962, 963, 964, 965, 966, 967, 968, 969, 970, 980, 981, 982, 983, 984, 985] (by decide +kernel) (by decide +kernel)
set_option maxRecDepth 20000 in
theorem gL_law_X9_beach : GoodIn wsL_law (wsV RL 18 RX9 yX9_beach wsX9_beach) := goodIn_app (goodIn_of _ (by decide +kernel)) ggL_law_X9_beach
set_option maxRecDepth 20000 in
theorem ggL_law_X10_beach : GoodIn wsL_law wsX10_beach := goodIn_r _ [274, 123, 275, 276, 277, 278, 161, 279, 280, 281, 139, 282, 283, 284, 285, 5, 286, 122, 287, 288, 289, 290, 291, 292, 293, 294, 295, 296, 297, 298, 124, 299, 300, 301, 302, 303, 304, 305, 306, 307, 308, 309, 310, 163, 164, 165, 311, 312, 313, 314, 125, 315, 316, 317, 318, 126, 127, 128, 129, 319, 320, 321, 322, 323, 324, 115, 116, 117, 118, 119, 120, 121, 915, 916, 917, 918, 919, 920, 921, 922, 923, 924, 925, 926, 927, 928, 929, 930, 931, 932, 933, 934, 935, 936, 937, 938, 939, 940, 941, 942, 943, 944, 945, 946, 947, 948, 949, 950, 951, 952, 953] (by decide +kernel) (by decide +kernel)
set_option maxRecDepth 20000 in
theorem gL_law_X10_beach : GoodIn wsL_law (wsV RL 22 RX10 yX10_beach wsX10_beach) := goodIn_app (goodIn_of _ (by decide +kernel)) ggL_law_X10_beach
set_option maxRecDepth 20000 in
theorem ggL_law_X9_fault : GoodIn wsL_law wsX9_fault := goodIn_r _ [328, 15, 329, 905, 906, 907, 908, 909, 910, 911, 912, 913, 914, 954, 955, 956, 957, 958] (by decide +kernel) (by decide +kernel)
set_option maxRecDepth 20000 in
theorem gL_law_X9_fault : GoodIn wsL_law (wsV RL 23 RX9 yX9_fault wsX9_fault) := goodIn_app (goodIn_of _ (by decide +kernel)) ggL_law_X9_fault
set_option maxRecDepth 20000 in
theorem ggL_law_X10_fault : GoodIn wsL_law wsX10_fault := goodIn_r _ [333, 123, 915, 916, 917, 918, 919, 920, 921, 922, 923, 924, 925, 926, 927, 928, 929, 930, 931, 932, 933, 934, 935, 936, 937, 938, 939, 940, 941, 942, 943, 944, 945, 946, 947, 948, 949, 950, 951, 952, 953] (by decide +kernel) (by decide +kernel)
set_option maxRecDepth 20000 in
theorem gL_law_X10_fault : GoodIn wsL_law (wsV RL 26 RX10 yX10_fault wsX10_fault) := goodIn_app (goodIn_of _ (by decide +kernel)) ggL_law_X10_fault
set_option maxRecDepth 20000 in
theorem ggL_law_X9_told : GoodIn wsL_law wsX9_told := goodIn_r _ [337, 47, 338, 339, 171, 15, 145, 19, 340, 35, 341, 39, 342, 23, 343, 144, 344, 345, 346, 18, 347, 62, 348, 349, 350, 2, 351, 352, 353, 905, 906, 907, 908, 909, 910, 911, 912, 913, 914, 987, 988, 989, 990, 991, 992, 993, 994, 995, 954, 955, 956, 957, 958, 959, 960, 961, 962, 963, 964, 980, 981, 982, 983, 984, 985, 965, 966, 967] (by decide +kernel) (by decide +kernel)
set_option maxRecDepth 20000 in
theorem gL_law_X9_told : GoodIn wsL_law (wsV RL 27 RX9 yX9_told wsX9_told) := goodIn_app (goodIn_of _ (by decide +kernel)) ggL_law_X9_told
set_option maxRecDepth 20000 in
theorem ggL_law_X10_told : GoodIn wsL_law wsX10_told := goodIn_r _ [357, 323, 324, 282, 161, 121, 279, 280, 281, 160, 358, 359, 360, 5, 361, 362, 363, 364, 365, 120, 915, 916, 917, 918, 919, 920, 921, 922, 923, 924, 925, 926, 927, 928, 929, 930, 931, 932, 933, 934, 935, 936, 937, 938, 939, 940, 941, 942, 943, 944, 945, 946, 947, 948, 949, 950, 951, 952, 953] (by decide +kernel) (by decide +kernel)
set_option maxRecDepth 20000 in
theorem gL_law_X10_told : GoodIn wsL_law (wsV RL 30 RX10 yX10_told wsX10_told) := goodIn_app (goodIn_of _ (by decide +kernel)) ggL_law_X10_told
set_option maxRecDepth 20000 in
theorem ggL_law_X9_depth : GoodIn wsL_law wsX9_depth := goodIn_r _ [369, 144, 47, 370, 371, 372, 2, 373, 147, 148, 149, 374, 203, 204, 46, 205, 182, 375, 376, 377, 378, 19, 340, 379, 380, 381, 382, 105, 383, 384, 385, 386, 905, 906, 907, 908, 909, 910, 911, 912, 913, 914, 987, 988, 989, 990, 991, 992, 993, 994, 995, 959, 960, 961, 962, 963, 964] (by decide +kernel) (by decide +kernel)
set_option maxRecDepth 20000 in
theorem gL_law_X9_depth : GoodIn wsL_law (wsV RL 31 RX9 yX9_depth wsX9_depth) := goodIn_app (goodIn_of _ (by decide +kernel)) ggL_law_X9_depth
set_option maxRecDepth 20000 in
theorem ggL_law_X10_depth : GoodIn wsL_law wsX10_depth := goodIn_r _ [390, 391, 160, 323, 392, 393, 394, 5, 395, 396, 163, 164, 165, 397, 398, 399, 400, 115, 121, 915, 916, 917, 918, 919, 920, 921, 922, 923, 924, 925, 926, 927, 928, 929, 930, 931, 932, 933, 934, 935, 936, 937, 938, 939, 940, 941, 942, 943, 944, 945, 946, 947, 948, 949, 950, 951, 952, 953] (by decide +kernel) (by decide +kernel)
set_option maxRecDepth 20000 in
theorem gL_law_X10_depth : GoodIn wsL_law (wsV RL 35 RX10 yX10_depth wsX10_depth) := goodIn_app (goodIn_of _ (by decide +kernel)) ggL_law_X10_depth
set_option maxRecDepth 20000 in
theorem ggL_law_X9_hut : GoodIn wsL_law wsX9_hut := goodIn_r _ [404, 47, 405, 406, 19, 407, 408, 409, 144, 410, 411, 412, 46, 413, 183, 905, 906, 907, 908, 909, 910, 911, 912, 913, 914, 987, 988, 989, 990, 991, 992, 993, 994, 995, 959, 960, 961, 962, 963, 964] (by decide +kernel) (by decide +kernel)
set_option maxRecDepth 20000 in
theorem gL_law_X9_hut : GoodIn wsL_law (wsV RL 36 RX9 yX9_hut wsX9_hut) := goodIn_app (goodIn_of _ (by decide +kernel)) ggL_law_X9_hut
set_option maxRecDepth 20000 in
theorem ggL_law_X10_hut : GoodIn wsL_law wsX10_hut := goodIn_r _ [417, 418, 116, 121, 160, 419, 420, 421, 5, 422, 324, 163, 164, 165, 915, 916, 917, 918, 919, 920, 921, 922, 923, 924, 925, 926, 927, 928, 929, 930, 931, 932, 933, 934, 935, 936, 937, 938, 939, 940, 941, 942, 943, 944, 945, 946, 947, 948, 949, 950, 951, 952, 953] (by decide +kernel) (by decide +kernel)
set_option maxRecDepth 20000 in
theorem gL_law_X10_hut : GoodIn wsL_law (wsV RL 39 RX10 yX10_hut wsX10_hut) := goodIn_app (goodIn_of _ (by decide +kernel)) ggL_law_X10_hut
set_option maxRecDepth 20000 in
theorem ggL_law_X9_legal : GoodIn wsL_law wsX9_legal := goodIn_r _ [426, 47, 405, 427, 428, 429, 353, 19, 352, 430, 144, 431, 432, 433, 46, 434, 184, 905, 906, 907, 908, 909, 910, 911, 912, 913, 914, 987, 988, 989, 990, 991, 992, 993, 994, 995, 959, 960, 961, 962, 963, 964] (by decide +kernel) (by decide +kernel)
set_option maxRecDepth 20000 in
theorem gL_law_X9_legal : GoodIn wsL_law (wsV RL 40 RX9 yX9_legal wsX9_legal) := goodIn_app (goodIn_of _ (by decide +kernel)) ggL_law_X9_legal
set_option maxRecDepth 20000 in
theorem ggL_law_X10_legal : GoodIn wsL_law wsX10_legal := goodIn_r _ [438, 418, 117, 118, 119, 120, 121, 160, 439, 440, 441, 5, 442, 282, 163, 164, 165, 915, 916, 917, 918, 919, 920, 921, 922, 923, 924, 925, 926, 927, 928, 929, 930, 931, 932, 933, 934, 935, 936, 937, 938, 939, 940, 941, 942, 943, 944, 945, 946, 947, 948, 949, 950, 951, 952, 953] (by decide +kernel) (by decide +kernel)
set_option maxRecDepth 20000 in
theorem gL_law_X10_legal : GoodIn wsL_law (wsV RL 43 RX10 yX10_legal wsX10_legal) := goodIn_app (goodIn_of _ (by decide +kernel)) ggL_law_X10_legal
set_option maxRecDepth 20000 in
theorem ggL_law_X9_hour : GoodIn wsL_law wsX9_hour := goodIn_r _ [446, 23, 19, 47, 340, 447, 448, 449, 2, 450, 144, 370, 146, 147, 148, 149, 374, 203, 204, 46, 205, 182, 451, 452, 453, 22, 454, 455, 71, 256, 456, 457, 385, 458, 459, 460, 461, 18, 462, 59, 463, 464, 465, 466, 60, 61, 62, 63, 251, 467, 468, 469, 470, 471, 472, 432, 433, 434, 184, 473, 380, 381, 382, 105, 383, 384, 386, 474, 475, 476, 477, 478, 479, 480, 481, 482, 107, 109, 483, 484, 485, 486, 487, 488, 489, 490, 905, 906, 907, 908, 909, 910, 911, 912, 913, 914, 959, 960, 961, 962, 963, 964, 987, 988, 989, 990, 991, 992, 993, 994, 995, 965, 966, 967] (by decide +kernel) (by decide +kernel)
set_option maxRecDepth 20000 in
theorem gL_law_X9_hour : GoodIn wsL_law (wsV RL 44 RX9 yX9_hour wsX9_hour) := goodIn_app (goodIn_of _ (by decide +kernel)) ggL_law_X9_hour
set_option maxRecDepth 20000 in
theorem ggL_law_X10_hour : GoodIn wsL_law wsX10_hour := goodIn_r _ [494, 121, 495, 496, 497, 5, 498, 499, 160, 323, 392, 162, 163, 164, 165, 500, 501, 502, 503, 281, 130, 504, 505, 506, 507, 324, 508, 509, 510, 511, 117, 119, 118, 397, 398, 399, 400, 115, 915, 916, 917, 918, 919, 920, 921, 922, 923, 924, 925, 926, 927, 928, 929, 930, 931, 932, 933, 934, 935, 936, 937, 938, 939, 940, 941, 942, 943, 944, 945, 946, 947, 948, 949, 950, 951, 952, 953] (by decide +kernel) (by decide +kernel)
set_option maxRecDepth 20000 in
theorem gL_law_X10_hour : GoodIn wsL_law (wsV RL 47 RX10 yX10_hour wsX10_hour) := goodIn_app (goodIn_of _ (by decide +kernel)) ggL_law_X10_hour
set_option maxRecDepth 20000 in
theorem ggL_law_X9_bring : GoodIn wsL_law wsX9_bring := goodIn_r _ [515, 47, 405, 19, 370, 23, 171, 431, 432, 433, 46, 434, 184, 410, 411, 412, 413, 183, 516, 517, 518, 18, 519, 62, 60, 59, 451, 452, 453, 22, 454, 455, 71, 256, 456, 457, 385, 458, 459, 460, 461, 462, 463, 464, 465, 466, 61, 63, 251, 520, 521, 522, 523, 344, 345, 346, 347, 905, 906, 907, 908, 909, 910, 911, 912, 913, 914, 987, 988, 989, 990, 991, 992, 993, 994, 995, 959, 960, 961, 962, 963, 964, 965, 966, 967] (by decide +kernel) (by decide +kernel)
set_option maxRecDepth 20000 in
theorem gL_law_X9_bring : GoodIn wsL_law (wsV RL 48 RX9 yX9_bring wsX9_bring) := goodIn_app (goodIn_of _ (by decide +kernel)) ggL_law_X9_bring
set_option maxRecDepth 20000 in
theorem ggL_law_X10_bring : GoodIn wsL_law wsX10_bring := goodIn_r _ [527, 418, 392, 439, 440, 441, 5, 442, 282, 163, 164, 165, 419, 420, 421, 422, 324, 528, 529, 530, 531, 121, 500, 501, 502, 503, 281, 130, 532, 533, 534, 535, 358, 359, 360, 361, 915, 916, 917, 918, 919, 920, 921, 922, 923, 924, 925, 926, 927, 928, 929, 930, 931, 932, 933, 934, 935, 936, 937, 938, 939, 940, 941, 942, 943, 944, 945, 946, 947, 948, 949, 950, 951, 952, 953] (by decide +kernel) (by decide +kernel)
set_option maxRecDepth 20000 in
theorem gL_law_X10_bring : GoodIn wsL_law (wsV RL 51 RX10 yX10_bring wsX10_bring) := goodIn_app (goodIn_of _ (by decide +kernel)) ggL_law_X10_bring
set_option maxRecDepth 20000 in
theorem ggL_law_X9_drawTo : GoodIn wsL_law wsX9_drawTo := goodIn_r _ [539, 47, 405, 144, 19, 406, 370, 23, 410, 411, 412, 46, 413, 183, 371, 372, 2, 373, 147, 148, 149, 540, 541, 542, 18, 543, 61, 59, 544, 545, 385, 546, 451, 452, 453, 22, 454, 455, 71, 256, 456, 457, 458, 459, 460, 461, 462, 463, 464, 465, 466, 60, 62, 63, 251, 547, 548, 549, 550, 375, 376, 377, 378, 340, 379, 380, 381, 382, 182, 105, 383, 384, 386, 905, 906, 907, 908, 909, 910, 911, 912, 913, 914, 987, 988, 989, 990, 991, 992, 993, 994, 995, 959, 960, 961, 962, 963, 964, 965, 966, 967] (by decide +kernel) (by decide +kernel)
set_option maxRecDepth 20000 in
theorem gL_law_X9_drawTo : GoodIn wsL_law (wsV RL 52 RX9 yX9_drawTo wsX9_drawTo) := goodIn_app (goodIn_of _ (by decide +kernel)) ggL_law_X9_drawTo
set_option maxRecDepth 20000 in
theorem ggL_law_X10_drawTo : GoodIn wsL_law wsX10_drawTo := goodIn_r _ [554, 418, 160, 392, 419, 420, 421, 5, 422, 324, 163, 164, 165, 393, 394, 395, 396, 555, 556, 557, 558, 121, 116, 500, 501, 502, 503, 281, 130, 559, 560, 561, 562, 397, 398, 399, 400, 115, 323, 915, 916, 917, 918, 919, 920, 921, 922, 923, 924, 925, 926, 927, 928, 929, 930, 931, 932, 933, 934, 935, 936, 937, 938, 939, 940, 941, 942, 943, 944, 945, 946, 947, 948, 949, 950, 951, 952, 953] (by decide +kernel) (by decide +kernel)
set_option maxRecDepth 20000 in
theorem gL_law_X10_drawTo : GoodIn wsL_law (wsV RL 55 RX10 yX10_drawTo wsX10_drawTo) := goodIn_app (goodIn_of _ (by decide +kernel)) ggL_law_X10_drawTo
set_option maxRecDepth 20000 in
theorem ggL_law_X9_settle : GoodIn wsL_law wsX9_settle := goodIn_r _ [566, 47, 405, 19, 352, 370, 23, 353, 431, 432, 433, 46, 434, 184, 451, 452, 453, 22, 454, 455, 71, 256, 456, 457, 385, 458, 459, 460, 461, 18, 462, 59, 463, 464, 465, 466, 60, 61, 62, 63, 251, 567, 484, 485, 486, 905, 906, 907, 908, 909, 910, 911, 912, 913, 914, 959, 960, 961, 962, 963, 964, 987, 988, 989, 990, 991, 992, 993, 994, 995, 965, 966, 967] (by decide +kernel) (by decide +kernel)
set_option maxRecDepth 20000 in
theorem gL_law_X9_settle : GoodIn wsL_law (wsV RL 56 RX9 yX9_settle wsX9_settle) := goodIn_app (goodIn_of _ (by decide +kernel)) ggL_law_X9_settle
set_option maxRecDepth 20000 in
theorem ggL_law_X10_settle : GoodIn wsL_law wsX10_settle := goodIn_r _ [571, 418, 121, 392, 324, 120, 439, 440, 441, 5, 442, 282, 163, 164, 165, 500, 501, 502, 503, 281, 130, 915, 916, 917, 918, 919, 920, 921, 922, 923, 924, 925, 926, 927, 928, 929, 930, 931, 932, 933, 934, 935, 936, 937, 938, 939, 940, 941, 942, 943, 944, 945, 946, 947, 948, 949, 950, 951, 952, 953] (by decide +kernel) (by decide +kernel)
set_option maxRecDepth 20000 in
theorem gL_law_X10_settle : GoodIn wsL_law (wsV RL 59 RX10 yX10_settle wsX10_settle) := goodIn_app (goodIn_of _ (by decide +kernel)) ggL_law_X10_settle
set_option maxRecDepth 20000 in
theorem ggL_law_X9_drift : GoodIn wsL_law wsX9_drift := goodIn_r _ [575, 23, 19, 47, 171, 447, 448, 449, 2, 450, 144, 370, 340, 146, 147, 148, 149, 374, 203, 204, 46, 205, 182, 451, 452, 453, 22, 454, 455, 71, 256, 456, 457, 385, 458, 459, 460, 461, 18, 462, 59, 463, 464, 465, 466, 60, 61, 62, 63, 251, 576, 577, 578, 579, 43, 339, 406, 580, 581, 582, 42, 583, 584, 585, 586, 587, 588, 410, 411, 412, 413, 183, 540, 541, 542, 543, 544, 545, 546, 547, 548, 549, 550, 431, 432, 433, 434, 184, 516, 517, 518, 519, 520, 521, 522, 523, 467, 468, 469, 470, 471, 472, 473, 380, 381, 382, 105, 383, 384, 386, 474, 475, 476, 477, 478, 479, 480, 481, 482, 107, 109, 483, 484, 485, 486, 487, 488, 489, 490, 344, 345, 346, 347, 905, 906, 907, 908, 909, 910, 911, 912, 913, 914, 987, 988, 989, 990, 991, 992, 993, 994, 995, 959, 960, 961, 962, 963, 964, 965, 966, 967, 986] (by decide +kernel) (by decide +kernel)
set_option maxRecDepth 20000 in
theorem gL_law_X9_drift : GoodIn wsL_law (wsV RL 60 RX9 yX9_drift wsX9_drift) := goodIn_app (goodIn_of _ (by decide +kernel)) ggL_law_X9_drift
set_option maxRecDepth 20000 in
theorem ggL_law_X10_drift : GoodIn wsL_law wsX10_drift := goodIn_r _ [592, 324, 495, 496, 497, 5, 498, 499, 160, 323, 392, 121, 162, 163, 164, 165, 500, 501, 502, 503, 281, 130, 593, 594, 595, 596, 282, 597, 598, 599, 600, 601, 602, 603, 604, 605, 555, 556, 557, 558, 116, 559, 560, 561, 562, 528, 529, 530, 531, 532, 533, 534, 535, 504, 505, 506, 507, 508, 509, 510, 511, 117, 119, 118, 397, 398, 399, 400, 115, 358, 359, 360, 361, 915, 916, 917, 918, 919, 920, 921, 922, 923, 924, 925, 926, 927, 928, 929, 930, 931, 932, 933, 934, 935, 936, 937, 938, 939, 940, 941, 942, 943, 944, 945, 946, 947, 948, 949, 950, 951, 952, 953] (by decide +kernel) (by decide +kernel)
set_option maxRecDepth 20000 in
theorem gL_law_X10_drift : GoodIn wsL_law (wsV RL 63 RX10 yX10_drift wsX10_drift) := goodIn_app (goodIn_of _ (by decide +kernel)) ggL_law_X10_drift
set_option maxRecDepth 20000 in
theorem ggL_law_X9_undo : GoodIn wsL_law wsX9_undo := goodIn_r _ [609, 23, 343, 370, 19, 610, 611, 612, 22, 613, 256, 71, 455, 614, 615, 616, 18, 617, 59, 463, 464, 465, 466, 60, 61, 62, 63, 251, 905, 906, 907, 908, 909, 910, 911, 912, 913, 914, 965, 966, 967, 959, 960, 961, 962, 963, 964] (by decide +kernel) (by decide +kernel)
set_option maxRecDepth 20000 in
theorem gL_law_X9_undo : GoodIn wsL_law (wsV RL 64 RX9 yX9_undo wsX9_undo) := goodIn_app (goodIn_of _ (by decide +kernel)) ggL_law_X9_undo
set_option maxRecDepth 20000 in
theorem ggL_law_X10_undo : GoodIn wsL_law wsX10_undo := goodIn_r _ [621, 281, 392, 121, 130, 915, 916, 917, 918, 919, 920, 921, 922, 923, 924, 925, 926, 927, 928, 929, 930, 931, 932, 933, 934, 935, 936, 937, 938, 939, 940, 941, 942, 943, 944, 945, 946, 947, 948, 949, 950, 951, 952, 953] (by decide +kernel) (by decide +kernel)
set_option maxRecDepth 20000 in
theorem gL_law_X10_undo : GoodIn wsL_law (wsV RL 67 RX10 yX10_undo wsX10_undo) := goodIn_app (goodIn_of _ (by decide +kernel)) ggL_law_X10_undo
set_option maxRecDepth 20000 in
theorem ggL_law_X9_open : GoodIn wsL_law wsX9_open := goodIn_r _ [625, 47, 405, 19, 340, 431, 432, 433, 46, 434, 184, 626, 627, 628, 629, 630, 631, 632, 633, 634, 457, 385, 458, 383, 384, 386, 635, 380, 381, 382, 182, 105, 636, 488, 489, 490, 107, 637, 480, 481, 482, 109, 905, 906, 907, 908, 909, 910, 911, 912, 913, 914, 959, 960, 961, 962, 963, 964, 987, 988, 989, 990, 991, 992, 993, 994, 995] (by decide +kernel) (by decide +kernel)
set_option maxRecDepth 20000 in
theorem gL_law_X9_open : GoodIn wsL_law (wsV RL 68 RX9 yX9_open wsX9_open) := goodIn_app (goodIn_of _ (by decide +kernel)) ggL_law_X9_open
set_option maxRecDepth 20000 in
theorem ggL_law_X10_open : GoodIn wsL_law wsX10_open := goodIn_r _ [641, 418, 439, 440, 441, 5, 442, 282, 163, 164, 165, 642, 643, 644, 645, 646, 647, 648, 649, 397, 398, 399, 400, 115, 121, 323, 650, 651, 652, 653, 117, 119, 915, 916, 917, 918, 919, 920, 921, 922, 923, 924, 925, 926, 927, 928, 929, 930, 931, 932, 933, 934, 935, 936, 937, 938, 939, 940, 941, 942, 943, 944, 945, 946, 947, 948, 949, 950, 951, 952, 953] (by decide +kernel) (by decide +kernel)
set_option maxRecDepth 20000 in
theorem gL_law_X10_open : GoodIn wsL_law (wsV RL 71 RX10 yX10_open wsX10_open) := goodIn_app (goodIn_of _ (by decide +kernel)) ggL_law_X10_open
set_option maxRecDepth 20000 in
theorem ggL_law_X9_plan : GoodIn wsL_law wsX9_plan := goodIn_r _ [657, 47, 405, 144, 31, 19, 431, 432, 433, 46, 434, 184, 147, 148, 2, 149, 658, 659, 660, 30, 661, 662, 663, 88, 87, 85, 86, 82, 664, 665, 666, 667, 384, 385, 386, 668, 65, 66, 67, 669, 670, 627, 628, 629, 630, 631, 632, 633, 634, 457, 458, 383, 635, 380, 381, 382, 182, 105, 636, 488, 489, 490, 107, 637, 480, 481, 482, 109, 671, 672, 673, 674, 83, 84, 675, 676, 677, 678, 679, 680, 681, 682, 683, 684, 685, 686, 687, 464, 465, 466, 688, 689, 690, 691, 692, 693, 694, 695, 696, 697, 698, 699, 700, 701, 702, 703, 704, 705, 706, 707, 905, 906, 907, 908, 909, 910, 911, 912, 913, 914, 987, 988, 989, 990, 991, 992, 993, 994, 995, 971, 972, 973, 974, 975, 976, 977, 978, 979, 959, 960, 961, 962, 963, 964] (by decide +kernel) (by decide +kernel)
set_option maxRecDepth 20000 in
theorem gL_law_X9_plan : GoodIn wsL_law (wsV RL 72 RX9 yX9_plan wsX9_plan) := goodIn_app (goodIn_of _ (by decide +kernel)) ggL_law_X9_plan
