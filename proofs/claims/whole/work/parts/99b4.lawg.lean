/-! the words of the law: calls -/
set_option maxRecDepth 20000 in
theorem ggL_law_X8_likely : GoodIn wsL_law wsX8_likely := goodIn_r _ [770, 192, 193, 194, 5, 195, 161, 162, 163, 164, 165, 166, 167, 168, 278, 279, 280, 281, 568, 569, 570, 571, 539, 540, 541, 542, 131, 106, 410, 411, 412, 413, 211, 105, 547, 548, 549, 895, 896, 897, 898, 899, 900, 901, 902, 903, 904, 905, 906, 907, 908, 909, 910, 911, 912, 913, 914, 915, 916, 917, 918, 919, 920, 921, 922, 923, 924, 925, 926, 927, 928, 929, 930, 931, 932, 933, 934, 935, 936, 937, 938, 939, 940] (by decide +kernel) (by decide +kernel)
set_option maxRecDepth 20000 in
theorem gL_law_X8_likely : GoodIn wsL_law (wsV RL 120 RX8 yX8_likely wsX8_likely) := goodIn_app (goodIn_of _ (by decide +kernel)) ggL_law_X8_likely
set_option maxRecDepth 20000 in
theorem ggL_law_X7_seen : GoodIn wsL_law wsX7_seen := goodIn_r _ [774, 15, 775, 505, 506, 507, 2, 508, 180, 181, 182, 14, 183, 46, 61, 62, 139, 140, 141, 776, 777, 778, 779, 57, 54, 55, 56, 64, 65, 885, 886, 887, 888, 889, 890, 891, 892, 893, 894, 941, 942, 943, 944, 945, 946, 947, 948, 949, 950, 951, 952, 953] (by decide +kernel) (by decide +kernel)
set_option maxRecDepth 20000 in
theorem gL_law_X7_seen : GoodIn wsL_law (wsV RL 121 RX7 yX7_seen wsX7_seen) := goodIn_app (goodIn_of _ (by decide +kernel)) ggL_law_X7_seen
set_option maxRecDepth 20000 in
theorem ggL_law_X8_seen : GoodIn wsL_law wsX8_seen := goodIn_r _ [783, 784, 112, 113, 114, 192, 193, 194, 5, 195, 161, 162, 163, 164, 165, 166, 167, 168, 278, 279, 280, 281, 895, 896, 897, 898, 899, 900, 901, 902, 903, 904, 905, 906, 907, 908, 909, 910, 911, 912, 913, 914, 915, 916, 917, 918, 919, 920, 921, 922, 923, 924, 925, 926, 927, 928, 929, 930, 931, 932, 933, 934, 935, 936, 937, 938, 939, 940] (by decide +kernel) (by decide +kernel)
set_option maxRecDepth 20000 in
theorem gL_law_X8_seen : GoodIn wsL_law (wsV RL 124 RX8 yX8_seen wsX8_seen) := goodIn_app (goodIn_of _ (by decide +kernel)) ggL_law_X8_seen
set_option maxRecDepth 20000 in
theorem ggL_law_X7_forget : GoodIn wsL_law wsX7_forget := goodIn_r _ [788, 15, 775, 885, 886, 887, 888, 889, 890, 891, 892, 893, 894, 941, 942, 943, 944, 945, 946, 947, 948, 949, 950, 951, 952, 953] (by decide +kernel) (by decide +kernel)
set_option maxRecDepth 20000 in
theorem gL_law_X7_forget : GoodIn wsL_law (wsV RL 125 RX7 yX7_forget wsX7_forget) := goodIn_app (goodIn_of _ (by decide +kernel)) ggL_law_X7_forget
set_option maxRecDepth 20000 in
theorem ggL_law_X8_forget : GoodIn wsL_law wsX8_forget := goodIn_r _ [792, 784, 895, 896, 897, 898, 899, 900, 901, 902, 903, 904, 905, 906, 907, 908, 909, 910, 911, 912, 913, 914, 915, 916, 917, 918, 919, 920, 921, 922, 923, 924, 925, 926, 927, 928, 929, 930, 931, 932, 933, 934, 935, 936, 937, 938, 939, 940] (by decide +kernel) (by decide +kernel)
set_option maxRecDepth 20000 in
theorem gL_law_X8_forget : GoodIn wsL_law (wsV RL 128 RX8 yX8_forget wsX8_forget) := goodIn_app (goodIn_of _ (by decide +kernel)) ggL_law_X8_forget
set_option maxRecDepth 20000 in
theorem ggL_law_X7_prides : GoodIn wsL_law wsX7_prides := goodIn_r _ [796, 15, 180, 181, 182, 14, 183, 46, 61, 2, 62, 139, 140, 141, 797, 798, 799, 800, 57, 56, 54, 55, 584, 555, 556, 557, 558, 524, 525, 526, 45, 48, 359, 344, 345, 346, 47, 327, 328, 325, 329, 323, 324, 326, 559, 528, 529, 885, 886, 887, 888, 889, 890, 891, 892, 893, 894, 941, 942, 943, 944, 945, 946, 947, 948, 949, 950, 951, 952, 953] (by decide +kernel) (by decide +kernel)
set_option maxRecDepth 20000 in
theorem gL_law_X7_prides : GoodIn wsL_law (wsV RL 129 RX7 yX7_prides wsX7_prides) := goodIn_app (goodIn_of _ (by decide +kernel)) ggL_law_X7_prides
set_option maxRecDepth 20000 in
theorem ggL_law_X8_prides : GoodIn wsL_law wsX8_prides := goodIn_r _ [804, 430, 192, 193, 194, 5, 195, 161, 162, 163, 164, 165, 166, 167, 168, 805, 806, 807, 808, 784, 112, 113, 114, 568, 569, 570, 571, 539, 540, 541, 542, 131, 106, 410, 411, 412, 413, 211, 105, 547, 548, 549, 895, 896, 897, 898, 899, 900, 901, 902, 903, 904, 905, 906, 907, 908, 909, 910, 911, 912, 913, 914, 915, 916, 917, 918, 919, 920, 921, 922, 923, 924, 925, 926, 927, 928, 929, 930, 931, 932, 933, 934, 935, 936, 937, 938, 939, 940] (by decide +kernel) (by decide +kernel)
set_option maxRecDepth 20000 in
theorem gL_law_X8_prides : GoodIn wsL_law (wsV RL 132 RX8 yX8_prides wsX8_prides) := goodIn_app (goodIn_of _ (by decide +kernel)) ggL_law_X8_prides
set_option maxRecDepth 20000 in
theorem ggL_law_X7_year : GoodIn wsL_law wsX7_year := goodIn_r _ [812, 201, 39, 15, 813, 814, 815, 60, 61, 2, 62, 139, 140, 141, 816, 817, 818, 38, 819, 99, 820, 821, 822, 823, 312, 313, 14, 314, 45, 46, 47, 48, 49, 50, 51, 52, 53, 54, 55, 56, 57, 58, 59, 63, 64, 65, 356, 357, 358, 824, 825, 826, 827, 828, 829, 328, 325, 329, 830, 204, 205, 206, 831, 335, 336, 337, 338, 181, 182, 183, 832, 520, 521, 522, 833, 555, 556, 557, 558, 524, 525, 526, 359, 344, 345, 346, 327, 323, 324, 326, 559, 528, 529, 834, 361, 362, 363, 835, 353, 354, 355, 836, 320, 321, 322, 885, 886, 887, 888, 889, 890, 891, 892, 893, 894, 972, 973, 974, 975, 941, 942, 943, 944, 945, 946, 947, 948, 949, 950, 951, 952, 953] (by decide +kernel) (by decide +kernel)
set_option maxRecDepth 20000 in
theorem gL_law_X7_year : GoodIn wsL_law (wsV RL 133 RX7 yX7_year wsX7_year) := goodIn_app (goodIn_of _ (by decide +kernel)) ggL_law_X7_year
set_option maxRecDepth 20000 in
theorem ggL_law_X8_year : GoodIn wsL_law wsX8_year := goodIn_r _ [840, 217, 215, 430, 407, 408, 409, 109, 129, 110, 166, 167, 5, 168, 375, 376, 377, 378, 120, 121, 122, 111, 134, 379, 391, 392, 393, 394, 192, 193, 194, 195, 161, 162, 163, 164, 165, 564, 565, 566, 567, 107, 568, 569, 570, 571, 539, 540, 541, 542, 131, 106, 410, 411, 412, 413, 211, 105, 547, 548, 549, 399, 400, 401, 402, 133, 388, 389, 390, 403, 404, 405, 406, 384, 385, 386, 387, 132, 414, 415, 416, 417, 895, 896, 897, 898, 899, 900, 901, 902, 903, 904, 905, 906, 907, 908, 909, 910, 911, 912, 913, 914, 915, 916, 917, 918, 919, 920, 921, 922, 923, 924, 925, 926, 927, 928, 929, 930, 931, 932, 933, 934, 935, 936, 937, 938, 939, 940] (by decide +kernel) (by decide +kernel)
set_option maxRecDepth 20000 in
theorem gL_law_X8_year : GoodIn wsL_law (wsV RL 136 RX8 yX8_year wsX8_year) := goodIn_app (goodIn_of _ (by decide +kernel)) ggL_law_X8_year
set_option maxRecDepth 20000 in
theorem ggL_law_X7_image : GoodIn wsL_law wsX7_image := goodIn_r _ [844, 16, 15, 18, 17, 19, 139, 140, 2, 141, 448, 312, 313, 14, 314, 45, 46, 47, 48, 49, 50, 51, 52, 53, 54, 55, 56, 57, 58, 59, 60, 61, 62, 63, 64, 65, 885, 886, 887, 888, 889, 890, 891, 892, 893, 894, 941, 942, 943, 944, 945, 946, 947, 948, 949, 950, 951, 952, 953] (by decide +kernel) (by decide +kernel)
set_option maxRecDepth 20000 in
theorem gL_law_X7_image : GoodIn wsL_law (wsV RL 137 RX7 yX7_image wsX7_image) := goodIn_app (goodIn_of _ (by decide +kernel)) ggL_law_X7_image
set_option maxRecDepth 20000 in
theorem ggL_law_X8_image : GoodIn wsL_law wsX8_image := goodIn_r _ [848, 849, 850, 128, 166, 167, 5, 168, 851, 852, 853, 854, 161, 129, 130, 131, 132, 133, 211, 134, 784, 105, 106, 107, 108, 109, 110, 111, 112, 113, 114, 855, 856, 857, 858, 126, 895, 896, 897, 898, 899, 900, 901, 902, 903, 904, 905, 906, 907, 908, 909, 910, 911, 912, 913, 914, 915, 916, 917, 918, 919, 920, 921, 922, 923, 924, 925, 926, 927, 928, 929, 930, 931, 932, 933, 934, 935, 936, 937, 938, 939, 940] (by decide +kernel) (by decide +kernel)
set_option maxRecDepth 20000 in
theorem gL_law_X8_image : GoodIn wsL_law (wsV RL 140 RX8 yX8_image wsX8_image) := goodIn_app (goodIn_of _ (by decide +kernel)) ggL_law_X8_image
set_option maxRecDepth 20000 in
theorem ggL_law_X7_restore : GoodIn wsL_law wsX7_restore := goodIn_r _ [862, 18, 19, 15, 16, 17, 139, 140, 2, 141, 448, 312, 313, 14, 314, 45, 46, 47, 48, 49, 50, 51, 52, 53, 54, 55, 56, 57, 58, 59, 60, 61, 62, 63, 64, 65, 885, 886, 887, 888, 889, 890, 891, 892, 893, 894, 941, 942, 943, 944, 945, 946, 947, 948, 949, 950, 951, 952, 953] (by decide +kernel) (by decide +kernel)
set_option maxRecDepth 20000 in
theorem gL_law_X7_restore : GoodIn wsL_law (wsV RL 141 RX7 yX7_restore wsX7_restore) := goodIn_app (goodIn_of _ (by decide +kernel)) ggL_law_X7_restore
set_option maxRecDepth 20000 in
theorem ggL_law_X8_restore : GoodIn wsL_law wsX8_restore := goodIn_r _ [866, 128, 849, 850, 166, 167, 5, 168, 851, 852, 853, 854, 161, 129, 130, 131, 132, 133, 211, 134, 784, 105, 106, 107, 108, 109, 110, 111, 112, 113, 114, 855, 856, 857, 858, 126, 895, 896, 897, 898, 899, 900, 901, 902, 903, 904, 905, 906, 907, 908, 909, 910, 911, 912, 913, 914, 915, 916, 917, 918, 919, 920, 921, 922, 923, 924, 925, 926, 927, 928, 929, 930, 931, 932, 933, 934, 935, 936, 937, 938, 939, 940] (by decide +kernel) (by decide +kernel)
set_option maxRecDepth 20000 in
theorem gL_law_X8_restore : GoodIn wsL_law (wsV RL 144 RX8 yX8_restore wsX8_restore) := goodIn_app (goodIn_of _ (by decide +kernel)) ggL_law_X8_restore
set_option maxRecDepth 20000 in
theorem ggL_law_X7_told : GoodIn wsL_law wsX7_told := goodIn_r _ [870, 23, 226, 15, 775, 146, 147, 148, 14, 149, 46, 61, 2, 62, 139, 140, 141, 203, 204, 205, 206, 45, 871, 872, 873, 874, 875, 876, 877, 878, 180, 181, 182, 183, 60, 885, 886, 887, 888, 889, 890, 891, 892, 893, 894, 954, 955, 941, 942, 943, 944, 945, 946, 947, 948, 949, 950, 951, 952, 953] (by decide +kernel) (by decide +kernel)
set_option maxRecDepth 20000 in
theorem gL_law_X7_told : GoodIn wsL_law (wsV RL 145 RX7 yX7_told wsX7_told) := goodIn_app (goodIn_of _ (by decide +kernel)) ggL_law_X7_told
set_option maxRecDepth 20000 in
theorem ggL_law_X8_told : GoodIn wsL_law wsX8_told := goodIn_r _ [882, 497, 883, 105, 106, 107, 108, 430, 884, 237, 161, 784, 166, 167, 5, 168, 192, 193, 194, 195, 162, 163, 164, 165, 218, 219, 220, 221, 129, 130, 131, 132, 133, 211, 134, 895, 896, 897, 898, 899, 900, 901, 902, 903, 904, 905, 906, 907, 908, 909, 910, 911, 912, 913, 914, 915, 916, 917, 918, 919, 920, 921, 922, 923, 924, 925, 926, 927, 928, 929, 930, 931, 932, 933, 934, 935, 936, 937, 938, 939, 940] (by decide +kernel) (by decide +kernel)
set_option maxRecDepth 20000 in
theorem gL_law_X8_told : GoodIn wsL_law (wsV RL 148 RX8 yX8_told wsX8_told) := goodIn_app (goodIn_of _ (by decide +kernel)) ggL_law_X8_told
