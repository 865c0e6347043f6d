/-! the words of the law: calls -/
set_option maxRecDepth 20000 in
theorem ggL_law_X7_climb : GoodIn wsL_law wsX7_climb := goodIn_r _ [592, 31, 15, 593, 594, 595, 596, 597, 598, 2, 599, 180, 181, 182, 14, 183, 46, 61, 62, 139, 140, 141, 600, 601, 602, 30, 603, 91, 604, 605, 606, 607, 324, 325, 326, 608, 316, 317, 79, 318, 85, 86, 609, 204, 205, 206, 45, 610, 520, 521, 522, 49, 611, 555, 556, 557, 558, 524, 525, 526, 48, 359, 344, 345, 346, 47, 327, 328, 329, 323, 559, 528, 529, 612, 613, 348, 349, 350, 351, 885, 886, 887, 888, 889, 890, 891, 892, 893, 894, 965, 966, 967, 968, 941, 942, 943, 944, 945, 946, 947, 948, 949, 950, 951, 952, 953, 976, 977] (by decide +kernel) (by decide +kernel)
set_option maxRecDepth 20000 in
theorem gL_law_X7_climb : GoodIn wsL_law (wsV RL 83 RX7 yX7_climb wsX7_climb) := goodIn_app (goodIn_of _ (by decide +kernel)) ggL_law_X7_climb
set_option maxRecDepth 20000 in
theorem ggL_law_X8_climb : GoodIn wsL_law wsX8_climb := goodIn_r _ [617, 430, 618, 619, 620, 621, 622, 623, 5, 624, 192, 193, 194, 195, 161, 162, 163, 164, 165, 166, 167, 168, 625, 626, 627, 278, 279, 280, 281, 628, 629, 630, 631, 632, 129, 564, 565, 566, 567, 107, 568, 569, 570, 571, 539, 540, 541, 542, 131, 106, 410, 411, 412, 413, 211, 105, 547, 548, 549, 895, 896, 897, 898, 899, 900, 901, 902, 903, 904, 905, 906, 907, 908, 909, 910, 911, 912, 913, 914, 915, 916, 917, 918, 919, 920, 921, 922, 923, 924, 925, 926, 927, 928, 929, 930, 931, 932, 933, 934, 935, 936, 937, 938, 939, 940] (by decide +kernel) (by decide +kernel)
set_option maxRecDepth 20000 in
theorem gL_law_X8_climb : GoodIn wsL_law (wsV RL 87 RX8 yX8_climb wsX8_climb) := goodIn_app (goodIn_of _ (by decide +kernel)) ggL_law_X8_climb
set_option maxRecDepth 20000 in
theorem ggL_law_X7_safe : GoodIn wsL_law wsX7_safe := goodIn_r _ [636, 479, 478, 31, 15, 637, 596, 597, 598, 2, 599, 180, 181, 182, 14, 183, 46, 61, 62, 139, 140, 141, 600, 601, 602, 30, 603, 91, 604, 605, 606, 607, 324, 325, 326, 608, 316, 317, 79, 318, 85, 86, 609, 204, 205, 206, 45, 610, 520, 521, 522, 49, 611, 555, 556, 557, 558, 524, 525, 526, 48, 359, 344, 345, 346, 47, 327, 328, 329, 323, 559, 528, 529, 612, 613, 348, 349, 350, 351, 483, 484, 485, 486, 885, 886, 887, 888, 889, 890, 891, 892, 893, 894, 965, 966, 967, 968, 941, 942, 943, 944, 945, 946, 947, 948, 949, 950, 951, 952, 953, 976, 977] (by decide +kernel) (by decide +kernel)
set_option maxRecDepth 20000 in
theorem gL_law_X7_safe : GoodIn wsL_law (wsV RL 88 RX7 yX7_safe wsX7_safe) := goodIn_app (goodIn_of _ (by decide +kernel)) ggL_law_X7_safe
set_option maxRecDepth 20000 in
theorem ggL_law_X8_safe : GoodIn wsL_law wsX8_safe := goodIn_r _ [641, 642, 491, 632, 618, 621, 622, 623, 5, 624, 192, 193, 194, 195, 161, 162, 163, 164, 165, 166, 167, 168, 625, 626, 627, 278, 279, 280, 281, 628, 629, 630, 631, 619, 620, 129, 564, 565, 566, 567, 107, 568, 569, 570, 571, 539, 540, 541, 542, 131, 106, 410, 411, 412, 413, 211, 105, 547, 548, 549, 494, 495, 496, 497, 498, 499, 500, 895, 896, 897, 898, 899, 900, 901, 902, 903, 904, 905, 906, 907, 908, 909, 910, 911, 912, 913, 914, 915, 916, 917, 918, 919, 920, 921, 922, 923, 924, 925, 926, 927, 928, 929, 930, 931, 932, 933, 934, 935, 936, 937, 938, 939, 940] (by decide +kernel) (by decide +kernel)
set_option maxRecDepth 20000 in
theorem gL_law_X8_safe : GoodIn wsL_law (wsV RL 92 RX8 yX8_safe wsX8_safe) := goodIn_app (goodIn_of _ (by decide +kernel)) ggL_law_X8_safe
set_option maxRecDepth 20000 in
theorem ggL_law_X7_law : GoodIn wsL_law wsX7_law := goodIn_r _ [646, 31, 15, 637, 596, 597, 598, 2, 599, 180, 181, 182, 14, 183, 46, 61, 62, 139, 140, 141, 600, 601, 602, 30, 603, 91, 604, 605, 606, 607, 324, 325, 326, 608, 316, 317, 79, 318, 85, 86, 609, 204, 205, 206, 45, 610, 520, 521, 522, 49, 611, 555, 556, 557, 558, 524, 525, 526, 48, 359, 344, 345, 346, 47, 327, 328, 329, 323, 559, 528, 529, 612, 613, 348, 349, 350, 351, 647, 648, 649, 650, 885, 886, 887, 888, 889, 890, 891, 892, 893, 894, 965, 966, 967, 968, 941, 942, 943, 944, 945, 946, 947, 948, 949, 950, 951, 952, 953, 976, 977] (by decide +kernel) (by decide +kernel)
set_option maxRecDepth 20000 in
theorem gL_law_X7_law : GoodIn wsL_law (wsV RL 93 RX7 yX7_law wsX7_law) := goodIn_app (goodIn_of _ (by decide +kernel)) ggL_law_X7_law
set_option maxRecDepth 20000 in
theorem ggL_law_X8_law : GoodIn wsL_law wsX8_law := goodIn_r _ [654, 655, 632, 618, 621, 622, 623, 5, 624, 192, 193, 194, 195, 161, 162, 163, 164, 165, 166, 167, 168, 278, 279, 280, 281, 628, 629, 630, 631, 619, 620, 129, 564, 565, 566, 567, 107, 568, 569, 570, 571, 539, 540, 541, 542, 131, 106, 410, 411, 412, 413, 211, 105, 547, 548, 549, 494, 495, 496, 497, 895, 896, 897, 898, 899, 900, 901, 902, 903, 904, 905, 906, 907, 908, 909, 910, 911, 912, 913, 914, 915, 916, 917, 918, 919, 920, 921, 922, 923, 924, 925, 926, 927, 928, 929, 930, 931, 932, 933, 934, 935, 936, 937, 938, 939, 940] (by decide +kernel) (by decide +kernel)
set_option maxRecDepth 20000 in
theorem gL_law_X8_law : GoodIn wsL_law (wsV RL 96 RX8 yX8_law wsX8_law) := goodIn_app (goodIn_of _ (by decide +kernel)) ggL_law_X8_law
set_option maxRecDepth 20000 in
theorem ggL_law_X7_game : GoodIn wsL_law wsX7_game := goodIn_r _ [659, 35, 15, 660, 518, 661, 662, 596, 597, 598, 2, 599, 180, 181, 182, 14, 183, 46, 61, 62, 139, 140, 141, 663, 664, 665, 34, 666, 667, 668, 669, 670, 324, 325, 326, 671, 204, 205, 206, 45, 672, 673, 674, 675, 676, 520, 521, 522, 49, 677, 524, 525, 526, 48, 359, 344, 345, 346, 47, 327, 328, 329, 323, 678, 528, 529, 679, 680, 681, 682, 885, 886, 887, 888, 889, 890, 891, 892, 893, 894, 969, 970, 971, 941, 942, 943, 944, 945, 946, 947, 948, 949, 950, 951, 952, 953] (by decide +kernel) (by decide +kernel)
set_option maxRecDepth 20000 in
theorem gL_law_X7_game : GoodIn wsL_law (wsV RL 97 RX7 yX7_game wsX7_game) := goodIn_app (goodIn_of _ (by decide +kernel)) ggL_law_X7_game
set_option maxRecDepth 20000 in
theorem ggL_law_X8_game : GoodIn wsL_law wsX8_game := goodIn_r _ [686, 430, 123, 534, 124, 125, 621, 622, 623, 5, 624, 192, 193, 194, 195, 161, 162, 163, 164, 165, 166, 167, 168, 625, 626, 627, 278, 279, 280, 281, 687, 688, 689, 690, 129, 691, 692, 693, 694, 107, 535, 536, 537, 538, 539, 540, 541, 542, 131, 106, 410, 411, 412, 413, 211, 105, 543, 544, 545, 546, 547, 548, 549, 895, 896, 897, 898, 899, 900, 901, 902, 903, 904, 905, 906, 907, 908, 909, 910, 911, 912, 913, 914, 915, 916, 917, 918, 919, 920, 921, 922, 923, 924, 925, 926, 927, 928, 929, 930, 931, 932, 933, 934, 935, 936, 937, 938, 939, 940] (by decide +kernel) (by decide +kernel)
set_option maxRecDepth 20000 in
theorem gL_law_X8_game : GoodIn wsL_law (wsV RL 100 RX8 yX8_game wsX8_game) := goodIn_app (goodIn_of _ (by decide +kernel)) ggL_law_X8_game
set_option maxRecDepth 20000 in
theorem ggL_law_X7_enough : GoodIn wsL_law wsX7_enough := goodIn_r _ [698, 15, 180, 181, 182, 14, 183, 46, 61, 2, 62, 699, 700, 701, 702, 703, 704, 705, 706, 50, 49, 707, 151, 152, 153, 154, 155, 156, 338, 885, 886, 887, 888, 889, 890, 891, 892, 893, 894, 941, 942, 943, 944, 945, 946, 947, 948, 949, 950, 951, 952, 953] (by decide +kernel) (by decide +kernel)
set_option maxRecDepth 20000 in
theorem gL_law_X7_enough : GoodIn wsL_law (wsV RL 101 RX7 yX7_enough wsX7_enough) := goodIn_app (goodIn_of _ (by decide +kernel)) ggL_law_X7_enough
set_option maxRecDepth 20000 in
theorem ggL_law_X8_enough : GoodIn wsL_law wsX8_enough := goodIn_r _ [711, 192, 193, 194, 5, 195, 161, 162, 163, 164, 165, 166, 167, 168, 712, 713, 714, 715, 108, 107, 173, 174, 175, 895, 896, 897, 898, 899, 900, 901, 902, 903, 904, 905, 906, 907, 908, 909, 910, 911, 912, 913, 914, 915, 916, 917, 918, 919, 920, 921, 922, 923, 924, 925, 926, 927, 928, 929, 930, 931, 932, 933, 934, 935, 936, 937, 938, 939, 940] (by decide +kernel) (by decide +kernel)
set_option maxRecDepth 20000 in
theorem gL_law_X8_enough : GoodIn wsL_law (wsV RL 104 RX8 yX8_enough wsX8_enough) := goodIn_app (goodIn_of _ (by decide +kernel)) ggL_law_X8_enough
set_option maxRecDepth 20000 in
theorem ggL_law_X7_holds : GoodIn wsL_law wsX7_holds := goodIn_r _ [719, 15, 180, 181, 182, 14, 183, 46, 61, 2, 62, 699, 700, 701, 702, 703, 704, 705, 706, 50, 49, 707, 151, 152, 153, 154, 155, 156, 338, 720, 721, 722, 723, 724, 147, 148, 149, 885, 886, 887, 888, 889, 890, 891, 892, 893, 894, 941, 942, 943, 944, 945, 946, 947, 948, 949, 950, 951, 952, 953] (by decide +kernel) (by decide +kernel)
set_option maxRecDepth 20000 in
theorem gL_law_X7_holds : GoodIn wsL_law (wsV RL 105 RX7 yX7_holds wsX7_holds) := goodIn_app (goodIn_of _ (by decide +kernel)) ggL_law_X7_holds
set_option maxRecDepth 20000 in
theorem ggL_law_X8_holds : GoodIn wsL_law wsX8_holds := goodIn_r _ [728, 192, 193, 194, 5, 195, 161, 162, 163, 164, 165, 166, 167, 168, 712, 713, 714, 715, 108, 107, 173, 174, 175, 729, 730, 731, 732, 895, 896, 897, 898, 899, 900, 901, 902, 903, 904, 905, 906, 907, 908, 909, 910, 911, 912, 913, 914, 915, 916, 917, 918, 919, 920, 921, 922, 923, 924, 925, 926, 927, 928, 929, 930, 931, 932, 933, 934, 935, 936, 937, 938, 939, 940] (by decide +kernel) (by decide +kernel)
set_option maxRecDepth 20000 in
theorem gL_law_X8_holds : GoodIn wsL_law (wsV RL 108 RX8 yX8_holds wsX8_holds) := goodIn_app (goodIn_of _ (by decide +kernel)) ggL_law_X8_holds
set_option maxRecDepth 20000 in
theorem ggL_law_X7_won : GoodIn wsL_law wsX7_won := goodIn_r _ [736, 15, 139, 140, 2, 141, 737, 738, 739, 14, 740, 50, 338, 181, 182, 183, 46, 61, 62, 707, 151, 152, 153, 154, 155, 156, 741, 700, 701, 702, 703, 704, 705, 706, 49, 742, 721, 722, 723, 724, 147, 148, 149, 150, 885, 886, 887, 888, 889, 890, 891, 892, 893, 894, 941, 942, 943, 944, 945, 946, 947, 948, 949, 950, 951, 952, 953] (by decide +kernel) (by decide +kernel)
set_option maxRecDepth 20000 in
theorem gL_law_X7_won : GoodIn wsL_law (wsV RL 109 RX7 yX7_won wsX7_won) := goodIn_app (goodIn_of _ (by decide +kernel)) ggL_law_X7_won
set_option maxRecDepth 20000 in
theorem ggL_law_X8_won : GoodIn wsL_law wsX8_won := goodIn_r _ [746, 166, 167, 5, 168, 747, 748, 749, 750, 108, 192, 193, 194, 195, 161, 162, 163, 164, 165, 173, 174, 175, 712, 713, 714, 715, 107, 729, 730, 731, 732, 895, 896, 897, 898, 899, 900, 901, 902, 903, 904, 905, 906, 907, 908, 909, 910, 911, 912, 913, 914, 915, 916, 917, 918, 919, 920, 921, 922, 923, 924, 925, 926, 927, 928, 929, 930, 931, 932, 933, 934, 935, 936, 937, 938, 939, 940] (by decide +kernel) (by decide +kernel)
set_option maxRecDepth 20000 in
theorem gL_law_X8_won : GoodIn wsL_law (wsV RL 112 RX8 yX8_won wsX8_won) := goodIn_app (goodIn_of _ (by decide +kernel)) ggL_law_X8_won
set_option maxRecDepth 20000 in
theorem ggL_law_X7_refuser : GoodIn wsL_law wsX7_refuser := goodIn_r _ [754, 15, 505, 506, 507, 2, 508, 180, 181, 182, 14, 183, 46, 61, 62, 139, 140, 141, 755, 756, 757, 758, 53, 51, 49, 338, 584, 555, 556, 557, 558, 524, 525, 526, 45, 48, 359, 344, 345, 346, 47, 327, 328, 325, 329, 323, 324, 326, 559, 528, 529, 885, 886, 887, 888, 889, 890, 891, 892, 893, 894, 941, 942, 943, 944, 945, 946, 947, 948, 949, 950, 951, 952, 953] (by decide +kernel) (by decide +kernel)
set_option maxRecDepth 20000 in
theorem gL_law_X7_refuser : GoodIn wsL_law (wsV RL 113 RX7 yX7_refuser wsX7_refuser) := goodIn_app (goodIn_of _ (by decide +kernel)) ggL_law_X7_refuser
set_option maxRecDepth 20000 in
theorem ggL_law_X8_refuser : GoodIn wsL_law wsX8_refuser := goodIn_r _ [762, 111, 109, 192, 193, 194, 5, 195, 161, 162, 163, 164, 165, 166, 167, 168, 278, 279, 280, 281, 564, 565, 566, 567, 107, 568, 569, 570, 571, 539, 540, 541, 542, 131, 106, 410, 411, 412, 413, 211, 105, 547, 548, 549, 895, 896, 897, 898, 899, 900, 901, 902, 903, 904, 905, 906, 907, 908, 909, 910, 911, 912, 913, 914, 915, 916, 917, 918, 919, 920, 921, 922, 923, 924, 925, 926, 927, 928, 929, 930, 931, 932, 933, 934, 935, 936, 937, 938, 939, 940] (by decide +kernel) (by decide +kernel)
set_option maxRecDepth 20000 in
theorem gL_law_X8_refuser : GoodIn wsL_law (wsV RL 116 RX8 yX8_refuser wsX8_refuser) := goodIn_app (goodIn_of _ (by decide +kernel)) ggL_law_X8_refuser
set_option maxRecDepth 20000 in
theorem ggL_law_X7_likely : GoodIn wsL_law wsX7_likely := goodIn_r _ [766, 15, 505, 506, 507, 2, 508, 180, 181, 182, 14, 183, 46, 61, 62, 139, 140, 141, 554, 555, 556, 557, 558, 524, 525, 526, 45, 48, 359, 344, 345, 346, 47, 327, 328, 325, 329, 323, 324, 326, 559, 528, 529, 885, 886, 887, 888, 889, 890, 891, 892, 893, 894, 941, 942, 943, 944, 945, 946, 947, 948, 949, 950, 951, 952, 953] (by decide +kernel) (by decide +kernel)
set_option maxRecDepth 20000 in
theorem gL_law_X7_likely : GoodIn wsL_law (wsV RL 117 RX7 yX7_likely wsX7_likely) := goodIn_app (goodIn_of _ (by decide +kernel)) ggL_law_X7_likely
