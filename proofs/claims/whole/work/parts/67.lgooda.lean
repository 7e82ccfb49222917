/-! GoodIn rows of the law -/
set_option maxRecDepth 20000 in
theorem ggL_law_X3_init : GoodIn wsL_law wsX3_init := goodIn_r _ [9, 10, 11, 12, 13, 14, 15, 16, 17, 18, 19, 20, 21, 22, 23, 24, 25, 26, 27, 28, 29, 30, 31, 32, 33, 34, 35, 36, 37, 38, 39, 40, 41, 42, 43, 44, 45, 46, 47, 48, 49, 50, 51, 52, 928, 929, 930, 931, 932, 933, 934, 935, 936, 937, 938, 939, 905, 906, 907, 908, 909, 910, 911, 940, 941, 942, 943, 944, 945, 946, 947, 948] rfl (by decide +kernel)
set_option maxRecDepth 20000 in
theorem gL_law_X3_init : GoodIn wsL_law (wsX3_init) := ggL_law_X3_init
set_option maxRecDepth 20000 in
theorem ggL_law_X4_init : GoodIn wsL_law wsX4_init := goodIn_r _ [55, 56, 11, 12, 27, 57, 58, 59, 60, 61, 62, 63, 51, 64, 912, 913, 914, 915, 916, 917, 918, 919, 920, 921, 922, 923, 924, 925, 926, 927] rfl (by decide +kernel)
set_option maxRecDepth 20000 in
theorem gL_law_X4_init : GoodIn wsL_law (wsX4_init) := ggL_law_X4_init
set_option maxRecDepth 20000 in
theorem ggL_law_X3_delegate : GoodIn wsL_law wsX3_delegate := goodIn_r _ [68, 69, 16, 70, 71, 72, 73, 2, 74, 75, 76, 77, 78, 28, 79, 80, 81, 15, 82, 83, 33, 34, 35, 36, 37, 905, 906, 907, 908, 909, 910, 911, 928, 929, 930, 931, 932, 933, 934, 935, 936, 937, 938, 939] rfl (by decide +kernel)
set_option maxRecDepth 20000 in
theorem gL_law_X3_delegate : GoodIn wsL_law (wsV RL 13 RX3 yX3_delegate wsX3_delegate) := goodIn_app (goodIn_of _ (by decide +kernel)) ggL_law_X3_delegate
set_option maxRecDepth 20000 in
theorem ggL_law_X4_delegate : GoodIn wsL_law wsX4_delegate := goodIn_r _ [87, 88, 57, 89, 90, 91, 5, 92, 93, 94, 95, 96, 60, 97, 98, 99, 100, 101, 102, 103, 104, 912, 913, 914, 915, 916, 917, 918, 919, 920, 921, 922, 923, 924, 925, 926, 927] rfl (by decide +kernel)
set_option maxRecDepth 20000 in
theorem gL_law_X4_delegate : GoodIn wsL_law (wsV RL 17 RX4 yX4_delegate wsX4_delegate) := goodIn_app (goodIn_of _ (by decide +kernel)) ggL_law_X4_delegate
set_option maxRecDepth 20000 in
theorem ggL_law_X3_of : GoodIn wsL_law wsX3_of := goodIn_r _ [108, 16, 69, 109, 110, 111, 15, 112, 83, 72, 73, 2, 74, 75, 76, 77, 78, 28, 113, 114, 115, 116, 33, 36, 34, 117, 118, 119, 120, 121, 35, 37, 905, 906, 907, 908, 909, 910, 911, 928, 929, 930, 931, 932, 933, 934, 935, 936, 937, 938, 939] rfl (by decide +kernel)
set_option maxRecDepth 20000 in
theorem gL_law_X3_of : GoodIn wsL_law (wsV RL 18 RX3 yX3_of wsX3_of) := goodIn_app (goodIn_of _ (by decide +kernel)) ggL_law_X3_of
set_option maxRecDepth 20000 in
theorem ggL_law_X4_of : GoodIn wsL_law wsX4_of := goodIn_r _ [125, 88, 126, 127, 128, 5, 129, 57, 90, 91, 92, 93, 94, 95, 96, 60, 130, 131, 132, 133, 134, 135, 136, 137, 912, 913, 914, 915, 916, 917, 918, 919, 920, 921, 922, 923, 924, 925, 926, 927] rfl (by decide +kernel)
set_option maxRecDepth 20000 in
theorem gL_law_X4_of : GoodIn wsL_law (wsV RL 22 RX4 yX4_of wsX4_of) := goodIn_app (goodIn_of _ (by decide +kernel)) ggL_law_X4_of
set_option maxRecDepth 20000 in
theorem ggL_law_X3_set : GoodIn wsL_law wsX3_set := goodIn_r _ [141, 16, 69, 109, 110, 111, 15, 112, 83, 142, 143, 144, 145, 72, 73, 2, 74, 75, 76, 77, 78, 28, 118, 119, 120, 121, 33, 34, 35, 36, 37, 146, 147, 148, 905, 906, 907, 908, 909, 910, 911, 928, 929, 930, 931, 932, 933, 934, 935, 936, 937, 938, 939] rfl (by decide +kernel)
set_option maxRecDepth 20000 in
theorem gL_law_X3_set : GoodIn wsL_law (wsV RL 23 RX3 yX3_set wsX3_set) := goodIn_app (goodIn_of _ (by decide +kernel)) ggL_law_X3_set
set_option maxRecDepth 20000 in
theorem ggL_law_X4_set : GoodIn wsL_law wsX4_set := goodIn_r _ [152, 88, 126, 127, 128, 5, 129, 57, 90, 91, 92, 153, 154, 155, 156, 157, 158, 159, 160, 93, 94, 95, 96, 60, 912, 913, 914, 915, 916, 917, 918, 919, 920, 921, 922, 923, 924, 925, 926, 927] rfl (by decide +kernel)
set_option maxRecDepth 20000 in
theorem gL_law_X4_set : GoodIn wsL_law (wsV RL 27 RX4 yX4_set wsX4_set) := goodIn_app (goodIn_of _ (by decide +kernel)) ggL_law_X4_set
set_option maxRecDepth 20000 in
theorem ggL_law_X3_turn : GoodIn wsL_law wsX3_turn := goodIn_r _ [164, 16, 69, 165, 109, 110, 111, 15, 112, 83, 72, 73, 2, 74, 75, 76, 77, 78, 28, 146, 147, 148, 905, 906, 907, 908, 909, 910, 911, 928, 929, 930, 931, 932, 933, 934, 935, 936, 937, 938, 939] rfl (by decide +kernel)
set_option maxRecDepth 20000 in
theorem gL_law_X3_turn : GoodIn wsL_law (wsV RL 28 RX3 yX3_turn wsX3_turn) := goodIn_app (goodIn_of _ (by decide +kernel)) ggL_law_X3_turn
set_option maxRecDepth 20000 in
theorem ggL_law_X4_turn : GoodIn wsL_law wsX4_turn := goodIn_r _ [169, 88, 126, 127, 128, 5, 129, 57, 90, 91, 92, 157, 158, 159, 160, 93, 94, 95, 96, 60, 912, 913, 914, 915, 916, 917, 918, 919, 920, 921, 922, 923, 924, 925, 926, 927] rfl (by decide +kernel)
set_option maxRecDepth 20000 in
theorem gL_law_X4_turn : GoodIn wsL_law (wsV RL 31 RX4 yX4_turn wsX4_turn) := goodIn_app (goodIn_of _ (by decide +kernel)) ggL_law_X4_turn
set_option maxRecDepth 20000 in
theorem ggL_law_X3_as : GoodIn wsL_law wsX3_as := goodIn_r _ [173, 16, 69, 165, 174, 175, 109, 110, 111, 15, 112, 83, 72, 73, 2, 74, 75, 76, 77, 78, 28, 176, 177, 178, 905, 906, 907, 908, 909, 910, 911, 928, 929, 930, 931, 932, 933, 934, 935, 936, 937, 938, 939] rfl (by decide +kernel)
set_option maxRecDepth 20000 in
theorem gL_law_X3_as : GoodIn wsL_law (wsV RL 32 RX3 yX3_as wsX3_as) := goodIn_app (goodIn_of _ (by decide +kernel)) ggL_law_X3_as
set_option maxRecDepth 20000 in
theorem ggL_law_X4_as : GoodIn wsL_law wsX4_as := goodIn_r _ [182, 88, 183, 126, 127, 128, 5, 129, 57, 90, 91, 92, 93, 94, 95, 96, 60, 130, 131, 132, 133, 912, 913, 914, 915, 916, 917, 918, 919, 920, 921, 922, 923, 924, 925, 926, 927] rfl (by decide +kernel)
set_option maxRecDepth 20000 in
theorem gL_law_X4_as : GoodIn wsL_law (wsV RL 35 RX4 yX4_as wsX4_as) := goodIn_app (goodIn_of _ (by decide +kernel)) ggL_law_X4_as
set_option maxRecDepth 20000 in
theorem ggL_law_X3_speech : GoodIn wsL_law wsX3_speech := goodIn_r _ [187, 16, 69, 188, 71, 189, 190, 191, 15, 192, 193, 110, 111, 112, 83, 75, 76, 77, 2, 78, 28, 72, 73, 74, 194, 195, 196, 197, 198, 38, 39, 40, 41, 905, 906, 907, 908, 909, 910, 911, 928, 929, 930, 931, 932, 933, 934, 935, 936, 937, 938, 939] rfl (by decide +kernel)
set_option maxRecDepth 20000 in
theorem gL_law_X3_speech : GoodIn wsL_law (wsV RL 36 RX3 yX3_speech wsX3_speech) := goodIn_app (goodIn_of _ (by decide +kernel)) ggL_law_X3_speech
set_option maxRecDepth 20000 in
theorem ggL_law_X4_speech : GoodIn wsL_law wsX4_speech := goodIn_r _ [202, 88, 57, 89, 203, 204, 205, 5, 206, 126, 127, 128, 129, 90, 91, 92, 93, 94, 95, 96, 60, 207, 208, 209, 210, 912, 913, 914, 915, 916, 917, 918, 919, 920, 921, 922, 923, 924, 925, 926, 927] rfl (by decide +kernel)
set_option maxRecDepth 20000 in
theorem gL_law_X4_speech : GoodIn wsL_law (wsV RL 40 RX4 yX4_speech wsX4_speech) := goodIn_app (goodIn_of _ (by decide +kernel)) ggL_law_X4_speech
set_option maxRecDepth 20000 in
theorem ggL_law_X3_speechOf : GoodIn wsL_law wsX3_speechOf := goodIn_r _ [214, 16, 69, 215, 216, 217, 15, 218, 198, 72, 73, 2, 74, 75, 76, 77, 78, 28, 219, 220, 221, 222, 83, 38, 35, 39, 41, 223, 224, 225, 226, 40, 33, 34, 227, 228, 229, 230, 231, 232, 233, 234, 235, 236, 237, 238, 239, 240, 241, 242, 243, 244, 245, 246, 905, 906, 907, 908, 909, 910, 911, 928, 929, 930, 931, 932, 933, 934, 935, 936, 937, 938, 939] rfl (by decide +kernel)
set_option maxRecDepth 20000 in
theorem gL_law_X3_speechOf : GoodIn wsL_law (wsV RL 41 RX3 yX3_speechOf wsX3_speechOf) := goodIn_app (goodIn_of _ (by decide +kernel)) ggL_law_X3_speechOf
set_option maxRecDepth 20000 in
theorem ggL_law_X4_speechOf : GoodIn wsL_law wsX4_speechOf := goodIn_r _ [250, 88, 251, 252, 253, 5, 254, 57, 90, 91, 92, 93, 94, 95, 96, 60, 255, 256, 257, 258, 259, 260, 261, 262, 130, 131, 132, 133, 263, 264, 265, 266, 267, 268, 269, 270, 271, 272, 273, 274, 275, 276, 277, 912, 913, 914, 915, 916, 917, 918, 919, 920, 921, 922, 923, 924, 925, 926, 927] rfl (by decide +kernel)
set_option maxRecDepth 20000 in
theorem gL_law_X4_speechOf : GoodIn wsL_law (wsV RL 44 RX4 yX4_speechOf wsX4_speechOf) := goodIn_app (goodIn_of _ (by decide +kernel)) ggL_law_X4_speechOf
set_option maxRecDepth 20000 in
theorem ggL_law_X3_tell : GoodIn wsL_law wsX3_tell := goodIn_r _ [281, 16, 69, 215, 216, 217, 15, 218, 198, 189, 190, 191, 192, 193, 110, 111, 112, 83, 75, 76, 77, 2, 78, 28, 72, 73, 74, 243, 244, 245, 246, 38, 39, 40, 41, 146, 147, 148, 905, 906, 907, 908, 909, 910, 911, 928, 929, 930, 931, 932, 933, 934, 935, 936, 937, 938, 939] rfl (by decide +kernel)
set_option maxRecDepth 20000 in
theorem gL_law_X3_tell : GoodIn wsL_law (wsV RL 45 RX3 yX3_tell wsX3_tell) := goodIn_app (goodIn_of _ (by decide +kernel)) ggL_law_X3_tell
set_option maxRecDepth 20000 in
theorem ggL_law_X4_tell : GoodIn wsL_law wsX4_tell := goodIn_r _ [285, 88, 251, 252, 253, 5, 254, 57, 90, 91, 92, 203, 204, 205, 206, 126, 127, 128, 129, 157, 158, 159, 160, 93, 94, 95, 96, 60, 912, 913, 914, 915, 916, 917, 918, 919, 920, 921, 922, 923, 924, 925, 926, 927] rfl (by decide +kernel)
set_option maxRecDepth 20000 in
theorem gL_law_X4_tell : GoodIn wsL_law (wsV RL 48 RX4 yX4_tell wsX4_tell) := goodIn_app (goodIn_of _ (by decide +kernel)) ggL_law_X4_tell
set_option maxRecDepth 20000 in
theorem ggL_law_X3_loses : GoodIn wsL_law wsX3_loses := goodIn_r _ [289, 16, 69, 290, 109, 110, 111, 15, 112, 83, 215, 216, 217, 218, 198, 75, 76, 77, 2, 78, 28, 72, 73, 74, 291, 224, 225, 226, 38, 40, 39, 33, 34, 227, 228, 229, 230, 905, 906, 907, 908, 909, 910, 911, 928, 929, 930, 931, 932, 933, 934, 935, 936, 937, 938, 939] rfl (by decide +kernel)
set_option maxRecDepth 20000 in
theorem gL_law_X3_loses : GoodIn wsL_law (wsV RL 49 RX3 yX3_loses wsX3_loses) := goodIn_app (goodIn_of _ (by decide +kernel)) ggL_law_X3_loses
set_option maxRecDepth 20000 in
theorem ggL_law_X4_loses : GoodIn wsL_law wsX4_loses := goodIn_r _ [295, 88, 126, 127, 128, 5, 129, 57, 90, 91, 92, 251, 252, 253, 254, 255, 256, 257, 258, 263, 264, 265, 266, 130, 131, 132, 133, 93, 94, 95, 96, 60, 912, 913, 914, 915, 916, 917, 918, 919, 920, 921, 922, 923, 924, 925, 926, 927] rfl (by decide +kernel)
set_option maxRecDepth 20000 in
theorem gL_law_X4_loses : GoodIn wsL_law (wsV RL 52 RX4 yX4_loses wsX4_loses) := goodIn_app (goodIn_of _ (by decide +kernel)) ggL_law_X4_loses
