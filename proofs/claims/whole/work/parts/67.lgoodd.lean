/-! GoodIn rows of the law -/
set_option maxRecDepth 20000 in
theorem ggL_law_X3_copy : GoodIn wsL_law wsX3_copy := goodIn_r _ [804, 69, 26, 773, 805, 174, 746, 747, 25, 748, 75, 76, 77, 2, 78, 28, 72, 73, 74, 774, 775, 776, 777, 49, 806, 807, 808, 809, 50, 810, 811, 812, 813, 52, 814, 414, 415, 416, 905, 906, 907, 908, 909, 910, 911, 946, 947, 948] rfl (by decide +kernel)
set_option maxRecDepth 20000 in
theorem gL_law_X3_copy : GoodIn wsL_law (wsV RL 137 RX3 yX3_copy wsX3_copy) := goodIn_app (goodIn_of _ (by decide +kernel)) ggL_law_X3_copy
set_option maxRecDepth 20000 in
theorem ggL_law_X4_copy : GoodIn wsL_law wsX4_copy := goodIn_r _ [818, 64, 819, 820, 821, 5, 822, 88, 62, 797, 183, 63, 761, 762, 763, 90, 91, 92, 93, 94, 95, 96, 60, 912, 913, 914, 915, 916, 917, 918, 919, 920, 921, 922, 923, 924, 925, 926, 927] rfl (by decide +kernel)
set_option maxRecDepth 20000 in
theorem gL_law_X4_copy : GoodIn wsL_law (wsV RL 141 RX4 yX4_copy wsX4_copy) := goodIn_app (goodIn_of _ (by decide +kernel)) ggL_law_X4_copy
set_option maxRecDepth 20000 in
theorem ggL_law_X3_lays : GoodIn wsL_law wsX3_lays := goodIn_r _ [826, 26, 768, 16, 188, 827, 290, 769, 770, 771, 2, 772, 69, 773, 746, 747, 25, 748, 774, 775, 776, 777, 49, 75, 76, 77, 78, 28, 72, 73, 74, 778, 779, 780, 781, 52, 905, 906, 907, 908, 909, 910, 911, 946, 947, 948, 928, 929, 930, 931, 932, 933, 934, 935, 936, 937, 938, 939] rfl (by decide +kernel)
set_option maxRecDepth 20000 in
theorem gL_law_X3_lays : GoodIn wsL_law (wsV RL 142 RX3 yX3_lays wsX3_lays) := goodIn_app (goodIn_of _ (by decide +kernel)) ggL_law_X3_lays
set_option maxRecDepth 20000 in
theorem ggL_law_X4_lays : GoodIn wsL_law wsX4_lays := goodIn_r _ [831, 63, 57, 64, 793, 794, 795, 5, 796, 88, 62, 797, 761, 762, 763, 90, 91, 92, 93, 94, 95, 96, 60, 912, 913, 914, 915, 916, 917, 918, 919, 920, 921, 922, 923, 924, 925, 926, 927] rfl (by decide +kernel)
set_option maxRecDepth 20000 in
theorem gL_law_X4_lays : GoodIn wsL_law (wsV RL 145 RX4 yX4_lays wsX4_lays) := goodIn_app (goodIn_of _ (by decide +kernel)) ggL_law_X4_lays
set_option maxRecDepth 20000 in
theorem ggL_law_X3_book : GoodIn wsL_law wsX3_book := goodIn_r _ [835, 16, 69, 26, 768, 18, 175, 769, 770, 771, 2, 772, 773, 746, 747, 25, 748, 774, 775, 776, 777, 49, 75, 76, 77, 78, 28, 72, 73, 74, 109, 110, 111, 15, 112, 83, 405, 406, 407, 408, 409, 410, 411, 412, 117, 33, 413, 414, 415, 416, 34, 35, 36, 37, 198, 38, 39, 40, 41, 325, 326, 327, 328, 329, 330, 331, 332, 333, 334, 335, 336, 235, 220, 221, 222, 223, 224, 225, 226, 227, 228, 229, 230, 236, 237, 238, 239, 240, 241, 242, 337, 338, 339, 340, 145, 341, 114, 115, 116, 342, 343, 344, 345, 782, 783, 784, 785, 52, 786, 787, 788, 445, 905, 906, 907, 908, 909, 910, 911, 946, 947, 948, 928, 929, 930, 931, 932, 933, 934, 935, 936, 937, 938, 939] rfl (by decide +kernel)
set_option maxRecDepth 20000 in
theorem gL_law_X3_book : GoodIn wsL_law (wsV RL 146 RX3 yX3_book wsX3_book) := goodIn_app (goodIn_of _ (by decide +kernel)) ggL_law_X3_book
set_option maxRecDepth 20000 in
theorem ggL_law_X4_book : GoodIn wsL_law wsX4_book := goodIn_r _ [839, 88, 63, 64, 62, 793, 794, 795, 5, 796, 797, 761, 762, 763, 90, 91, 92, 126, 127, 128, 129, 57, 93, 94, 95, 96, 60, 421, 422, 423, 424, 59, 425, 426, 427, 130, 131, 132, 133, 798, 799, 800, 362, 363, 364, 365, 366, 367, 368, 369, 370, 156, 259, 260, 261, 262, 255, 256, 257, 258, 263, 264, 265, 266, 267, 268, 269, 270, 271, 272, 273, 274, 275, 276, 277, 101, 102, 103, 104, 134, 135, 136, 137, 428, 429, 430, 431, 912, 913, 914, 915, 916, 917, 918, 919, 920, 921, 922, 923, 924, 925, 926, 927] rfl (by decide +kernel)
set_option maxRecDepth 20000 in
theorem gL_law_X4_book : GoodIn wsL_law (wsV RL 149 RX4 yX4_book wsX4_book) := goodIn_app (goodIn_of _ (by decide +kernel)) ggL_law_X4_book
set_option maxRecDepth 20000 in
theorem ggL_law_X3_read : GoodIn wsL_law wsX3_read := goodIn_r _ [843, 16, 69, 18, 165, 290, 769, 770, 771, 2, 772, 26, 773, 746, 747, 25, 748, 774, 775, 776, 777, 49, 75, 76, 77, 78, 28, 72, 73, 74, 109, 110, 111, 15, 112, 83, 215, 216, 217, 218, 198, 405, 406, 407, 408, 409, 410, 411, 412, 117, 33, 413, 414, 415, 416, 34, 35, 36, 37, 38, 39, 40, 41, 325, 326, 327, 328, 329, 330, 331, 332, 333, 334, 335, 336, 235, 220, 221, 222, 223, 224, 225, 226, 227, 228, 229, 230, 236, 237, 238, 239, 240, 241, 242, 337, 338, 339, 340, 145, 341, 114, 115, 116, 342, 343, 344, 345, 844, 845, 846, 847, 768, 175, 778, 779, 780, 781, 52, 445, 905, 906, 907, 908, 909, 910, 911, 928, 929, 930, 931, 932, 933, 934, 935, 936, 937, 938, 939, 946, 947, 948] rfl (by decide +kernel)
set_option maxRecDepth 20000 in
theorem gL_law_X3_read : GoodIn wsL_law (wsV RL 150 RX3 yX3_read wsX3_read) := goodIn_app (goodIn_of _ (by decide +kernel)) ggL_law_X3_read
set_option maxRecDepth 20000 in
theorem ggL_law_X4_read : GoodIn wsL_law wsX4_read := goodIn_r _ [851, 88, 57, 793, 794, 795, 5, 796, 62, 797, 761, 762, 763, 90, 91, 92, 126, 127, 128, 129, 251, 252, 253, 254, 93, 94, 95, 96, 60, 421, 422, 423, 424, 59, 425, 426, 427, 101, 102, 103, 104, 852, 853, 854, 855, 63, 64, 130, 131, 132, 133, 362, 363, 364, 365, 366, 367, 368, 369, 370, 156, 259, 260, 261, 262, 255, 256, 257, 258, 263, 264, 265, 266, 267, 268, 269, 270, 271, 272, 273, 274, 275, 276, 277, 134, 135, 136, 137, 428, 429, 430, 431, 912, 913, 914, 915, 916, 917, 918, 919, 920, 921, 922, 923, 924, 925, 926, 927] rfl (by decide +kernel)
set_option maxRecDepth 20000 in
theorem gL_law_X4_read : GoodIn wsL_law (wsV RL 153 RX4 yX4_read wsX4_read) := goodIn_app (goodIn_of _ (by decide +kernel)) ggL_law_X4_read
set_option maxRecDepth 20000 in
theorem ggL_law_X3_image : GoodIn wsL_law wsX3_image := goodIn_r _ [859, 17, 16, 29, 409, 410, 411, 15, 412, 117, 83, 33, 413, 414, 415, 416, 34, 35, 36, 37, 198, 38, 39, 40, 41, 905, 906, 907, 908, 909, 910, 911, 928, 929, 930, 931, 932, 933, 934, 935, 936, 937, 938, 939] rfl (by decide +kernel)
set_option maxRecDepth 20000 in
theorem gL_law_X3_image : GoodIn wsL_law (wsV RL 154 RX3 yX3_image wsX3_image) := goodIn_app (goodIn_of _ (by decide +kernel)) ggL_law_X3_image
set_option maxRecDepth 20000 in
theorem ggL_law_X4_image : GoodIn wsL_law wsX4_image := goodIn_r _ [863, 57, 58, 864, 425, 426, 5, 427, 912, 913, 914, 915, 916, 917, 918, 919, 920, 921, 922, 923, 924, 925, 926, 927] rfl (by decide +kernel)
set_option maxRecDepth 20000 in
theorem gL_law_X4_image : GoodIn wsL_law (wsV RL 157 RX4 yX4_image wsX4_image) := goodIn_app (goodIn_of _ (by decide +kernel)) ggL_law_X4_image
set_option maxRecDepth 20000 in
theorem ggL_law_X3_undo : GoodIn wsL_law wsX3_undo := goodIn_r _ [868, 29, 444, 16, 17, 70, 75, 76, 77, 2, 78, 69, 28, 72, 73, 74, 409, 410, 411, 15, 412, 117, 83, 33, 413, 414, 415, 416, 34, 35, 36, 37, 198, 38, 39, 40, 41, 905, 906, 907, 908, 909, 910, 911, 928, 929, 930, 931, 932, 933, 934, 935, 936, 937, 938, 939] rfl (by decide +kernel)
set_option maxRecDepth 20000 in
theorem gL_law_X3_undo : GoodIn wsL_law (wsV RL 158 RX3 yX3_undo wsX3_undo) := goodIn_app (goodIn_of _ (by decide +kernel)) ggL_law_X3_undo
set_option maxRecDepth 20000 in
theorem ggL_law_X4_undo : GoodIn wsL_law wsX4_undo := goodIn_r _ [872, 864, 450, 58, 57, 93, 94, 95, 5, 96, 60, 88, 425, 426, 427, 912, 913, 914, 915, 916, 917, 918, 919, 920, 921, 922, 923, 924, 925, 926, 927] rfl (by decide +kernel)
set_option maxRecDepth 20000 in
theorem gL_law_X4_undo : GoodIn wsL_law (wsV RL 161 RX4 yX4_undo wsX4_undo) := goodIn_app (goodIn_of _ (by decide +kernel)) ggL_law_X4_undo
set_option maxRecDepth 20000 in
theorem ggL_law_X3_tear : GoodIn wsL_law wsX3_tear := goodIn_r _ [876, 29, 905, 906, 907, 908, 909, 910, 911] rfl (by decide +kernel)
set_option maxRecDepth 20000 in
theorem gL_law_X3_tear : GoodIn wsL_law (wsV RL 162 RX3 yX3_tear wsX3_tear) := goodIn_app (goodIn_of _ (by decide +kernel)) ggL_law_X3_tear
set_option maxRecDepth 20000 in
theorem ggL_law_X4_tear : GoodIn wsL_law wsX4_tear := goodIn_r _ [880, 864, 912, 913, 914, 915, 916, 917, 918, 919, 920, 921, 922, 923, 924, 925, 926, 927] rfl (by decide +kernel)
set_option maxRecDepth 20000 in
theorem gL_law_X4_tear : GoodIn wsL_law (wsV RL 165 RX4 yX4_tear wsX4_tear) := goodIn_app (goodIn_of _ (by decide +kernel)) ggL_law_X4_tear
set_option maxRecDepth 20000 in
theorem ggL_law_X3_count : GoodIn wsL_law wsX3_count := goodIn_r _ [884, 16, 70, 188, 22, 547, 69, 885, 886, 887, 15, 888, 37, 83, 350, 351, 352, 75, 76, 77, 2, 78, 28, 72, 73, 74, 905, 906, 907, 908, 909, 910, 911, 928, 929, 930, 931, 932, 933, 934, 935, 936, 937, 938, 939, 940, 941, 942, 943, 944, 945] rfl (by decide +kernel)
set_option maxRecDepth 20000 in
theorem gL_law_X3_count : GoodIn wsL_law (wsV RL 166 RX3 yX3_count wsX3_count) := goodIn_app (goodIn_of _ (by decide +kernel)) ggL_law_X3_count
set_option maxRecDepth 20000 in
theorem ggL_law_X4_count : GoodIn wsL_law wsX4_count := goodIn_r _ [892, 57, 557, 88, 893, 894, 895, 5, 896, 130, 131, 132, 133, 93, 94, 95, 96, 60, 912, 913, 914, 915, 916, 917, 918, 919, 920, 921, 922, 923, 924, 925, 926, 927] rfl (by decide +kernel)
set_option maxRecDepth 20000 in
theorem gL_law_X4_count : GoodIn wsL_law (wsV RL 169 RX4 yX4_count wsX4_count) := goodIn_app (goodIn_of _ (by decide +kernel)) ggL_law_X4_count
set_option maxRecDepth 20000 in
theorem ggL_law_X3_status : GoodIn wsL_law wsX3_status := goodIn_r _ [900, 69, 28, 72, 73, 2, 74, 75, 76, 77, 78, 905, 906, 907, 908, 909, 910, 911] rfl (by decide +kernel)
set_option maxRecDepth 20000 in
theorem gL_law_X3_status : GoodIn wsL_law (wsV RL 170 RX3 yX3_status wsX3_status) := goodIn_app (goodIn_of _ (by decide +kernel)) ggL_law_X3_status
set_option maxRecDepth 20000 in
theorem ggL_law_X4_status : GoodIn wsL_law wsX4_status := goodIn_r _ [904, 88, 60, 90, 91, 5, 92, 93, 94, 95, 96, 912, 913, 914, 915, 916, 917, 918, 919, 920, 921, 922, 923, 924, 925, 926, 927] rfl (by decide +kernel)
set_option maxRecDepth 20000 in
theorem gL_law_X4_status : GoodIn wsL_law (wsV RL 173 RX4 yX4_status wsX4_status) := goodIn_app (goodIn_of _ (by decide +kernel)) ggL_law_X4_status
