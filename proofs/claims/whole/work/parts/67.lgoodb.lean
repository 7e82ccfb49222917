/-! GoodIn rows of the law -/
set_option maxRecDepth 20000 in
theorem ggL_law_X3_renders : GoodIn wsL_law wsX3_renders := goodIn_r _ [299, 16, 69, 290, 109, 110, 111, 15, 112, 83, 215, 216, 217, 218, 198, 75, 76, 77, 2, 78, 28, 72, 73, 74, 300, 237, 238, 239, 34, 227, 228, 229, 230, 33, 240, 241, 242, 905, 906, 907, 908, 909, 910, 911, 928, 929, 930, 931, 932, 933, 934, 935, 936, 937, 938, 939] rfl (by decide +kernel)
set_option maxRecDepth 20000 in
theorem gL_law_X3_renders : GoodIn wsL_law (wsV RL 53 RX3 yX3_renders wsX3_renders) := goodIn_app (goodIn_of _ (by decide +kernel)) ggL_law_X3_renders
set_option maxRecDepth 20000 in
theorem ggL_law_X4_renders : GoodIn wsL_law wsX4_renders := goodIn_r _ [304, 88, 126, 127, 128, 5, 129, 57, 90, 91, 92, 251, 252, 253, 254, 255, 256, 257, 258, 271, 272, 273, 274, 130, 131, 132, 133, 275, 276, 277, 93, 94, 95, 96, 60, 912, 913, 914, 915, 916, 917, 918, 919, 920, 921, 922, 923, 924, 925, 926, 927] rfl (by decide +kernel)
set_option maxRecDepth 20000 in
theorem gL_law_X4_renders : GoodIn wsL_law (wsV RL 56 RX4 yX4_renders wsX4_renders) := goodIn_app (goodIn_of _ (by decide +kernel)) ggL_law_X4_renders
set_option maxRecDepth 20000 in
theorem ggL_law_X3_hurts : GoodIn wsL_law wsX3_hurts := goodIn_r _ [308, 16, 69, 215, 216, 217, 15, 218, 198, 75, 76, 77, 2, 78, 28, 72, 73, 74, 309, 310, 311, 312, 83, 313, 232, 233, 234, 41, 235, 220, 221, 222, 38, 35, 39, 223, 224, 225, 226, 40, 33, 34, 227, 228, 229, 230, 236, 237, 238, 239, 240, 241, 242, 905, 906, 907, 908, 909, 910, 911, 928, 929, 930, 931, 932, 933, 934, 935, 936, 937, 938, 939] rfl (by decide +kernel)
set_option maxRecDepth 20000 in
theorem gL_law_X3_hurts : GoodIn wsL_law (wsV RL 57 RX3 yX3_hurts wsX3_hurts) := goodIn_app (goodIn_of _ (by decide +kernel)) ggL_law_X3_hurts
set_option maxRecDepth 20000 in
theorem ggL_law_X4_hurts : GoodIn wsL_law wsX4_hurts := goodIn_r _ [317, 88, 57, 251, 252, 253, 5, 254, 90, 91, 92, 93, 94, 95, 96, 60, 267, 268, 269, 270, 259, 260, 261, 262, 130, 131, 132, 133, 255, 256, 257, 258, 263, 264, 265, 266, 271, 272, 273, 274, 275, 276, 277, 912, 913, 914, 915, 916, 917, 918, 919, 920, 921, 922, 923, 924, 925, 926, 927] rfl (by decide +kernel)
set_option maxRecDepth 20000 in
theorem gL_law_X4_hurts : GoodIn wsL_law (wsV RL 60 RX4 yX4_hurts wsX4_hurts) := goodIn_app (goodIn_of _ (by decide +kernel)) ggL_law_X4_hurts
set_option maxRecDepth 20000 in
theorem ggL_law_X3_sessions : GoodIn wsL_law wsX3_sessions := goodIn_r _ [321, 69, 16, 322, 323, 324, 72, 73, 2, 74, 75, 76, 77, 78, 28, 325, 326, 327, 15, 328, 329, 330, 331, 332, 41, 117, 333, 334, 335, 336, 198, 235, 220, 221, 222, 83, 38, 35, 39, 223, 224, 225, 226, 40, 33, 34, 227, 228, 229, 230, 236, 237, 238, 239, 240, 241, 242, 337, 338, 339, 340, 36, 145, 341, 114, 115, 116, 342, 343, 344, 345, 37, 346, 347, 348, 349, 350, 351, 352, 905, 906, 907, 908, 909, 910, 911, 928, 929, 930, 931, 932, 933, 934, 935, 936, 937, 938, 939] rfl (by decide +kernel)
set_option maxRecDepth 20000 in
theorem gL_law_X3_sessions : GoodIn wsL_law (wsV RL 61 RX3 yX3_sessions wsX3_sessions) := goodIn_app (goodIn_of _ (by decide +kernel)) ggL_law_X3_sessions
set_option maxRecDepth 20000 in
theorem ggL_law_X4_sessions : GoodIn wsL_law wsX4_sessions := goodIn_r _ [356, 88, 57, 156, 357, 90, 91, 5, 92, 93, 94, 95, 96, 60, 358, 359, 360, 361, 362, 363, 364, 365, 366, 367, 368, 369, 370, 259, 260, 261, 262, 130, 131, 132, 133, 255, 256, 257, 258, 263, 264, 265, 266, 267, 268, 269, 270, 271, 272, 273, 274, 275, 276, 277, 101, 102, 103, 104, 134, 135, 136, 137, 371, 372, 373, 374, 912, 913, 914, 915, 916, 917, 918, 919, 920, 921, 922, 923, 924, 925, 926, 927] rfl (by decide +kernel)
set_option maxRecDepth 20000 in
theorem gL_law_X4_sessions : GoodIn wsL_law (wsV RL 64 RX4 yX4_sessions wsX4_sessions) := goodIn_app (goodIn_of _ (by decide +kernel)) ggL_law_X4_sessions
set_option maxRecDepth 20000 in
theorem ggL_law_X3_now : GoodIn wsL_law wsX3_now := goodIn_r _ [378, 16, 322, 69, 379, 334, 335, 15, 336, 198, 117, 346, 347, 348, 349, 36, 83, 350, 351, 352, 380, 381, 382, 383, 41, 384, 385, 386, 387, 235, 220, 221, 222, 38, 35, 39, 223, 224, 225, 226, 40, 33, 34, 227, 228, 229, 230, 75, 76, 77, 2, 78, 28, 72, 73, 74, 905, 906, 907, 908, 909, 910, 911, 928, 929, 930, 931, 932, 933, 934, 935, 936, 937, 938, 939] rfl (by decide +kernel)
set_option maxRecDepth 20000 in
theorem gL_law_X3_now : GoodIn wsL_law (wsV RL 65 RX3 yX3_now wsX3_now) := goodIn_app (goodIn_of _ (by decide +kernel)) ggL_law_X3_now
set_option maxRecDepth 20000 in
theorem ggL_law_X4_now : GoodIn wsL_law wsX4_now := goodIn_r _ [391, 57, 88, 371, 372, 373, 5, 374, 130, 131, 132, 133, 392, 393, 394, 395, 255, 256, 257, 258, 396, 397, 398, 399, 259, 260, 261, 262, 263, 264, 265, 266, 93, 94, 95, 96, 60, 912, 913, 914, 915, 916, 917, 918, 919, 920, 921, 922, 923, 924, 925, 926, 927] rfl (by decide +kernel)
set_option maxRecDepth 20000 in
theorem gL_law_X4_now : GoodIn wsL_law (wsV RL 68 RX4 yX4_now wsX4_now) := goodIn_app (goodIn_of _ (by decide +kernel)) ggL_law_X4_now
set_option maxRecDepth 20000 in
theorem ggL_law_X3_on : GoodIn wsL_law wsX3_on := goodIn_r _ [403, 16, 69, 18, 175, 404, 109, 110, 111, 15, 112, 83, 72, 73, 2, 74, 75, 76, 77, 78, 28, 405, 406, 407, 408, 409, 410, 411, 412, 117, 33, 413, 414, 415, 416, 34, 35, 36, 37, 198, 38, 39, 40, 41, 325, 326, 327, 328, 329, 330, 331, 332, 333, 334, 335, 336, 235, 220, 221, 222, 223, 224, 225, 226, 227, 228, 229, 230, 236, 237, 238, 239, 240, 241, 242, 337, 338, 339, 340, 145, 341, 114, 115, 116, 342, 343, 344, 345, 905, 906, 907, 908, 909, 910, 911, 928, 929, 930, 931, 932, 933, 934, 935, 936, 937, 938, 939] rfl (by decide +kernel)
set_option maxRecDepth 20000 in
theorem gL_law_X3_on : GoodIn wsL_law (wsV RL 69 RX3 yX3_on wsX3_on) := goodIn_app (goodIn_of _ (by decide +kernel)) ggL_law_X3_on
set_option maxRecDepth 20000 in
theorem ggL_law_X4_on : GoodIn wsL_law wsX4_on := goodIn_r _ [420, 88, 126, 127, 128, 5, 129, 57, 90, 91, 92, 93, 94, 95, 96, 60, 421, 422, 423, 424, 59, 425, 426, 427, 358, 359, 360, 361, 362, 363, 364, 365, 366, 367, 368, 369, 370, 156, 259, 260, 261, 262, 130, 131, 132, 133, 255, 256, 257, 258, 263, 264, 265, 266, 267, 268, 269, 270, 271, 272, 273, 274, 275, 276, 277, 101, 102, 103, 104, 134, 135, 136, 137, 428, 429, 430, 431, 912, 913, 914, 915, 916, 917, 918, 919, 920, 921, 922, 923, 924, 925, 926, 927] rfl (by decide +kernel)
set_option maxRecDepth 20000 in
theorem gL_law_X4_on : GoodIn wsL_law (wsV RL 72 RX4 yX4_on wsX4_on) := goodIn_app (goodIn_of _ (by decide +kernel)) ggL_law_X4_on
set_option maxRecDepth 20000 in
theorem ggL_law_X3_left : GoodIn wsL_law wsX3_left := goodIn_r _ [435, 16, 69, 18, 290, 215, 216, 217, 15, 218, 198, 72, 73, 2, 74, 75, 76, 77, 78, 28, 405, 406, 407, 408, 409, 410, 411, 412, 117, 83, 33, 413, 414, 415, 416, 34, 35, 36, 37, 38, 39, 40, 41, 325, 326, 327, 328, 329, 330, 331, 332, 333, 334, 335, 336, 235, 220, 221, 222, 223, 224, 225, 226, 227, 228, 229, 230, 236, 237, 238, 239, 240, 241, 242, 337, 338, 339, 340, 145, 341, 114, 115, 116, 342, 343, 344, 345, 905, 906, 907, 908, 909, 910, 911, 928, 929, 930, 931, 932, 933, 934, 935, 936, 937, 938, 939] rfl (by decide +kernel)
set_option maxRecDepth 20000 in
theorem gL_law_X3_left : GoodIn wsL_law (wsV RL 73 RX3 yX3_left wsX3_left) := goodIn_app (goodIn_of _ (by decide +kernel)) ggL_law_X3_left
set_option maxRecDepth 20000 in
theorem ggL_law_X4_left : GoodIn wsL_law wsX4_left := goodIn_r _ [439, 88, 251, 252, 253, 5, 254, 57, 90, 91, 92, 93, 94, 95, 96, 60, 421, 422, 423, 424, 59, 425, 426, 427, 358, 359, 360, 361, 362, 363, 364, 365, 366, 367, 368, 369, 370, 156, 259, 260, 261, 262, 130, 131, 132, 133, 255, 256, 257, 258, 263, 264, 265, 266, 267, 268, 269, 270, 271, 272, 273, 274, 275, 276, 277, 101, 102, 103, 104, 134, 135, 136, 137, 428, 429, 430, 431, 912, 913, 914, 915, 916, 917, 918, 919, 920, 921, 922, 923, 924, 925, 926, 927] rfl (by decide +kernel)
set_option maxRecDepth 20000 in
theorem gL_law_X4_left : GoodIn wsL_law (wsV RL 76 RX4 yX4_left wsX4_left) := goodIn_app (goodIn_of _ (by decide +kernel)) ggL_law_X4_left
set_option maxRecDepth 20000 in
theorem ggL_law_X3_weeps : GoodIn wsL_law wsX3_weeps := goodIn_r _ [443, 16, 69, 18, 444, 109, 110, 111, 15, 112, 83, 75, 76, 77, 2, 78, 28, 72, 73, 74, 405, 406, 407, 408, 409, 410, 411, 412, 117, 33, 413, 414, 415, 416, 34, 35, 36, 37, 198, 38, 39, 40, 41, 325, 326, 327, 328, 329, 330, 331, 332, 333, 334, 335, 336, 235, 220, 221, 222, 223, 224, 225, 226, 227, 228, 229, 230, 236, 237, 238, 239, 240, 241, 242, 337, 338, 339, 340, 145, 341, 114, 115, 116, 342, 343, 344, 345, 445, 905, 906, 907, 908, 909, 910, 911, 928, 929, 930, 931, 932, 933, 934, 935, 936, 937, 938, 939] rfl (by decide +kernel)
set_option maxRecDepth 20000 in
theorem gL_law_X3_weeps : GoodIn wsL_law (wsV RL 77 RX3 yX3_weeps wsX3_weeps) := goodIn_app (goodIn_of _ (by decide +kernel)) ggL_law_X3_weeps
set_option maxRecDepth 20000 in
theorem ggL_law_X4_weeps : GoodIn wsL_law wsX4_weeps := goodIn_r _ [449, 88, 366, 450, 126, 127, 128, 5, 129, 57, 90, 91, 92, 93, 94, 95, 96, 60, 421, 422, 423, 424, 59, 425, 426, 427, 362, 363, 364, 365, 367, 368, 369, 370, 156, 259, 260, 261, 262, 130, 131, 132, 133, 255, 256, 257, 258, 263, 264, 265, 266, 267, 268, 269, 270, 271, 272, 273, 274, 275, 276, 277, 101, 102, 103, 104, 134, 135, 136, 137, 428, 429, 430, 431, 912, 913, 914, 915, 916, 917, 918, 919, 920, 921, 922, 923, 924, 925, 926, 927] rfl (by decide +kernel)
set_option maxRecDepth 20000 in
theorem gL_law_X4_weeps : GoodIn wsL_law (wsV RL 80 RX4 yX4_weeps wsX4_weeps) := goodIn_app (goodIn_of _ (by decide +kernel)) ggL_law_X4_weeps
set_option maxRecDepth 20000 in
theorem ggL_law_X3_when : GoodIn wsL_law wsX3_when := goodIn_r _ [454, 16, 323, 69, 18, 175, 444, 109, 110, 111, 15, 112, 83, 72, 73, 2, 74, 75, 76, 77, 78, 28, 405, 406, 407, 408, 409, 410, 411, 412, 117, 33, 413, 414, 415, 416, 34, 35, 36, 37, 198, 38, 39, 40, 41, 325, 326, 327, 328, 329, 330, 331, 332, 333, 334, 335, 336, 235, 220, 221, 222, 223, 224, 225, 226, 227, 228, 229, 230, 236, 237, 238, 239, 240, 241, 242, 337, 338, 339, 340, 145, 341, 114, 115, 116, 342, 343, 344, 345, 445, 905, 906, 907, 908, 909, 910, 911, 928, 929, 930, 931, 932, 933, 934, 935, 936, 937, 938, 939] rfl (by decide +kernel)
set_option maxRecDepth 20000 in
theorem gL_law_X3_when : GoodIn wsL_law (wsV RL 81 RX3 yX3_when wsX3_when) := goodIn_app (goodIn_of _ (by decide +kernel)) ggL_law_X3_when
set_option maxRecDepth 20000 in
theorem ggL_law_X4_when : GoodIn wsL_law wsX4_when := goodIn_r _ [458, 156, 88, 450, 126, 127, 128, 5, 129, 57, 90, 91, 92, 93, 94, 95, 96, 60, 421, 422, 423, 424, 59, 425, 426, 427, 130, 131, 132, 133, 362, 363, 364, 365, 366, 367, 368, 369, 370, 259, 260, 261, 262, 255, 256, 257, 258, 263, 264, 265, 266, 267, 268, 269, 270, 271, 272, 273, 274, 275, 276, 277, 101, 102, 103, 104, 134, 135, 136, 137, 428, 429, 430, 431, 912, 913, 914, 915, 916, 917, 918, 919, 920, 921, 922, 923, 924, 925, 926, 927] rfl (by decide +kernel)
set_option maxRecDepth 20000 in
theorem gL_law_X4_when : GoodIn wsL_law (wsV RL 84 RX4 yX4_when wsX4_when) := goodIn_app (goodIn_of _ (by decide +kernel)) ggL_law_X4_when
set_option maxRecDepth 20000 in
theorem ggL_law_X3_tongue : GoodIn wsL_law wsX3_tongue := goodIn_r _ [462, 16, 69, 215, 216, 217, 15, 218, 198, 72, 73, 2, 74, 75, 76, 77, 78, 28, 463, 464, 465, 466, 467, 468, 469, 470, 18, 175, 409, 410, 411, 412, 117, 83, 33, 413, 414, 415, 416, 34, 35, 36, 37, 38, 39, 40, 41, 471, 472, 473, 474, 325, 326, 327, 328, 329, 330, 331, 332, 333, 334, 335, 336, 235, 220, 221, 222, 223, 224, 225, 226, 227, 228, 229, 230, 236, 237, 238, 239, 240, 241, 242, 337, 338, 339, 340, 145, 341, 114, 115, 116, 342, 343, 344, 345, 346, 347, 348, 349, 350, 351, 352, 905, 906, 907, 908, 909, 910, 911, 928, 929, 930, 931, 932, 933, 934, 935, 936, 937, 938, 939] rfl (by decide +kernel)
set_option maxRecDepth 20000 in
theorem gL_law_X3_tongue : GoodIn wsL_law (wsV RL 85 RX3 yX3_tongue wsX3_tongue) := goodIn_app (goodIn_of _ (by decide +kernel)) ggL_law_X3_tongue
set_option maxRecDepth 20000 in
theorem ggL_law_X4_tongue : GoodIn wsL_law wsX4_tongue := goodIn_r _ [478, 88, 251, 252, 253, 5, 254, 57, 90, 91, 92, 479, 480, 481, 482, 421, 422, 423, 424, 59, 425, 426, 427, 483, 484, 485, 486, 358, 359, 360, 361, 362, 363, 364, 365, 366, 367, 368, 369, 370, 156, 259, 260, 261, 262, 130, 131, 132, 133, 255, 256, 257, 258, 263, 264, 265, 266, 267, 268, 269, 270, 271, 272, 273, 274, 275, 276, 277, 101, 102, 103, 104, 134, 135, 136, 137, 371, 372, 373, 374, 428, 429, 430, 431, 93, 94, 95, 96, 60, 912, 913, 914, 915, 916, 917, 918, 919, 920, 921, 922, 923, 924, 925, 926, 927] rfl (by decide +kernel)
set_option maxRecDepth 20000 in
theorem gL_law_X4_tongue : GoodIn wsL_law (wsV RL 88 RX4 yX4_tongue wsX4_tongue) := goodIn_app (goodIn_of _ (by decide +kernel)) ggL_law_X4_tongue
set_option maxRecDepth 20000 in
theorem ggL_law_X3_aim : GoodIn wsL_law wsX3_aim := goodIn_r _ [490, 16, 69, 70, 215, 216, 217, 15, 218, 198, 109, 110, 111, 112, 83, 72, 73, 2, 74, 75, 76, 77, 78, 28, 467, 468, 469, 470, 18, 175, 409, 410, 411, 412, 117, 33, 413, 414, 415, 416, 34, 35, 36, 37, 38, 39, 40, 41, 471, 472, 473, 474, 325, 326, 327, 328, 329, 330, 331, 332, 333, 334, 335, 336, 235, 220, 221, 222, 223, 224, 225, 226, 227, 228, 229, 230, 236, 237, 238, 239, 240, 241, 242, 337, 338, 339, 340, 145, 341, 114, 115, 116, 342, 343, 344, 345, 346, 347, 348, 349, 350, 351, 352, 905, 906, 907, 908, 909, 910, 911, 928, 929, 930, 931, 932, 933, 934, 935, 936, 937, 938, 939] rfl (by decide +kernel)
set_option maxRecDepth 20000 in
theorem gL_law_X3_aim : GoodIn wsL_law (wsV RL 89 RX3 yX3_aim wsX3_aim) := goodIn_app (goodIn_of _ (by decide +kernel)) ggL_law_X3_aim
set_option maxRecDepth 20000 in
theorem ggL_law_X4_aim : GoodIn wsL_law wsX4_aim := goodIn_r _ [494, 88, 57, 251, 252, 253, 5, 254, 90, 91, 92, 126, 127, 128, 129, 93, 94, 95, 96, 60, 421, 422, 423, 424, 59, 425, 426, 427, 483, 484, 485, 486, 358, 359, 360, 361, 362, 363, 364, 365, 366, 367, 368, 369, 370, 156, 259, 260, 261, 262, 130, 131, 132, 133, 255, 256, 257, 258, 263, 264, 265, 266, 267, 268, 269, 270, 271, 272, 273, 274, 275, 276, 277, 101, 102, 103, 104, 134, 135, 136, 137, 371, 372, 373, 374, 428, 429, 430, 431, 912, 913, 914, 915, 916, 917, 918, 919, 920, 921, 922, 923, 924, 925, 926, 927] rfl (by decide +kernel)
set_option maxRecDepth 20000 in
theorem gL_law_X4_aim : GoodIn wsL_law (wsV RL 92 RX4 yX4_aim wsX4_aim) := goodIn_app (goodIn_of _ (by decide +kernel)) ggL_law_X4_aim
