/-! GoodIn rows of the law -/
set_option maxRecDepth 20000 in
theorem ggL_law_X3_kind : GoodIn wsL_law wsX3_kind := goodIn_r _ [498, 16, 69, 109, 110, 111, 15, 112, 83, 72, 73, 2, 74, 75, 76, 77, 78, 28, 463, 464, 465, 466, 467, 468, 469, 470, 18, 175, 409, 410, 411, 412, 117, 33, 413, 414, 415, 416, 34, 35, 36, 37, 198, 38, 39, 40, 41, 471, 472, 473, 474, 325, 326, 327, 328, 329, 330, 331, 332, 333, 334, 335, 336, 235, 220, 221, 222, 223, 224, 225, 226, 227, 228, 229, 230, 236, 237, 238, 239, 240, 241, 242, 337, 338, 339, 340, 145, 341, 114, 115, 116, 342, 343, 344, 345, 346, 347, 348, 349, 350, 351, 352, 905, 906, 907, 908, 909, 910, 911, 928, 929, 930, 931, 932, 933, 934, 935, 936, 937, 938, 939] rfl (by decide +kernel)
set_option maxRecDepth 20000 in
theorem gL_law_X3_kind : GoodIn wsL_law (wsV RL 93 RX3 yX3_kind wsX3_kind) := goodIn_app (goodIn_of _ (by decide +kernel)) ggL_law_X3_kind
set_option maxRecDepth 20000 in
theorem ggL_law_X4_kind : GoodIn wsL_law wsX4_kind := goodIn_r _ [502, 88, 126, 127, 128, 5, 129, 57, 90, 91, 92, 479, 480, 481, 482, 421, 422, 423, 424, 59, 425, 426, 427, 483, 484, 485, 486, 358, 359, 360, 361, 362, 363, 364, 365, 366, 367, 368, 369, 370, 156, 259, 260, 261, 262, 130, 131, 132, 133, 255, 256, 257, 258, 263, 264, 265, 266, 267, 268, 269, 270, 271, 272, 273, 274, 275, 276, 277, 101, 102, 103, 104, 134, 135, 136, 137, 371, 372, 373, 374, 428, 429, 430, 431, 93, 94, 95, 96, 60, 912, 913, 914, 915, 916, 917, 918, 919, 920, 921, 922, 923, 924, 925, 926, 927] rfl (by decide +kernel)
set_option maxRecDepth 20000 in
theorem gL_law_X4_kind : GoodIn wsL_law (wsV RL 96 RX4 yX4_kind wsX4_kind) := goodIn_app (goodIn_of _ (by decide +kernel)) ggL_law_X4_kind
set_option maxRecDepth 20000 in
theorem ggL_law_X3_pride : GoodIn wsL_law wsX3_pride := goodIn_r _ [506, 16, 323, 69, 444, 109, 110, 111, 15, 112, 83, 72, 73, 2, 74, 75, 76, 77, 78, 28, 467, 468, 469, 470, 18, 175, 409, 410, 411, 412, 117, 33, 413, 414, 415, 416, 34, 35, 36, 37, 198, 38, 39, 40, 41, 471, 472, 473, 474, 325, 326, 327, 328, 329, 330, 331, 332, 333, 334, 335, 336, 235, 220, 221, 222, 223, 224, 225, 226, 227, 228, 229, 230, 236, 237, 238, 239, 240, 241, 242, 337, 338, 339, 340, 145, 341, 114, 115, 116, 342, 343, 344, 345, 346, 347, 348, 349, 350, 351, 352, 905, 906, 907, 908, 909, 910, 911, 928, 929, 930, 931, 932, 933, 934, 935, 936, 937, 938, 939] rfl (by decide +kernel)
set_option maxRecDepth 20000 in
theorem gL_law_X3_pride : GoodIn wsL_law (wsV RL 97 RX3 yX3_pride wsX3_pride) := goodIn_app (goodIn_of _ (by decide +kernel)) ggL_law_X3_pride
set_option maxRecDepth 20000 in
theorem ggL_law_X4_pride : GoodIn wsL_law wsX4_pride := goodIn_r _ [510, 156, 88, 126, 127, 128, 5, 129, 57, 90, 91, 92, 93, 94, 95, 96, 60, 421, 422, 423, 424, 59, 425, 426, 427, 101, 102, 103, 104, 483, 484, 485, 486, 358, 359, 360, 361, 362, 363, 364, 365, 366, 367, 368, 369, 370, 259, 260, 261, 262, 130, 131, 132, 133, 255, 256, 257, 258, 263, 264, 265, 266, 267, 268, 269, 270, 271, 272, 273, 274, 275, 276, 277, 134, 135, 136, 137, 371, 372, 373, 374, 428, 429, 430, 431, 511, 512, 513, 514, 450, 912, 913, 914, 915, 916, 917, 918, 919, 920, 921, 922, 923, 924, 925, 926, 927] rfl (by decide +kernel)
set_option maxRecDepth 20000 in
theorem gL_law_X4_pride : GoodIn wsL_law (wsV RL 100 RX4 yX4_pride wsX4_pride) := goodIn_app (goodIn_of _ (by decide +kernel)) ggL_law_X4_pride
set_option maxRecDepth 20000 in
theorem ggL_law_X3_learn : GoodIn wsL_law wsX3_learn := goodIn_r _ [518, 16, 69, 109, 110, 111, 15, 112, 83, 72, 73, 2, 74, 75, 76, 77, 78, 28, 463, 464, 465, 466, 467, 468, 469, 470, 18, 175, 409, 410, 411, 412, 117, 33, 413, 414, 415, 416, 34, 35, 36, 37, 198, 38, 39, 40, 41, 471, 472, 473, 474, 325, 326, 327, 328, 329, 330, 331, 332, 333, 334, 335, 336, 235, 220, 221, 222, 223, 224, 225, 226, 227, 228, 229, 230, 236, 237, 238, 239, 240, 241, 242, 337, 338, 339, 340, 145, 341, 114, 115, 116, 342, 343, 344, 345, 346, 347, 348, 349, 350, 351, 352, 905, 906, 907, 908, 909, 910, 911, 928, 929, 930, 931, 932, 933, 934, 935, 936, 937, 938, 939] rfl (by decide +kernel)
set_option maxRecDepth 20000 in
theorem gL_law_X3_learn : GoodIn wsL_law (wsV RL 101 RX3 yX3_learn wsX3_learn) := goodIn_app (goodIn_of _ (by decide +kernel)) ggL_law_X3_learn
set_option maxRecDepth 20000 in
theorem ggL_law_X4_learn : GoodIn wsL_law wsX4_learn := goodIn_r _ [522, 88, 126, 127, 128, 5, 129, 57, 90, 91, 92, 479, 480, 481, 482, 421, 422, 423, 424, 59, 425, 426, 427, 483, 484, 485, 486, 358, 359, 360, 361, 362, 363, 364, 365, 366, 367, 368, 369, 370, 156, 259, 260, 261, 262, 130, 131, 132, 133, 255, 256, 257, 258, 263, 264, 265, 266, 267, 268, 269, 270, 271, 272, 273, 274, 275, 276, 277, 101, 102, 103, 104, 134, 135, 136, 137, 371, 372, 373, 374, 428, 429, 430, 431, 93, 94, 95, 96, 60, 912, 913, 914, 915, 916, 917, 918, 919, 920, 921, 922, 923, 924, 925, 926, 927] rfl (by decide +kernel)
set_option maxRecDepth 20000 in
theorem gL_law_X4_learn : GoodIn wsL_law (wsV RL 104 RX4 yX4_learn wsX4_learn) := goodIn_app (goodIn_of _ (by decide +kernel)) ggL_law_X4_learn
set_option maxRecDepth 20000 in
theorem ggL_law_X3_withdraw : GoodIn wsL_law wsX3_withdraw := goodIn_r _ [526, 69, 16, 188, 444, 72, 73, 2, 74, 75, 76, 77, 78, 28, 463, 464, 465, 466, 467, 468, 469, 470, 18, 175, 409, 410, 411, 15, 412, 117, 83, 33, 413, 414, 415, 416, 34, 35, 36, 37, 198, 38, 39, 40, 41, 471, 472, 473, 474, 325, 326, 327, 328, 329, 330, 331, 332, 333, 334, 335, 336, 235, 220, 221, 222, 223, 224, 225, 226, 227, 228, 229, 230, 236, 237, 238, 239, 240, 241, 242, 337, 338, 339, 340, 145, 341, 114, 115, 116, 342, 343, 344, 345, 346, 347, 348, 349, 350, 351, 352, 905, 906, 907, 908, 909, 910, 911, 928, 929, 930, 931, 932, 933, 934, 935, 936, 937, 938, 939] rfl (by decide +kernel)
set_option maxRecDepth 20000 in
theorem gL_law_X3_withdraw : GoodIn wsL_law (wsV RL 105 RX3 yX3_withdraw wsX3_withdraw) := goodIn_app (goodIn_of _ (by decide +kernel)) ggL_law_X3_withdraw
set_option maxRecDepth 20000 in
theorem ggL_law_X4_withdraw : GoodIn wsL_law wsX4_withdraw := goodIn_r _ [530, 88, 57, 90, 91, 5, 92, 93, 94, 95, 96, 60, 421, 422, 423, 424, 59, 425, 426, 427, 483, 484, 485, 486, 358, 359, 360, 361, 362, 363, 364, 365, 366, 367, 368, 369, 370, 156, 259, 260, 261, 262, 130, 131, 132, 133, 255, 256, 257, 258, 263, 264, 265, 266, 267, 268, 269, 270, 271, 272, 273, 274, 275, 276, 277, 101, 102, 103, 104, 134, 135, 136, 137, 371, 372, 373, 374, 428, 429, 430, 431, 511, 512, 513, 514, 450, 912, 913, 914, 915, 916, 917, 918, 919, 920, 921, 922, 923, 924, 925, 926, 927] rfl (by decide +kernel)
set_option maxRecDepth 20000 in
theorem gL_law_X4_withdraw : GoodIn wsL_law (wsV RL 108 RX4 yX4_withdraw wsX4_withdraw) := goodIn_app (goodIn_of _ (by decide +kernel)) ggL_law_X4_withdraw
set_option maxRecDepth 20000 in
theorem ggL_law_X3_saddest : GoodIn wsL_law wsX3_saddest := goodIn_r _ [534, 69, 16, 70, 444, 18, 72, 73, 2, 74, 75, 76, 77, 78, 28, 405, 406, 407, 408, 409, 410, 411, 15, 412, 117, 83, 33, 413, 414, 415, 416, 34, 35, 36, 37, 198, 38, 39, 40, 41, 325, 326, 327, 328, 329, 330, 331, 332, 333, 334, 335, 336, 235, 220, 221, 222, 223, 224, 225, 226, 227, 228, 229, 230, 236, 237, 238, 239, 240, 241, 242, 337, 338, 339, 340, 145, 341, 114, 115, 116, 342, 343, 344, 345, 535, 536, 537, 538, 905, 906, 907, 908, 909, 910, 911, 928, 929, 930, 931, 932, 933, 934, 935, 936, 937, 938, 939] rfl (by decide +kernel)
set_option maxRecDepth 20000 in
theorem gL_law_X3_saddest : GoodIn wsL_law (wsV RL 109 RX3 yX3_saddest wsX3_saddest) := goodIn_app (goodIn_of _ (by decide +kernel)) ggL_law_X3_saddest
set_option maxRecDepth 20000 in
theorem ggL_law_X4_saddest : GoodIn wsL_law wsX4_saddest := goodIn_r _ [542, 88, 57, 90, 91, 5, 92, 93, 94, 95, 96, 60, 421, 422, 423, 424, 59, 425, 426, 427, 358, 359, 360, 361, 362, 363, 364, 365, 366, 367, 368, 369, 370, 156, 259, 260, 261, 262, 130, 131, 132, 133, 255, 256, 257, 258, 263, 264, 265, 266, 267, 268, 269, 270, 271, 272, 273, 274, 275, 276, 277, 101, 102, 103, 104, 134, 135, 136, 137, 428, 429, 430, 431, 511, 512, 513, 514, 450, 912, 913, 914, 915, 916, 917, 918, 919, 920, 921, 922, 923, 924, 925, 926, 927] rfl (by decide +kernel)
set_option maxRecDepth 20000 in
theorem gL_law_X4_saddest : GoodIn wsL_law (wsV RL 112 RX4 yX4_saddest wsX4_saddest) := goodIn_app (goodIn_of _ (by decide +kernel)) ggL_law_X4_saddest
set_option maxRecDepth 20000 in
theorem ggL_law_X3_feed : GoodIn wsL_law wsX3_feed := goodIn_r _ [546, 69, 22, 547, 71, 72, 73, 2, 74, 75, 76, 77, 78, 28, 548, 549, 550, 21, 551, 45, 552, 905, 906, 907, 908, 909, 910, 911, 940, 941, 942, 943, 944, 945] rfl (by decide +kernel)
set_option maxRecDepth 20000 in
theorem gL_law_X3_feed : GoodIn wsL_law (wsV RL 113 RX3 yX3_feed wsX3_feed) := goodIn_app (goodIn_of _ (by decide +kernel)) ggL_law_X3_feed
set_option maxRecDepth 20000 in
theorem ggL_law_X4_feed : GoodIn wsL_law wsX4_feed := goodIn_r _ [556, 88, 557, 89, 61, 90, 91, 5, 92, 93, 94, 95, 96, 60, 912, 913, 914, 915, 916, 917, 918, 919, 920, 921, 922, 923, 924, 925, 926, 927] rfl (by decide +kernel)
set_option maxRecDepth 20000 in
theorem gL_law_X4_feed : GoodIn wsL_law (wsV RL 116 RX4 yX4_feed wsX4_feed) := goodIn_app (goodIn_of _ (by decide +kernel)) ggL_law_X4_feed
set_option maxRecDepth 20000 in
theorem ggL_law_X3_wipe : GoodIn wsL_law wsX3_wipe := goodIn_r _ [561, 22, 562, 563, 564, 21, 565, 552, 905, 906, 907, 908, 909, 910, 911, 940, 941, 942, 943, 944, 945] rfl (by decide +kernel)
set_option maxRecDepth 20000 in
theorem gL_law_X3_wipe : GoodIn wsL_law (wsV RL 117 RX3 yX3_wipe wsX3_wipe) := goodIn_app (goodIn_of _ (by decide +kernel)) ggL_law_X3_wipe
set_option maxRecDepth 20000 in
theorem ggL_law_X4_wipe : GoodIn wsL_law wsX4_wipe := goodIn_r _ [569, 557, 912, 913, 914, 915, 916, 917, 918, 919, 920, 921, 922, 923, 924, 925, 926, 927] rfl (by decide +kernel)
set_option maxRecDepth 20000 in
theorem gL_law_X4_wipe : GoodIn wsL_law (wsV RL 121 RX4 yX4_wipe wsX4_wipe) := goodIn_app (goodIn_of _ (by decide +kernel)) ggL_law_X4_wipe
set_option maxRecDepth 20000 in
theorem ggL_law_X3_congress : GoodIn wsL_law wsX3_congress := goodIn_r _ [573, 22, 18, 16, 405, 406, 407, 2, 408, 409, 410, 411, 15, 412, 117, 83, 33, 413, 414, 415, 416, 34, 35, 36, 37, 198, 38, 39, 40, 41, 325, 326, 327, 328, 329, 330, 331, 332, 333, 334, 335, 336, 235, 220, 221, 222, 223, 224, 225, 226, 227, 228, 229, 230, 236, 237, 238, 239, 240, 241, 242, 337, 338, 339, 340, 145, 341, 114, 115, 116, 342, 343, 344, 345, 574, 575, 576, 21, 577, 578, 579, 580, 581, 582, 583, 584, 552, 45, 585, 586, 587, 588, 589, 590, 591, 592, 593, 594, 595, 596, 597, 598, 599, 600, 601, 602, 603, 604, 605, 606, 607, 608, 609, 610, 611, 612, 613, 614, 615, 616, 617, 618, 619, 620, 621, 622, 623, 624, 625, 626, 627, 628, 629, 630, 631, 632, 633, 634, 635, 636, 637, 638, 639, 640, 641, 642, 643, 644, 645, 646, 647, 648, 649, 650, 651, 652, 653, 654, 655, 656, 657, 658, 659, 660, 661, 662, 663, 664, 665, 666, 195, 196, 197, 667, 668, 669, 670, 671, 672, 673, 674, 675, 676, 677, 678, 679, 680, 681, 80, 81, 82, 682, 683, 684, 685, 686, 562, 563, 564, 565, 905, 906, 907, 908, 909, 910, 911, 928, 929, 930, 931, 932, 933, 934, 935, 936, 937, 938, 939, 940, 941, 942, 943, 944, 945] rfl (by decide +kernel)
set_option maxRecDepth 20000 in
theorem gL_law_X3_congress : GoodIn wsL_law (wsV RL 122 RX3 yX3_congress wsX3_congress) := goodIn_app (goodIn_of _ (by decide +kernel)) ggL_law_X3_congress
set_option maxRecDepth 20000 in
theorem ggL_law_X4_congress : GoodIn wsL_law wsX4_congress := goodIn_r _ [690, 691, 692, 693, 557, 694, 421, 422, 423, 5, 424, 57, 59, 425, 426, 427, 695, 696, 697, 698, 699, 61, 700, 701, 702, 703, 90, 91, 92, 704, 705, 706, 707, 708, 709, 710, 711, 712, 713, 714, 715, 716, 717, 718, 719, 720, 721, 722, 723, 724, 725, 726, 727, 728, 729, 730, 731, 732, 733, 734, 735, 736, 97, 98, 99, 100, 101, 102, 103, 104, 737, 738, 739, 740, 207, 208, 209, 210, 428, 429, 430, 431, 912, 913, 914, 915, 916, 917, 918, 919, 920, 921, 922, 923, 924, 925, 926, 927] rfl (by decide +kernel)
set_option maxRecDepth 20000 in
theorem gL_law_X4_congress : GoodIn wsL_law (wsV RL 125 RX4 yX4_congress wsX4_congress) := goodIn_app (goodIn_of _ (by decide +kernel)) ggL_law_X4_congress
set_option maxRecDepth 20000 in
theorem ggL_law_X3_sheet : GoodIn wsL_law wsX3_sheet := goodIn_r _ [744, 69, 745, 26, 746, 747, 25, 748, 749, 750, 751, 75, 76, 77, 2, 78, 28, 72, 73, 74, 752, 753, 754, 755, 49, 50, 52, 905, 906, 907, 908, 909, 910, 911, 946, 947, 948] rfl (by decide +kernel)
set_option maxRecDepth 20000 in
theorem gL_law_X3_sheet : GoodIn wsL_law (wsV RL 126 RX3 yX3_sheet wsX3_sheet) := goodIn_app (goodIn_of _ (by decide +kernel)) ggL_law_X3_sheet
set_option maxRecDepth 20000 in
theorem ggL_law_X4_sheet : GoodIn wsL_law wsX4_sheet := goodIn_r _ [759, 88, 760, 62, 63, 64, 761, 762, 5, 763, 90, 91, 92, 93, 94, 95, 96, 60, 912, 913, 914, 915, 916, 917, 918, 919, 920, 921, 922, 923, 924, 925, 926, 927] rfl (by decide +kernel)
set_option maxRecDepth 20000 in
theorem gL_law_X4_sheet : GoodIn wsL_law (wsV RL 129 RX4 yX4_sheet wsX4_sheet) := goodIn_app (goodIn_of _ (by decide +kernel)) ggL_law_X4_sheet
set_option maxRecDepth 20000 in
theorem ggL_law_X3_write : GoodIn wsL_law wsX3_write := goodIn_r _ [767, 26, 768, 69, 769, 770, 771, 2, 772, 773, 746, 747, 25, 748, 774, 775, 776, 777, 49, 75, 76, 77, 78, 28, 72, 73, 74, 778, 779, 780, 781, 52, 782, 783, 784, 785, 786, 787, 788, 905, 906, 907, 908, 909, 910, 911, 946, 947, 948] rfl (by decide +kernel)
set_option maxRecDepth 20000 in
theorem gL_law_X3_write : GoodIn wsL_law (wsV RL 132 RX3 yX3_write wsX3_write) := goodIn_app (goodIn_of _ (by decide +kernel)) ggL_law_X3_write
set_option maxRecDepth 20000 in
theorem ggL_law_X4_write : GoodIn wsL_law wsX4_write := goodIn_r _ [792, 63, 88, 64, 62, 793, 794, 795, 5, 796, 797, 761, 762, 763, 90, 91, 92, 93, 94, 95, 96, 60, 798, 799, 800, 912, 913, 914, 915, 916, 917, 918, 919, 920, 921, 922, 923, 924, 925, 926, 927] rfl (by decide +kernel)
set_option maxRecDepth 20000 in
theorem gL_law_X4_write : GoodIn wsL_law (wsV RL 136 RX4 yX4_write wsX4_write) := goodIn_app (goodIn_of _ (by decide +kernel)) ggL_law_X4_write
