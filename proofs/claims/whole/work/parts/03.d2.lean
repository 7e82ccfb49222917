theorem dX2_init_0 : decode cX2_init 0 = .ok (.aload_n 0, 1) := by decide +kernel
theorem dX2_init_1 : decode cX2_init 1 = .ok (.invokespecial 3, 3) := by decide +kernel
theorem dX2_init_4 : decode cX2_init 4 = .ok (.aload_n 0, 1) := by decide +kernel
theorem dX2_init_5 : decode cX2_init 5 = .ok (.bipush 120, 2) := by decide +kernel
theorem dX2_init_7 : decode cX2_init 7 = .ok (.newarray .int, 2) := by decide +kernel
theorem dX2_init_9 : decode cX2_init 9 = .ok (.putfield 11, 3) := by decide +kernel
theorem dX2_init_12 : decode cX2_init 12 = .ok (.return_, 1) := by decide +kernel
theorem dX2_add_0 : decode cX2_add 0 = .ok (.iload_n 2, 1) := by decide +kernel
theorem dX2_add_1 : decode cX2_add 1 = .ok (.iconst 1, 1) := by decide +kernel
theorem dX2_add_2 : decode cX2_add 2 = .ok (.isub, 1) := by decide +kernel
theorem dX2_add_3 : decode cX2_add 3 = .ok (.istore_n 3, 1) := by decide +kernel
theorem dX2_add_4 : decode cX2_add 4 = .ok (.iload_n 3, 1) := by decide +kernel
theorem dX2_add_5 : decode cX2_add 5 = .ok (.ifCond .lt 38, 3) := by decide +kernel
theorem dX2_add_8 : decode cX2_add 8 = .ok (.aload_n 0, 1) := by decide +kernel
theorem dX2_add_9 : decode cX2_add 9 = .ok (.getfield 11, 3) := by decide +kernel
theorem dX2_add_12 : decode cX2_add 12 = .ok (.aload_n 0, 1) := by decide +kernel
theorem dX2_add_13 : decode cX2_add 13 = .ok (.getfield 15, 3) := by decide +kernel
theorem dX2_add_16 : decode cX2_add 16 = .ok (.iload_n 1, 1) := by decide +kernel
theorem dX2_add_17 : decode cX2_add 17 = .ok (.bipush 8, 2) := by decide +kernel
theorem dX2_add_19 : decode cX2_add 19 = .ok (.iload_n 3, 1) := by decide +kernel
theorem dX2_add_20 : decode cX2_add 20 = .ok (.imul, 1) := by decide +kernel
theorem dX2_add_21 : decode cX2_add 21 = .ok (.ishr, 1) := by decide +kernel
theorem dX2_add_22 : decode cX2_add 22 = .ok (.sipush 255, 3) := by decide +kernel
theorem dX2_add_25 : decode cX2_add 25 = .ok (.iand, 1) := by decide +kernel
theorem dX2_add_26 : decode cX2_add 26 = .ok (.iastore, 1) := by decide +kernel
theorem dX2_add_27 : decode cX2_add 27 = .ok (.aload_n 0, 1) := by decide +kernel
theorem dX2_add_28 : decode cX2_add 28 = .ok (.dup, 1) := by decide +kernel
theorem dX2_add_29 : decode cX2_add 29 = .ok (.getfield 15, 3) := by decide +kernel
theorem dX2_add_32 : decode cX2_add 32 = .ok (.iconst 1, 1) := by decide +kernel
theorem dX2_add_33 : decode cX2_add 33 = .ok (.iadd, 1) := by decide +kernel
theorem dX2_add_34 : decode cX2_add 34 = .ok (.putfield 15, 3) := by decide +kernel
theorem dX2_add_37 : decode cX2_add 37 = .ok (.iinc 3 (-1), 3) := by decide +kernel
theorem dX2_add_40 : decode cX2_add 40 = .ok (.goto (-36), 3) := by decide +kernel
theorem dX2_add_43 : decode cX2_add 43 = .ok (.return_, 1) := by decide +kernel
theorem dX2_clear_0 : decode cX2_clear 0 = .ok (.aload_n 0, 1) := by decide +kernel
theorem dX2_clear_1 : decode cX2_clear 1 = .ok (.getfield 15, 3) := by decide +kernel
theorem dX2_clear_4 : decode cX2_clear 4 = .ok (.istore_n 1, 1) := by decide +kernel
theorem dX2_clear_5 : decode cX2_clear 5 = .ok (.aload_n 0, 1) := by decide +kernel
theorem dX2_clear_6 : decode cX2_clear 6 = .ok (.iconst 0, 1) := by decide +kernel
theorem dX2_clear_7 : decode cX2_clear 7 = .ok (.putfield 15, 3) := by decide +kernel
theorem dX2_clear_10 : decode cX2_clear 10 = .ok (.iload_n 1, 1) := by decide +kernel
theorem dX2_clear_11 : decode cX2_clear 11 = .ok (.ireturn, 1) := by decide +kernel
set_option maxRecDepth 20000 in
theorem ggX2_tellTo_X2_advance : GoodIn wsX2_tellTo wsX2_advance := goodIn_r _ [8, 1, 3, 9, 10, 2, 11, 12, 13, 14, 7, 15, 16, 17, 18, 19, 20, 21, 22, 23, 24, 25, 26, 27, 134, 135, 136, 137, 138, 139] rfl (by decide +kernel)
set_option maxRecDepth 20000 in
theorem gX2_tellTo_X2_advance : GoodIn wsX2_tellTo (wsV RX2 22 RX2 yX2_advance wsX2_advance) := goodIn_app (goodIn_of _ (by decide +kernel)) ggX2_tellTo_X2_advance
set_option maxRecDepth 20000 in
theorem ggX2_tellTo_X2_isItemTaken : GoodIn wsX2_tellTo wsX2_isItemTaken := goodIn_r _ [31, 32, 33, 34, 35, 36, 7, 37, 2, 1, 3, 10, 38, 39, 40, 41, 42, 43, 44, 45, 46, 47, 48, 49, 50, 51, 52, 53, 54, 55, 56, 57, 58, 59, 60, 61, 62, 63, 64, 65, 66, 67, 68, 69, 70, 71, 72, 73, 74, 75, 76, 77, 78, 79, 80, 81, 82, 83, 84, 85, 86, 87, 88, 89, 90, 11, 4, 5, 6, 8, 9, 12, 13, 14, 15, 16, 17, 18, 19, 20, 21, 22, 23, 24, 25, 26, 27, 91, 92, 93, 94, 95, 96, 97, 98, 99, 100, 101, 102, 103, 104, 105, 106, 107, 108, 109, 110, 111, 112, 113, 114, 115, 116, 117, 118, 119, 120, 121, 122, 123, 124, 125, 126, 127, 128, 129, 130, 131, 132, 133, 140, 141, 142, 143, 144, 145, 146, 147, 148, 149, 150, 151, 134, 135, 136, 137, 138, 139] rfl (by decide +kernel)
set_option maxRecDepth 20000 in
theorem gX2_tellTo_X2_isItemTaken : GoodIn wsX2_tellTo (wsV RX2 25 RX2 yX2_isItemTaken wsX2_isItemTaken) := goodIn_app (goodIn_of _ (by decide +kernel)) ggX2_tellTo_X2_isItemTaken
theorem dX2_tellTo_0 : decode cX2_tellTo 0 = .ok (.aload_n 0, 1) := by decide +kernel
theorem dX2_tellTo_1 : decode cX2_tellTo 1 = .ok (.iconst 0, 1) := by decide +kernel
theorem dX2_tellTo_2 : decode cX2_tellTo 2 = .ok (.putfield 19, 3) := by decide +kernel
theorem dX2_tellTo_5 : decode cX2_tellTo 5 = .ok (.aload_n 0, 1) := by decide +kernel
theorem dX2_tellTo_6 : decode cX2_tellTo 6 = .ok (.invokevirtual 22, 3) := by decide +kernel
theorem dX2_tellTo_9 : decode cX2_tellTo 9 = .ok (.iconst 1, 1) := by decide +kernel
theorem dX2_tellTo_10 : decode cX2_tellTo 10 = .ok (.istore_n 2, 1) := by decide +kernel
theorem dX2_tellTo_11 : decode cX2_tellTo 11 = .ok (.iload_n 2, 1) := by decide +kernel
theorem dX2_tellTo_12 : decode cX2_tellTo 12 = .ok (.bipush 120, 2) := by decide +kernel
theorem dX2_tellTo_14 : decode cX2_tellTo 14 = .ok (.if_icmp .gt 44, 3) := by decide +kernel
theorem dX2_tellTo_17 : decode cX2_tellTo 17 = .ok (.aload_n 0, 1) := by decide +kernel
theorem dX2_tellTo_18 : decode cX2_tellTo 18 = .ok (.aload_n 1, 1) := by decide +kernel
theorem dX2_tellTo_19 : decode cX2_tellTo 19 = .ok (.invokevirtual 25, 3) := by decide +kernel
theorem dX2_tellTo_22 : decode cX2_tellTo 22 = .ok (.ifCond .ne 6, 3) := by decide +kernel
theorem dX2_tellTo_25 : decode cX2_tellTo 25 = .ok (.goto 33, 3) := by decide +kernel
theorem dX2_tellTo_28 : decode cX2_tellTo 28 = .ok (.aload_n 0, 1) := by decide +kernel
theorem dX2_tellTo_29 : decode cX2_tellTo 29 = .ok (.getfield 29, 3) := by decide +kernel
theorem dX2_tellTo_32 : decode cX2_tellTo 32 = .ok (.ifCond .ne 5, 3) := by decide +kernel
theorem dX2_tellTo_35 : decode cX2_tellTo 35 = .ok (.iload_n 2, 1) := by decide +kernel
theorem dX2_tellTo_36 : decode cX2_tellTo 36 = .ok (.ireturn, 1) := by decide +kernel
theorem dX2_tellTo_37 : decode cX2_tellTo 37 = .ok (.aload_n 0, 1) := by decide +kernel
theorem dX2_tellTo_38 : decode cX2_tellTo 38 = .ok (.getfield 29, 3) := by decide +kernel
theorem dX2_tellTo_41 : decode cX2_tellTo 41 = .ok (.iconst 3, 1) := by decide +kernel
theorem dX2_tellTo_42 : decode cX2_tellTo 42 = .ok (.if_icmp .eq 6, 3) := by decide +kernel
theorem dX2_tellTo_45 : decode cX2_tellTo 45 = .ok (.goto 13, 3) := by decide +kernel
theorem dX2_tellTo_48 : decode cX2_tellTo 48 = .ok (.aload_n 0, 1) := by decide +kernel
theorem dX2_tellTo_49 : decode cX2_tellTo 49 = .ok (.invokevirtual 22, 3) := by decide +kernel
theorem dX2_tellTo_52 : decode cX2_tellTo 52 = .ok (.iinc 2 1, 3) := by decide +kernel
theorem dX2_tellTo_55 : decode cX2_tellTo 55 = .ok (.goto (-44), 3) := by decide +kernel
theorem dX2_tellTo_58 : decode cX2_tellTo 58 = .ok (.iconst (-1), 1) := by decide +kernel
theorem dX2_tellTo_59 : decode cX2_tellTo 59 = .ok (.aload_n 0, 1) := by decide +kernel
theorem dX2_tellTo_60 : decode cX2_tellTo 60 = .ok (.getfield 32, 3) := by decide +kernel
theorem dX2_tellTo_63 : decode cX2_tellTo 63 = .ok (.isub, 1) := by decide +kernel
theorem dX2_tellTo_64 : decode cX2_tellTo 64 = .ok (.ireturn, 1) := by decide +kernel
set_option maxRecDepth 20000 in
theorem ggX2_isItemTaken_X2_isWord : GoodIn wsX2_isItemTaken wsX2_isWord := goodIn_r _ [7, 8, 9, 10, 11, 12, 13, 14, 15, 16, 17, 18, 19, 20, 21, 22, 23, 24, 25, 26, 27, 28, 29, 30, 31, 32, 33, 34, 35, 36, 37, 38, 39, 40, 41, 42, 43, 44, 45, 46, 47, 48, 49, 50, 51, 52, 53, 54, 55, 56, 57, 58, 59, 60, 142, 143, 144, 145, 146, 147] rfl (by decide +kernel)
set_option maxRecDepth 20000 in
theorem gX2_isItemTaken_X2_isWord : GoodIn wsX2_isItemTaken (wsV RX2 37 RX2 yX2_isWord wsX2_isWord) := goodIn_app (goodIn_of _ (by decide +kernel)) ggX2_isItemTaken_X2_isWord
set_option maxRecDepth 20000 in
theorem ggX2_isItemTaken_X2_isSpeechTaken : GoodIn wsX2_isItemTaken wsX2_isSpeechTaken := goodIn_r _ [64, 2, 65, 66, 67, 68, 6, 69, 9, 10, 70, 11, 8, 71, 72, 73, 74, 75, 76, 77, 78, 79, 80, 81, 82, 83, 84, 85, 86, 87, 88, 89, 90, 91, 92, 93, 94, 95, 96, 97, 98, 99, 100, 3, 4, 5, 7, 12, 13, 14, 15, 16, 17, 18, 19, 20, 21, 22, 23, 24, 25, 26, 27, 28, 29, 30, 31, 32, 33, 34, 35, 36, 37, 38, 39, 40, 41, 42, 43, 44, 45, 46, 47, 48, 49, 50, 51, 52, 53, 54, 55, 56, 57, 58, 59, 60, 101, 102, 103, 104, 105, 130, 131, 132, 133, 134, 135, 136, 137, 138, 139, 140, 141, 142, 143, 144, 145, 146, 147] rfl (by decide +kernel)
set_option maxRecDepth 20000 in
theorem gX2_isItemTaken_X2_isSpeechTaken : GoodIn wsX2_isItemTaken (wsV RX2 46 RX2 yX2_isSpeechTaken wsX2_isSpeechTaken) := goodIn_app (goodIn_of _ (by decide +kernel)) ggX2_isItemTaken_X2_isSpeechTaken
set_option maxRecDepth 20000 in
theorem ggX2_isItemTaken_X2_kindNamed : GoodIn wsX2_isItemTaken wsX2_kindNamed := goodIn_r _ [109, 3, 4, 5, 6, 7, 8, 9, 10, 11, 12, 13, 14, 15, 16, 17, 18, 19, 20, 21, 22, 23, 24, 25, 26, 27, 28, 29, 30, 31, 32, 33, 34, 35, 36, 37, 38, 39, 40, 41, 42, 43, 44, 45, 46, 47, 48, 49, 50, 51, 52, 53, 54, 55, 56, 57, 58, 59, 60, 142, 143, 144, 145, 146, 147] rfl (by decide +kernel)
set_option maxRecDepth 20000 in
theorem gX2_isItemTaken_X2_kindNamed : GoodIn wsX2_isItemTaken (wsV RX2 49 RX2 yX2_kindNamed wsX2_kindNamed) := goodIn_app (goodIn_of _ (by decide +kernel)) ggX2_isItemTaken_X2_kindNamed
set_option maxRecDepth 20000 in
theorem ggX2_isItemTaken_X2_isDelegateTaken : GoodIn wsX2_isItemTaken wsX2_isDelegateTaken := goodIn_r _ [113, 114, 65, 115, 116, 117, 94, 118, 119, 120, 121, 122, 123, 124, 66, 67, 68, 6, 69, 9, 10, 70, 11, 8, 71, 72, 73, 74, 75, 76, 77, 78, 79, 80, 81, 82, 83, 84, 85, 86, 3, 4, 5, 7, 12, 13, 14, 15, 16, 17, 18, 19, 20, 21, 22, 23, 24, 25, 26, 27, 28, 29, 30, 31, 32, 33, 34, 35, 36, 37, 38, 39, 40, 41, 42, 43, 44, 45, 46, 47, 48, 49, 50, 51, 52, 53, 54, 55, 56, 57, 58, 59, 60, 87, 88, 89, 90, 125, 126, 127, 128, 129, 130, 131, 132, 133, 134, 135, 136, 137, 138, 139, 140, 141, 142, 143, 144, 145, 146, 147] rfl (by decide +kernel)
set_option maxRecDepth 20000 in
theorem gX2_isItemTaken_X2_isDelegateTaken : GoodIn wsX2_isItemTaken (wsV RX2 56 RX2 yX2_isDelegateTaken wsX2_isDelegateTaken) := goodIn_app (goodIn_of _ (by decide +kernel)) ggX2_isItemTaken_X2_isDelegateTaken
theorem dX2_isItemTaken_0 : decode cX2_isItemTaken 0 = .ok (.aload_n 0, 1) := by decide +kernel
theorem dX2_isItemTaken_1 : decode cX2_isItemTaken 1 = .ok (.ldc 35, 2) := by decide +kernel
theorem dX2_isItemTaken_3 : decode cX2_isItemTaken 3 = .ok (.invokevirtual 37, 3) := by decide +kernel
theorem dX2_isItemTaken_6 : decode cX2_isItemTaken 6 = .ok (.ifCond .eq 26, 3) := by decide +kernel
theorem dX2_isItemTaken_9 : decode cX2_isItemTaken 9 = .ok (.aload_n 1, 1) := by decide +kernel
theorem dX2_isItemTaken_10 : decode cX2_isItemTaken 10 = .ok (.getfield 41, 3) := by decide +kernel
theorem dX2_isItemTaken_13 : decode cX2_isItemTaken 13 = .ok (.bipush 8, 2) := by decide +kernel
theorem dX2_isItemTaken_15 : decode cX2_isItemTaken 15 = .ok (.if_icmp .ge 15, 3) := by decide +kernel
theorem dX2_isItemTaken_18 : decode cX2_isItemTaken 18 = .ok (.aload_n 0, 1) := by decide +kernel
theorem dX2_isItemTaken_19 : decode cX2_isItemTaken 19 = .ok (.aload_n 1, 1) := by decide +kernel
theorem dX2_isItemTaken_20 : decode cX2_isItemTaken 20 = .ok (.invokevirtual 46, 3) := by decide +kernel
theorem dX2_isItemTaken_23 : decode cX2_isItemTaken 23 = .ok (.ifCond .eq 7, 3) := by decide +kernel
theorem dX2_isItemTaken_26 : decode cX2_isItemTaken 26 = .ok (.iconst 1, 1) := by decide +kernel
theorem dX2_isItemTaken_27 : decode cX2_isItemTaken 27 = .ok (.goto 4, 3) := by decide +kernel
theorem dX2_isItemTaken_30 : decode cX2_isItemTaken 30 = .ok (.iconst 0, 1) := by decide +kernel
theorem dX2_isItemTaken_31 : decode cX2_isItemTaken 31 = .ok (.ireturn, 1) := by decide +kernel
theorem dX2_isItemTaken_32 : decode cX2_isItemTaken 32 = .ok (.aload_n 0, 1) := by decide +kernel
theorem dX2_isItemTaken_33 : decode cX2_isItemTaken 33 = .ok (.invokevirtual 49, 3) := by decide +kernel
theorem dX2_isItemTaken_36 : decode cX2_isItemTaken 36 = .ok (.istore_n 2, 1) := by decide +kernel
theorem dX2_isItemTaken_37 : decode cX2_isItemTaken 37 = .ok (.iload_n 2, 1) := by decide +kernel
theorem dX2_isItemTaken_38 : decode cX2_isItemTaken 38 = .ok (.ifCond .lt 25, 3) := by decide +kernel
theorem dX2_isItemTaken_41 : decode cX2_isItemTaken 41 = .ok (.aload_n 1, 1) := by decide +kernel
theorem dX2_isItemTaken_42 : decode cX2_isItemTaken 42 = .ok (.getfield 53, 3) := by decide +kernel
theorem dX2_isItemTaken_45 : decode cX2_isItemTaken 45 = .ok (.bipush 8, 2) := by decide +kernel
theorem dX2_isItemTaken_47 : decode cX2_isItemTaken 47 = .ok (.if_icmp .ge 16, 3) := by decide +kernel
theorem dX2_isItemTaken_50 : decode cX2_isItemTaken 50 = .ok (.aload_n 0, 1) := by decide +kernel
theorem dX2_isItemTaken_51 : decode cX2_isItemTaken 51 = .ok (.aload_n 1, 1) := by decide +kernel
theorem dX2_isItemTaken_52 : decode cX2_isItemTaken 52 = .ok (.iload_n 2, 1) := by decide +kernel
theorem dX2_isItemTaken_53 : decode cX2_isItemTaken 53 = .ok (.invokevirtual 56, 3) := by decide +kernel
theorem dX2_isItemTaken_56 : decode cX2_isItemTaken 56 = .ok (.ifCond .eq 7, 3) := by decide +kernel
theorem dX2_isItemTaken_59 : decode cX2_isItemTaken 59 = .ok (.iconst 1, 1) := by decide +kernel
theorem dX2_isItemTaken_60 : decode cX2_isItemTaken 60 = .ok (.goto 4, 3) := by decide +kernel
theorem dX2_isItemTaken_63 : decode cX2_isItemTaken 63 = .ok (.iconst 0, 1) := by decide +kernel
theorem dX2_isItemTaken_64 : decode cX2_isItemTaken 64 = .ok (.ireturn, 1) := by decide +kernel
set_option maxRecDepth 20000 in
theorem ggX2_isDelegateTaken_X0_addDelegate : GoodIn wsX2_isDelegateTaken wsX0_addDelegate := goodIn_r _ [7, 8, 9, 10, 11, 12, 13, 102, 103, 104, 105, 106, 107, 108, 109, 110, 111, 112, 113] rfl (by decide +kernel)
set_option maxRecDepth 20000 in
theorem gX2_isDelegateTaken_X0_addDelegate : GoodIn wsX2_isDelegateTaken (wsV RX2 60 RX0 yX0_addDelegate wsX0_addDelegate) := goodIn_app (goodIn_of _ (by decide +kernel)) ggX2_isDelegateTaken_X0_addDelegate
set_option maxRecDepth 20000 in
theorem ggX2_isDelegateTaken_X2_advance : GoodIn wsX2_isDelegateTaken wsX2_advance := goodIn_r _ [18, 19, 20, 21, 22, 23, 2, 24, 25, 26, 17, 27, 28, 29, 30, 31, 32, 33, 34, 35, 36, 37, 38, 39, 114, 115, 116, 117, 118, 119] rfl (by decide +kernel)
set_option maxRecDepth 20000 in
theorem gX2_isDelegateTaken_X2_advance : GoodIn wsX2_isDelegateTaken (wsV RX2 22 RX2 yX2_advance wsX2_advance) := goodIn_app (goodIn_of _ (by decide +kernel)) ggX2_isDelegateTaken_X2_advance
set_option maxRecDepth 20000 in
theorem ggX2_isDelegateTaken_X2_isWord : GoodIn wsX2_isDelegateTaken wsX2_isWord := goodIn_r _ [43, 23, 19, 20, 22, 44, 45, 46, 47, 48, 49, 50, 51, 52, 53, 54, 55, 56, 57, 58, 59, 60, 61, 62, 63, 64, 65, 66, 67, 68, 69, 70, 71, 72, 73, 74, 75, 76, 77, 78, 79, 80, 81, 82, 83, 84, 85, 86, 87, 88, 89, 90, 91, 92, 114, 115, 116, 117, 118, 119] rfl (by decide +kernel)
set_option maxRecDepth 20000 in
theorem gX2_isDelegateTaken_X2_isWord : GoodIn wsX2_isDelegateTaken (wsV RX2 37 RX2 yX2_isWord wsX2_isWord) := goodIn_app (goodIn_of _ (by decide +kernel)) ggX2_isDelegateTaken_X2_isWord
set_option maxRecDepth 20000 in
theorem ggX2_isDelegateTaken_X2_isNumberBelow : GoodIn wsX2_isDelegateTaken wsX2_isNumberBelow := goodIn_r _ [96, 23, 2, 114, 115, 116, 117, 118, 119] rfl (by decide +kernel)
set_option maxRecDepth 20000 in
theorem gX2_isDelegateTaken_X2_isNumberBelow : GoodIn wsX2_isDelegateTaken (wsV RX2 66 RX2 yX2_isNumberBelow wsX2_isNumberBelow) := goodIn_app (goodIn_of _ (by decide +kernel)) ggX2_isDelegateTaken_X2_isNumberBelow
set_option maxRecDepth 20000 in
theorem ggX2_isDelegateTaken_X2_areTonguesTaken : GoodIn wsX2_isDelegateTaken wsX2_areTonguesTaken := goodIn_r _ [100, 23, 2, 101, 93, 94, 95, 17, 96, 14, 15, 16, 18, 19, 20, 21, 22, 24, 25, 26, 27, 28, 29, 30, 31, 32, 33, 34, 35, 36, 37, 38, 39, 114, 115, 116, 117, 118, 119, 102, 103, 104, 105, 106, 107, 108, 109, 110, 111, 112, 113] rfl (by decide +kernel)
set_option maxRecDepth 20000 in
theorem gX2_isDelegateTaken_X2_areTonguesTaken : GoodIn wsX2_isDelegateTaken (wsV RX2 77 RX2 yX2_areTonguesTaken wsX2_areTonguesTaken) := goodIn_app (goodIn_of _ (by decide +kernel)) ggX2_isDelegateTaken_X2_areTonguesTaken
theorem dX2_isDelegateTaken_0 : decode cX2_isDelegateTaken 0 = .ok (.aload_n 1, 1) := by decide +kernel
theorem dX2_isDelegateTaken_1 : decode cX2_isDelegateTaken 1 = .ok (.iload_n 2, 1) := by decide +kernel
theorem dX2_isDelegateTaken_2 : decode cX2_isDelegateTaken 2 = .ok (.invokevirtual 60, 3) := by decide +kernel
theorem dX2_isDelegateTaken_5 : decode cX2_isDelegateTaken 5 = .ok (.istore_n 3, 1) := by decide +kernel
theorem dX2_isDelegateTaken_6 : decode cX2_isDelegateTaken 6 = .ok (.aload_n 0, 1) := by decide +kernel
theorem dX2_isDelegateTaken_7 : decode cX2_isDelegateTaken 7 = .ok (.invokevirtual 22, 3) := by decide +kernel
theorem dX2_isDelegateTaken_10 : decode cX2_isDelegateTaken 10 = .ok (.aload_n 0, 1) := by decide +kernel
theorem dX2_isDelegateTaken_11 : decode cX2_isDelegateTaken 11 = .ok (.ldc 64, 2) := by decide +kernel
theorem dX2_isDelegateTaken_13 : decode cX2_isDelegateTaken 13 = .ok (.invokevirtual 37, 3) := by decide +kernel
theorem dX2_isDelegateTaken_16 : decode cX2_isDelegateTaken 16 = .ok (.ifCond .eq 32, 3) := by decide +kernel
theorem dX2_isDelegateTaken_19 : decode cX2_isDelegateTaken 19 = .ok (.aload_n 0, 1) := by decide +kernel
theorem dX2_isDelegateTaken_20 : decode cX2_isDelegateTaken 20 = .ok (.invokevirtual 22, 3) := by decide +kernel
theorem dX2_isDelegateTaken_23 : decode cX2_isDelegateTaken 23 = .ok (.aload_n 0, 1) := by decide +kernel
theorem dX2_isDelegateTaken_24 : decode cX2_isDelegateTaken 24 = .ok (.bipush 21, 2) := by decide +kernel
theorem dX2_isDelegateTaken_26 : decode cX2_isDelegateTaken 26 = .ok (.invokevirtual 66, 3) := by decide +kernel
theorem dX2_isDelegateTaken_29 : decode cX2_isDelegateTaken 29 = .ok (.ifCond .ne 5, 3) := by decide +kernel
theorem dX2_isDelegateTaken_32 : decode cX2_isDelegateTaken 32 = .ok (.iconst 0, 1) := by decide +kernel
theorem dX2_isDelegateTaken_33 : decode cX2_isDelegateTaken 33 = .ok (.ireturn, 1) := by decide +kernel
theorem dX2_isDelegateTaken_34 : decode cX2_isDelegateTaken 34 = .ok (.aload_n 1, 1) := by decide +kernel
theorem dX2_isDelegateTaken_35 : decode cX2_isDelegateTaken 35 = .ok (.getfield 70, 3) := by decide +kernel
theorem dX2_isDelegateTaken_38 : decode cX2_isDelegateTaken 38 = .ok (.iload_n 3, 1) := by decide +kernel
theorem dX2_isDelegateTaken_39 : decode cX2_isDelegateTaken 39 = .ok (.aload_n 0, 1) := by decide +kernel
theorem dX2_isDelegateTaken_40 : decode cX2_isDelegateTaken 40 = .ok (.getfield 72, 3) := by decide +kernel
theorem dX2_isDelegateTaken_43 : decode cX2_isDelegateTaken 43 = .ok (.iastore, 1) := by decide +kernel
theorem dX2_isDelegateTaken_44 : decode cX2_isDelegateTaken 44 = .ok (.aload_n 0, 1) := by decide +kernel
theorem dX2_isDelegateTaken_45 : decode cX2_isDelegateTaken 45 = .ok (.invokevirtual 22, 3) := by decide +kernel
theorem dX2_isDelegateTaken_48 : decode cX2_isDelegateTaken 48 = .ok (.aload_n 0, 1) := by decide +kernel
theorem dX2_isDelegateTaken_49 : decode cX2_isDelegateTaken 49 = .ok (.ldc 75, 2) := by decide +kernel
theorem dX2_isDelegateTaken_51 : decode cX2_isDelegateTaken 51 = .ok (.invokevirtual 37, 3) := by decide +kernel
theorem dX2_isDelegateTaken_54 : decode cX2_isDelegateTaken 54 = .ok (.ifCond .eq 14, 3) := by decide +kernel
theorem dX2_isDelegateTaken_57 : decode cX2_isDelegateTaken 57 = .ok (.aload_n 0, 1) := by decide +kernel
theorem dX2_isDelegateTaken_58 : decode cX2_isDelegateTaken 58 = .ok (.invokevirtual 22, 3) := by decide +kernel
theorem dX2_isDelegateTaken_61 : decode cX2_isDelegateTaken 61 = .ok (.aload_n 0, 1) := by decide +kernel
theorem dX2_isDelegateTaken_62 : decode cX2_isDelegateTaken 62 = .ok (.aload_n 1, 1) := by decide +kernel
theorem dX2_isDelegateTaken_63 : decode cX2_isDelegateTaken 63 = .ok (.iload_n 3, 1) := by decide +kernel
theorem dX2_isDelegateTaken_64 : decode cX2_isDelegateTaken 64 = .ok (.invokevirtual 77, 3) := by decide +kernel
theorem dX2_isDelegateTaken_67 : decode cX2_isDelegateTaken 67 = .ok (.ireturn, 1) := by decide +kernel
theorem dX2_isDelegateTaken_68 : decode cX2_isDelegateTaken 68 = .ok (.iconst 1, 1) := by decide +kernel
theorem dX2_isDelegateTaken_69 : decode cX2_isDelegateTaken 69 = .ok (.ireturn, 1) := by decide +kernel
set_option maxRecDepth 20000 in
theorem ggX2_areTonguesTaken_X2_isNumberBelow : GoodIn wsX2_areTonguesTaken wsX2_isNumberBelow := goodIn_r _ [8, 1, 2, 33, 34, 35, 36, 37, 38] rfl (by decide +kernel)
set_option maxRecDepth 20000 in
theorem gX2_areTonguesTaken_X2_isNumberBelow : GoodIn wsX2_areTonguesTaken (wsV RX2 66 RX2 yX2_isNumberBelow wsX2_isNumberBelow) := goodIn_app (goodIn_of _ (by decide +kernel)) ggX2_areTonguesTaken_X2_isNumberBelow
set_option maxRecDepth 20000 in
theorem ggX2_areTonguesTaken_X2_advance : GoodIn wsX2_areTonguesTaken wsX2_advance := goodIn_r _ [12, 13, 14, 15, 16, 1, 2, 17, 18, 19, 7, 20, 21, 22, 23, 24, 25, 26, 27, 28, 29, 30, 31, 32, 33, 34, 35, 36, 37, 38] rfl (by decide +kernel)
set_option maxRecDepth 20000 in
theorem gX2_areTonguesTaken_X2_advance : GoodIn wsX2_areTonguesTaken (wsV RX2 22 RX2 yX2_advance wsX2_advance) := goodIn_app (goodIn_of _ (by decide +kernel)) ggX2_areTonguesTaken_X2_advance
theorem dX2_areTonguesTaken_0 : decode cX2_areTonguesTaken 0 = .ok (.iconst 0, 1) := by decide +kernel
theorem dX2_areTonguesTaken_1 : decode cX2_areTonguesTaken 1 = .ok (.istore_n 3, 1) := by decide +kernel
theorem dX2_areTonguesTaken_2 : decode cX2_areTonguesTaken 2 = .ok (.iconst 0, 1) := by decide +kernel
theorem dX2_areTonguesTaken_3 : decode cX2_areTonguesTaken 3 = .ok (.istore 4, 2) := by decide +kernel
theorem dX2_areTonguesTaken_5 : decode cX2_areTonguesTaken 5 = .ok (.iload 4, 2) := by decide +kernel
theorem dX2_areTonguesTaken_7 : decode cX2_areTonguesTaken 7 = .ok (.iconst 4, 1) := by decide +kernel
theorem dX2_areTonguesTaken_8 : decode cX2_areTonguesTaken 8 = .ok (.if_icmp .ge 48, 3) := by decide +kernel
theorem dX2_areTonguesTaken_11 : decode cX2_areTonguesTaken 11 = .ok (.iload 4, 2) := by decide +kernel
theorem dX2_areTonguesTaken_13 : decode cX2_areTonguesTaken 13 = .ok (.ifCond .le 14, 3) := by decide +kernel
theorem dX2_areTonguesTaken_16 : decode cX2_areTonguesTaken 16 = .ok (.aload_n 0, 1) := by decide +kernel
theorem dX2_areTonguesTaken_17 : decode cX2_areTonguesTaken 17 = .ok (.getfield 29, 3) := by decide +kernel
theorem dX2_areTonguesTaken_20 : decode cX2_areTonguesTaken 20 = .ok (.iconst 2, 1) := by decide +kernel
theorem dX2_areTonguesTaken_21 : decode cX2_areTonguesTaken 21 = .ok (.if_icmp .eq 6, 3) := by decide +kernel
theorem dX2_areTonguesTaken_24 : decode cX2_areTonguesTaken 24 = .ok (.goto 32, 3) := by decide +kernel
theorem dX2_areTonguesTaken_27 : decode cX2_areTonguesTaken 27 = .ok (.aload_n 0, 1) := by decide +kernel
theorem dX2_areTonguesTaken_28 : decode cX2_areTonguesTaken 28 = .ok (.iconst 4, 1) := by decide +kernel
theorem dX2_areTonguesTaken_29 : decode cX2_areTonguesTaken 29 = .ok (.invokevirtual 66, 3) := by decide +kernel
theorem dX2_areTonguesTaken_32 : decode cX2_areTonguesTaken 32 = .ok (.ifCond .ne 5, 3) := by decide +kernel
theorem dX2_areTonguesTaken_35 : decode cX2_areTonguesTaken 35 = .ok (.iconst 0, 1) := by decide +kernel
theorem dX2_areTonguesTaken_36 : decode cX2_areTonguesTaken 36 = .ok (.ireturn, 1) := by decide +kernel
theorem dX2_areTonguesTaken_37 : decode cX2_areTonguesTaken 37 = .ok (.iload_n 3, 1) := by decide +kernel
theorem dX2_areTonguesTaken_38 : decode cX2_areTonguesTaken 38 = .ok (.iconst 1, 1) := by decide +kernel
theorem dX2_areTonguesTaken_39 : decode cX2_areTonguesTaken 39 = .ok (.aload_n 0, 1) := by decide +kernel
theorem dX2_areTonguesTaken_40 : decode cX2_areTonguesTaken 40 = .ok (.getfield 72, 3) := by decide +kernel
theorem dX2_areTonguesTaken_43 : decode cX2_areTonguesTaken 43 = .ok (.ishl, 1) := by decide +kernel
theorem dX2_areTonguesTaken_44 : decode cX2_areTonguesTaken 44 = .ok (.ior, 1) := by decide +kernel
theorem dX2_areTonguesTaken_45 : decode cX2_areTonguesTaken 45 = .ok (.istore_n 3, 1) := by decide +kernel
theorem dX2_areTonguesTaken_46 : decode cX2_areTonguesTaken 46 = .ok (.aload_n 0, 1) := by decide +kernel
theorem dX2_areTonguesTaken_47 : decode cX2_areTonguesTaken 47 = .ok (.invokevirtual 22, 3) := by decide +kernel
theorem dX2_areTonguesTaken_50 : decode cX2_areTonguesTaken 50 = .ok (.iinc 4 1, 3) := by decide +kernel
theorem dX2_areTonguesTaken_53 : decode cX2_areTonguesTaken 53 = .ok (.goto (-48), 3) := by decide +kernel
theorem dX2_areTonguesTaken_56 : decode cX2_areTonguesTaken 56 = .ok (.aload_n 1, 1) := by decide +kernel
theorem dX2_areTonguesTaken_57 : decode cX2_areTonguesTaken 57 = .ok (.getfield 80, 3) := by decide +kernel
theorem dX2_areTonguesTaken_60 : decode cX2_areTonguesTaken 60 = .ok (.iload_n 2, 1) := by decide +kernel
theorem dX2_areTonguesTaken_61 : decode cX2_areTonguesTaken 61 = .ok (.iload_n 3, 1) := by decide +kernel
theorem dX2_areTonguesTaken_62 : decode cX2_areTonguesTaken 62 = .ok (.iastore, 1) := by decide +kernel
theorem dX2_areTonguesTaken_63 : decode cX2_areTonguesTaken 63 = .ok (.iconst 1, 1) := by decide +kernel
theorem dX2_areTonguesTaken_64 : decode cX2_areTonguesTaken 64 = .ok (.ireturn, 1) := by decide +kernel
set_option maxRecDepth 20000 in
theorem ggX2_isSpeechTaken_X2_advance : GoodIn wsX2_isSpeechTaken wsX2_advance := goodIn_r _ [7, 8, 9, 10, 11, 12, 2, 13, 14, 15, 6, 16, 17, 18, 19, 20, 21, 22, 23, 24, 25, 26, 27, 28, 113, 114, 115, 116, 117, 118] rfl (by decide +kernel)
set_option maxRecDepth 20000 in
theorem gX2_isSpeechTaken_X2_advance : GoodIn wsX2_isSpeechTaken (wsV RX2 22 RX2 yX2_advance wsX2_advance) := goodIn_app (goodIn_of _ (by decide +kernel)) ggX2_isSpeechTaken_X2_advance
set_option maxRecDepth 20000 in
theorem ggX2_isSpeechTaken_X2_isNumberBelow : GoodIn wsX2_isSpeechTaken wsX2_isNumberBelow := goodIn_r _ [32, 12, 2, 113, 114, 115, 116, 117, 118] rfl (by decide +kernel)
set_option maxRecDepth 20000 in
theorem gX2_isSpeechTaken_X2_isNumberBelow : GoodIn wsX2_isSpeechTaken (wsV RX2 66 RX2 yX2_isNumberBelow wsX2_isNumberBelow) := goodIn_app (goodIn_of _ (by decide +kernel)) ggX2_isSpeechTaken_X2_isNumberBelow
set_option maxRecDepth 20000 in
theorem ggX2_isSpeechTaken_X0_addSpeech : GoodIn wsX2_isSpeechTaken wsX0_addSpeech := goodIn_r _ [37, 38, 39, 40, 41, 42, 101, 102, 103, 104, 105, 106, 107, 108, 109, 110, 111, 112] rfl (by decide +kernel)
set_option maxRecDepth 20000 in
theorem gX2_isSpeechTaken_X0_addSpeech : GoodIn wsX2_isSpeechTaken (wsV RX2 83 RX0 yX0_addSpeech wsX0_addSpeech) := goodIn_app (goodIn_of _ (by decide +kernel)) ggX2_isSpeechTaken_X0_addSpeech
set_option maxRecDepth 20000 in
theorem ggX2_isSpeechTaken_X2_isWord : GoodIn wsX2_isSpeechTaken wsX2_isWord := goodIn_r _ [46, 12, 8, 9, 11, 47, 48, 49, 50, 51, 52, 53, 54, 55, 56, 57, 58, 59, 60, 61, 62, 63, 64, 65, 66, 67, 68, 69, 70, 71, 72, 73, 74, 75, 76, 77, 78, 79, 80, 81, 82, 83, 84, 85, 86, 87, 88, 89, 90, 91, 92, 93, 94, 95, 113, 114, 115, 116, 117, 118] rfl (by decide +kernel)
set_option maxRecDepth 20000 in
theorem gX2_isSpeechTaken_X2_isWord : GoodIn wsX2_isSpeechTaken (wsV RX2 37 RX2 yX2_isWord wsX2_isWord) := goodIn_app (goodIn_of _ (by decide +kernel)) ggX2_isSpeechTaken_X2_isWord
set_option maxRecDepth 20000 in
theorem ggX2_isSpeechTaken_X2_isAimTaken : GoodIn wsX2_isSpeechTaken wsX2_isAimTaken := goodIn_r _ [99, 1, 100, 2, 3, 4, 5, 6, 7, 8, 9, 10, 11, 12, 13, 14, 15, 16, 17, 18, 19, 20, 21, 22, 23, 24, 25, 26, 27, 28, 29, 30, 31, 32, 101, 102, 103, 104, 105, 106, 107, 108, 109, 110, 111, 112, 113, 114, 115, 116, 117, 118] rfl (by decide +kernel)
set_option maxRecDepth 20000 in
theorem gX2_isSpeechTaken_X2_isAimTaken : GoodIn wsX2_isSpeechTaken (wsV RX2 89 RX2 yX2_isAimTaken wsX2_isAimTaken) := goodIn_app (goodIn_of _ (by decide +kernel)) ggX2_isSpeechTaken_X2_isAimTaken
theorem dX2_isSpeechTaken_0 : decode cX2_isSpeechTaken 0 = .ok (.aload_n 0, 1) := by decide +kernel
theorem dX2_isSpeechTaken_1 : decode cX2_isSpeechTaken 1 = .ok (.invokevirtual 22, 3) := by decide +kernel
theorem dX2_isSpeechTaken_4 : decode cX2_isSpeechTaken 4 = .ok (.aload_n 0, 1) := by decide +kernel
theorem dX2_isSpeechTaken_5 : decode cX2_isSpeechTaken 5 = .ok (.aload_n 1, 1) := by decide +kernel
theorem dX2_isSpeechTaken_6 : decode cX2_isSpeechTaken 6 = .ok (.getfield 53, 3) := by decide +kernel
theorem dX2_isSpeechTaken_9 : decode cX2_isSpeechTaken 9 = .ok (.invokevirtual 66, 3) := by decide +kernel
theorem dX2_isSpeechTaken_12 : decode cX2_isSpeechTaken 12 = .ok (.ifCond .ne 5, 3) := by decide +kernel
theorem dX2_isSpeechTaken_15 : decode cX2_isSpeechTaken 15 = .ok (.iconst 0, 1) := by decide +kernel
theorem dX2_isSpeechTaken_16 : decode cX2_isSpeechTaken 16 = .ok (.ireturn, 1) := by decide +kernel
theorem dX2_isSpeechTaken_17 : decode cX2_isSpeechTaken 17 = .ok (.aload_n 0, 1) := by decide +kernel
theorem dX2_isSpeechTaken_18 : decode cX2_isSpeechTaken 18 = .ok (.getfield 72, 3) := by decide +kernel
theorem dX2_isSpeechTaken_21 : decode cX2_isSpeechTaken 21 = .ok (.istore_n 2, 1) := by decide +kernel
theorem dX2_isSpeechTaken_22 : decode cX2_isSpeechTaken 22 = .ok (.aload_n 0, 1) := by decide +kernel
theorem dX2_isSpeechTaken_23 : decode cX2_isSpeechTaken 23 = .ok (.invokevirtual 22, 3) := by decide +kernel
theorem dX2_isSpeechTaken_26 : decode cX2_isSpeechTaken 26 = .ok (.aload_n 0, 1) := by decide +kernel
theorem dX2_isSpeechTaken_27 : decode cX2_isSpeechTaken 27 = .ok (.iconst 4, 1) := by decide +kernel
theorem dX2_isSpeechTaken_28 : decode cX2_isSpeechTaken 28 = .ok (.invokevirtual 66, 3) := by decide +kernel
theorem dX2_isSpeechTaken_31 : decode cX2_isSpeechTaken 31 = .ok (.ifCond .ne 5, 3) := by decide +kernel
theorem dX2_isSpeechTaken_34 : decode cX2_isSpeechTaken 34 = .ok (.iconst 0, 1) := by decide +kernel
theorem dX2_isSpeechTaken_35 : decode cX2_isSpeechTaken 35 = .ok (.ireturn, 1) := by decide +kernel
theorem dX2_isSpeechTaken_36 : decode cX2_isSpeechTaken 36 = .ok (.aload_n 0, 1) := by decide +kernel
theorem dX2_isSpeechTaken_37 : decode cX2_isSpeechTaken 37 = .ok (.getfield 72, 3) := by decide +kernel
theorem dX2_isSpeechTaken_40 : decode cX2_isSpeechTaken 40 = .ok (.istore_n 3, 1) := by decide +kernel
theorem dX2_isSpeechTaken_41 : decode cX2_isSpeechTaken 41 = .ok (.aload_n 0, 1) := by decide +kernel
theorem dX2_isSpeechTaken_42 : decode cX2_isSpeechTaken 42 = .ok (.invokevirtual 22, 3) := by decide +kernel
theorem dX2_isSpeechTaken_45 : decode cX2_isSpeechTaken 45 = .ok (.aload_n 0, 1) := by decide +kernel
theorem dX2_isSpeechTaken_46 : decode cX2_isSpeechTaken 46 = .ok (.bipush 100, 2) := by decide +kernel
theorem dX2_isSpeechTaken_48 : decode cX2_isSpeechTaken 48 = .ok (.invokevirtual 66, 3) := by decide +kernel
theorem dX2_isSpeechTaken_51 : decode cX2_isSpeechTaken 51 = .ok (.ifCond .ne 5, 3) := by decide +kernel
theorem dX2_isSpeechTaken_54 : decode cX2_isSpeechTaken 54 = .ok (.iconst 0, 1) := by decide +kernel
theorem dX2_isSpeechTaken_55 : decode cX2_isSpeechTaken 55 = .ok (.ireturn, 1) := by decide +kernel
theorem dX2_isSpeechTaken_56 : decode cX2_isSpeechTaken 56 = .ok (.aload_n 1, 1) := by decide +kernel
theorem dX2_isSpeechTaken_57 : decode cX2_isSpeechTaken 57 = .ok (.iload_n 2, 1) := by decide +kernel
theorem dX2_isSpeechTaken_58 : decode cX2_isSpeechTaken 58 = .ok (.iload_n 3, 1) := by decide +kernel
theorem dX2_isSpeechTaken_59 : decode cX2_isSpeechTaken 59 = .ok (.iconst (-1), 1) := by decide +kernel
theorem dX2_isSpeechTaken_60 : decode cX2_isSpeechTaken 60 = .ok (.aload_n 0, 1) := by decide +kernel
theorem dX2_isSpeechTaken_61 : decode cX2_isSpeechTaken 61 = .ok (.getfield 72, 3) := by decide +kernel
theorem dX2_isSpeechTaken_64 : decode cX2_isSpeechTaken 64 = .ok (.invokevirtual 83, 3) := by decide +kernel
theorem dX2_isSpeechTaken_67 : decode cX2_isSpeechTaken 67 = .ok (.istore 4, 2) := by decide +kernel
theorem dX2_isSpeechTaken_69 : decode cX2_isSpeechTaken 69 = .ok (.aload_n 0, 1) := by decide +kernel
theorem dX2_isSpeechTaken_70 : decode cX2_isSpeechTaken 70 = .ok (.invokevirtual 22, 3) := by decide +kernel
theorem dX2_isSpeechTaken_73 : decode cX2_isSpeechTaken 73 = .ok (.aload_n 0, 1) := by decide +kernel
theorem dX2_isSpeechTaken_74 : decode cX2_isSpeechTaken 74 = .ok (.ldc 87, 2) := by decide +kernel
theorem dX2_isSpeechTaken_76 : decode cX2_isSpeechTaken 76 = .ok (.invokevirtual 37, 3) := by decide +kernel
theorem dX2_isSpeechTaken_79 : decode cX2_isSpeechTaken 79 = .ok (.ifCond .eq 13, 3) := by decide +kernel
theorem dX2_isSpeechTaken_82 : decode cX2_isSpeechTaken 82 = .ok (.aload_n 0, 1) := by decide +kernel
theorem dX2_isSpeechTaken_83 : decode cX2_isSpeechTaken 83 = .ok (.aload_n 1, 1) := by decide +kernel
theorem dX2_isSpeechTaken_84 : decode cX2_isSpeechTaken 84 = .ok (.iload 4, 2) := by decide +kernel
theorem dX2_isSpeechTaken_86 : decode cX2_isSpeechTaken 86 = .ok (.invokevirtual 89, 3) := by decide +kernel
theorem dX2_isSpeechTaken_89 : decode cX2_isSpeechTaken 89 = .ok (.ifCond .eq 7, 3) := by decide +kernel
theorem dX2_isSpeechTaken_92 : decode cX2_isSpeechTaken 92 = .ok (.iconst 1, 1) := by decide +kernel
theorem dX2_isSpeechTaken_93 : decode cX2_isSpeechTaken 93 = .ok (.goto 4, 3) := by decide +kernel
theorem dX2_isSpeechTaken_96 : decode cX2_isSpeechTaken 96 = .ok (.iconst 0, 1) := by decide +kernel
theorem dX2_isSpeechTaken_97 : decode cX2_isSpeechTaken 97 = .ok (.ireturn, 1) := by decide +kernel
set_option maxRecDepth 20000 in
theorem ggX2_isAimTaken_X2_advance : GoodIn wsX2_isAimTaken wsX2_advance := goodIn_r _ [8, 9, 10, 11, 12, 13, 3, 14, 15, 16, 7, 17, 18, 19, 20, 21, 22, 23, 24, 25, 26, 27, 28, 29, 46, 47, 48, 49, 50, 51] rfl (by decide +kernel)
set_option maxRecDepth 20000 in
theorem gX2_isAimTaken_X2_advance : GoodIn wsX2_isAimTaken (wsV RX2 22 RX2 yX2_advance wsX2_advance) := goodIn_app (goodIn_of _ (by decide +kernel)) ggX2_isAimTaken_X2_advance
set_option maxRecDepth 20000 in
theorem ggX2_isAimTaken_X2_isNumberBelow : GoodIn wsX2_isAimTaken wsX2_isNumberBelow := goodIn_r _ [33, 13, 3, 46, 47, 48, 49, 50, 51] rfl (by decide +kernel)
set_option maxRecDepth 20000 in
theorem gX2_isAimTaken_X2_isNumberBelow : GoodIn wsX2_isAimTaken (wsV RX2 66 RX2 yX2_isNumberBelow wsX2_isNumberBelow) := goodIn_app (goodIn_of _ (by decide +kernel)) ggX2_isAimTaken_X2_isNumberBelow
theorem dX2_isAimTaken_0 : decode cX2_isAimTaken 0 = .ok (.aload_n 0, 1) := by decide +kernel
theorem dX2_isAimTaken_1 : decode cX2_isAimTaken 1 = .ok (.invokevirtual 22, 3) := by decide +kernel
theorem dX2_isAimTaken_4 : decode cX2_isAimTaken 4 = .ok (.aload_n 0, 1) := by decide +kernel
theorem dX2_isAimTaken_5 : decode cX2_isAimTaken 5 = .ok (.aload_n 1, 1) := by decide +kernel
theorem dX2_isAimTaken_6 : decode cX2_isAimTaken 6 = .ok (.getfield 53, 3) := by decide +kernel
theorem dX2_isAimTaken_9 : decode cX2_isAimTaken 9 = .ok (.invokevirtual 66, 3) := by decide +kernel
theorem dX2_isAimTaken_12 : decode cX2_isAimTaken 12 = .ok (.ifCond .ne 5, 3) := by decide +kernel
theorem dX2_isAimTaken_15 : decode cX2_isAimTaken 15 = .ok (.iconst 0, 1) := by decide +kernel
theorem dX2_isAimTaken_16 : decode cX2_isAimTaken 16 = .ok (.ireturn, 1) := by decide +kernel
theorem dX2_isAimTaken_17 : decode cX2_isAimTaken 17 = .ok (.aload_n 1, 1) := by decide +kernel
theorem dX2_isAimTaken_18 : decode cX2_isAimTaken 18 = .ok (.getfield 92, 3) := by decide +kernel
theorem dX2_isAimTaken_21 : decode cX2_isAimTaken 21 = .ok (.iload_n 2, 1) := by decide +kernel
theorem dX2_isAimTaken_22 : decode cX2_isAimTaken 22 = .ok (.aload_n 0, 1) := by decide +kernel
theorem dX2_isAimTaken_23 : decode cX2_isAimTaken 23 = .ok (.getfield 72, 3) := by decide +kernel
theorem dX2_isAimTaken_26 : decode cX2_isAimTaken 26 = .ok (.iastore, 1) := by decide +kernel
theorem dX2_isAimTaken_27 : decode cX2_isAimTaken 27 = .ok (.aload_n 0, 1) := by decide +kernel
theorem dX2_isAimTaken_28 : decode cX2_isAimTaken 28 = .ok (.invokevirtual 22, 3) := by decide +kernel
theorem dX2_isAimTaken_31 : decode cX2_isAimTaken 31 = .ok (.iconst 1, 1) := by decide +kernel
theorem dX2_isAimTaken_32 : decode cX2_isAimTaken 32 = .ok (.ireturn, 1) := by decide +kernel
set_option maxRecDepth 20000 in
theorem ggX2_kindNamed_X2_isWord : GoodIn wsX2_kindNamed wsX2_isWord := goodIn_r _ [5, 6, 7, 8, 9, 10, 11, 12, 13, 14, 15, 16, 17, 18, 19, 20, 21, 22, 23, 24, 25, 26, 27, 28, 29, 30, 31, 32, 33, 34, 35, 36, 37, 38, 39, 40, 41, 42, 43, 44, 45, 46, 47, 48, 49, 50, 51, 52, 53, 54, 55, 56, 57, 58, 59, 60, 61, 62, 63, 64] rfl (by decide +kernel)
set_option maxRecDepth 20000 in
theorem gX2_kindNamed_X2_isWord : GoodIn wsX2_kindNamed (wsV RX2 37 RX2 yX2_isWord wsX2_isWord) := goodIn_app (goodIn_of _ (by decide +kernel)) ggX2_kindNamed_X2_isWord
theorem dX2_kindNamed_0 : decode cX2_kindNamed 0 = .ok (.aload_n 0, 1) := by decide +kernel
theorem dX2_kindNamed_1 : decode cX2_kindNamed 1 = .ok (.ldc 94, 2) := by decide +kernel
theorem dX2_kindNamed_3 : decode cX2_kindNamed 3 = .ok (.invokevirtual 37, 3) := by decide +kernel
theorem dX2_kindNamed_6 : decode cX2_kindNamed 6 = .ok (.ifCond .eq 5, 3) := by decide +kernel
theorem dX2_kindNamed_9 : decode cX2_kindNamed 9 = .ok (.iconst 0, 1) := by decide +kernel
theorem dX2_kindNamed_10 : decode cX2_kindNamed 10 = .ok (.ireturn, 1) := by decide +kernel
theorem dX2_kindNamed_11 : decode cX2_kindNamed 11 = .ok (.aload_n 0, 1) := by decide +kernel
theorem dX2_kindNamed_12 : decode cX2_kindNamed 12 = .ok (.ldc 96, 2) := by decide +kernel
theorem dX2_kindNamed_14 : decode cX2_kindNamed 14 = .ok (.invokevirtual 37, 3) := by decide +kernel
theorem dX2_kindNamed_17 : decode cX2_kindNamed 17 = .ok (.ifCond .eq 5, 3) := by decide +kernel
theorem dX2_kindNamed_20 : decode cX2_kindNamed 20 = .ok (.iconst 1, 1) := by decide +kernel
theorem dX2_kindNamed_21 : decode cX2_kindNamed 21 = .ok (.ireturn, 1) := by decide +kernel
theorem dX2_kindNamed_22 : decode cX2_kindNamed 22 = .ok (.aload_n 0, 1) := by decide +kernel
theorem dX2_kindNamed_23 : decode cX2_kindNamed 23 = .ok (.ldc 98, 2) := by decide +kernel
theorem dX2_kindNamed_25 : decode cX2_kindNamed 25 = .ok (.invokevirtual 37, 3) := by decide +kernel
theorem dX2_kindNamed_28 : decode cX2_kindNamed 28 = .ok (.ifCond .eq 5, 3) := by decide +kernel
theorem dX2_kindNamed_31 : decode cX2_kindNamed 31 = .ok (.iconst 2, 1) := by decide +kernel
theorem dX2_kindNamed_32 : decode cX2_kindNamed 32 = .ok (.ireturn, 1) := by decide +kernel
theorem dX2_kindNamed_33 : decode cX2_kindNamed 33 = .ok (.aload_n 0, 1) := by decide +kernel
theorem dX2_kindNamed_34 : decode cX2_kindNamed 34 = .ok (.ldc 100, 2) := by decide +kernel
theorem dX2_kindNamed_36 : decode cX2_kindNamed 36 = .ok (.invokevirtual 37, 3) := by decide +kernel
theorem dX2_kindNamed_39 : decode cX2_kindNamed 39 = .ok (.ifCond .eq 5, 3) := by decide +kernel
theorem dX2_kindNamed_42 : decode cX2_kindNamed 42 = .ok (.iconst 3, 1) := by decide +kernel
theorem dX2_kindNamed_43 : decode cX2_kindNamed 43 = .ok (.ireturn, 1) := by decide +kernel
theorem dX2_kindNamed_44 : decode cX2_kindNamed 44 = .ok (.aload_n 0, 1) := by decide +kernel
theorem dX2_kindNamed_45 : decode cX2_kindNamed 45 = .ok (.ldc 102, 2) := by decide +kernel
theorem dX2_kindNamed_47 : decode cX2_kindNamed 47 = .ok (.invokevirtual 37, 3) := by decide +kernel
theorem dX2_kindNamed_50 : decode cX2_kindNamed 50 = .ok (.ifCond .eq 5, 3) := by decide +kernel
theorem dX2_kindNamed_53 : decode cX2_kindNamed 53 = .ok (.iconst 4, 1) := by decide +kernel
theorem dX2_kindNamed_54 : decode cX2_kindNamed 54 = .ok (.ireturn, 1) := by decide +kernel
theorem dX2_kindNamed_55 : decode cX2_kindNamed 55 = .ok (.aload_n 0, 1) := by decide +kernel
theorem dX2_kindNamed_56 : decode cX2_kindNamed 56 = .ok (.ldc 104, 2) := by decide +kernel
theorem dX2_kindNamed_58 : decode cX2_kindNamed 58 = .ok (.invokevirtual 37, 3) := by decide +kernel
theorem dX2_kindNamed_61 : decode cX2_kindNamed 61 = .ok (.ifCond .eq 7, 3) := by decide +kernel
theorem dX2_kindNamed_64 : decode cX2_kindNamed 64 = .ok (.iconst 5, 1) := by decide +kernel
theorem dX2_kindNamed_65 : decode cX2_kindNamed 65 = .ok (.goto 4, 3) := by decide +kernel
theorem dX2_kindNamed_68 : decode cX2_kindNamed 68 = .ok (.iconst (-1), 1) := by decide +kernel
theorem dX2_kindNamed_69 : decode cX2_kindNamed 69 = .ok (.ireturn, 1) := by decide +kernel
theorem dX2_isNumberBelow_0 : decode cX2_isNumberBelow 0 = .ok (.aload_n 0, 1) := by decide +kernel
theorem dX2_isNumberBelow_1 : decode cX2_isNumberBelow 1 = .ok (.getfield 29, 3) := by decide +kernel
theorem dX2_isNumberBelow_4 : decode cX2_isNumberBelow 4 = .ok (.iconst 2, 1) := by decide +kernel
theorem dX2_isNumberBelow_5 : decode cX2_isNumberBelow 5 = .ok (.if_icmp .ne 15, 3) := by decide +kernel
theorem dX2_isNumberBelow_8 : decode cX2_isNumberBelow 8 = .ok (.aload_n 0, 1) := by decide +kernel
theorem dX2_isNumberBelow_9 : decode cX2_isNumberBelow 9 = .ok (.getfield 72, 3) := by decide +kernel
theorem dX2_isNumberBelow_12 : decode cX2_isNumberBelow 12 = .ok (.iload_n 1, 1) := by decide +kernel
theorem dX2_isNumberBelow_13 : decode cX2_isNumberBelow 13 = .ok (.if_icmp .ge 7, 3) := by decide +kernel
theorem dX2_isNumberBelow_16 : decode cX2_isNumberBelow 16 = .ok (.iconst 1, 1) := by decide +kernel
theorem dX2_isNumberBelow_17 : decode cX2_isNumberBelow 17 = .ok (.goto 4, 3) := by decide +kernel
theorem dX2_isNumberBelow_20 : decode cX2_isNumberBelow 20 = .ok (.iconst 0, 1) := by decide +kernel
theorem dX2_isNumberBelow_21 : decode cX2_isNumberBelow 21 = .ok (.ireturn, 1) := by decide +kernel
set_option maxRecDepth 20000 in
theorem ggX2_isWord_J0_length_8abf5 : GoodIn wsX2_isWord wsJ0_length_8abf5 := goodIn_r _ [9, 10, 11, 12, 13, 8, 14, 15, 16] rfl (by decide +kernel)
set_option maxRecDepth 20000 in
theorem gX2_isWord_J0_length_8abf5 : GoodIn wsX2_isWord (wsV RX2 106 RJ0 yJ0_length_8abf5 wsJ0_length_8abf5) := goodIn_app (goodIn_of _ (by decide +kernel)) ggX2_isWord_J0_length_8abf5
set_option maxRecDepth 20000 in
theorem ggX2_isWord_J0_charAt_5068e : GoodIn wsX2_isWord wsJ0_charAt_5068e := goodIn_r _ [20, 10, 21, 22, 23, 8, 24, 15, 16, 25, 26, 27, 28, 29, 30, 31, 32, 33, 34, 35, 36, 37, 38, 39, 40, 41, 42, 43, 44, 45, 46, 47, 48, 49, 50, 51, 52, 53] rfl (by decide +kernel)
set_option maxRecDepth 20000 in
theorem gX2_isWord_J0_charAt_5068e : GoodIn wsX2_isWord (wsV RX2 111 RJ0 yJ0_charAt_5068e wsJ0_charAt_5068e) := goodIn_app (goodIn_of _ (by decide +kernel)) ggX2_isWord_J0_charAt_5068e
theorem dX2_isWord_0 : decode cX2_isWord 0 = .ok (.aload_n 0, 1) := by decide +kernel
theorem dX2_isWord_1 : decode cX2_isWord 1 = .ok (.getfield 29, 3) := by decide +kernel
theorem dX2_isWord_4 : decode cX2_isWord 4 = .ok (.iconst 1, 1) := by decide +kernel
theorem dX2_isWord_5 : decode cX2_isWord 5 = .ok (.if_icmp .ne 19, 3) := by decide +kernel
theorem dX2_isWord_8 : decode cX2_isWord 8 = .ok (.aload_n 0, 1) := by decide +kernel
theorem dX2_isWord_9 : decode cX2_isWord 9 = .ok (.getfield 19, 3) := by decide +kernel
theorem dX2_isWord_12 : decode cX2_isWord 12 = .ok (.aload_n 0, 1) := by decide +kernel
theorem dX2_isWord_13 : decode cX2_isWord 13 = .ok (.getfield 32, 3) := by decide +kernel
theorem dX2_isWord_16 : decode cX2_isWord 16 = .ok (.isub, 1) := by decide +kernel
theorem dX2_isWord_17 : decode cX2_isWord 17 = .ok (.aload_n 1, 1) := by decide +kernel
theorem dX2_isWord_18 : decode cX2_isWord 18 = .ok (.invokevirtual 106, 3) := by decide +kernel
theorem dX2_isWord_21 : decode cX2_isWord 21 = .ok (.if_icmp .eq 5, 3) := by decide +kernel
theorem dX2_isWord_24 : decode cX2_isWord 24 = .ok (.iconst 0, 1) := by decide +kernel
theorem dX2_isWord_25 : decode cX2_isWord 25 = .ok (.ireturn, 1) := by decide +kernel
theorem dX2_isWord_26 : decode cX2_isWord 26 = .ok (.iconst 0, 1) := by decide +kernel
theorem dX2_isWord_27 : decode cX2_isWord 27 = .ok (.istore_n 2, 1) := by decide +kernel
theorem dX2_isWord_28 : decode cX2_isWord 28 = .ok (.iload_n 2, 1) := by decide +kernel
theorem dX2_isWord_29 : decode cX2_isWord 29 = .ok (.aload_n 1, 1) := by decide +kernel
theorem dX2_isWord_30 : decode cX2_isWord 30 = .ok (.invokevirtual 106, 3) := by decide +kernel
theorem dX2_isWord_33 : decode cX2_isWord 33 = .ok (.if_icmp .ge 30, 3) := by decide +kernel
theorem dX2_isWord_36 : decode cX2_isWord 36 = .ok (.aload_n 0, 1) := by decide +kernel
theorem dX2_isWord_37 : decode cX2_isWord 37 = .ok (.getfield 11, 3) := by decide +kernel
theorem dX2_isWord_40 : decode cX2_isWord 40 = .ok (.aload_n 0, 1) := by decide +kernel
theorem dX2_isWord_41 : decode cX2_isWord 41 = .ok (.getfield 32, 3) := by decide +kernel
theorem dX2_isWord_44 : decode cX2_isWord 44 = .ok (.iload_n 2, 1) := by decide +kernel
theorem dX2_isWord_45 : decode cX2_isWord 45 = .ok (.iadd, 1) := by decide +kernel
theorem dX2_isWord_46 : decode cX2_isWord 46 = .ok (.iaload, 1) := by decide +kernel
theorem dX2_isWord_47 : decode cX2_isWord 47 = .ok (.aload_n 1, 1) := by decide +kernel
theorem dX2_isWord_48 : decode cX2_isWord 48 = .ok (.iload_n 2, 1) := by decide +kernel
theorem dX2_isWord_49 : decode cX2_isWord 49 = .ok (.invokevirtual 111, 3) := by decide +kernel
theorem dX2_isWord_52 : decode cX2_isWord 52 = .ok (.if_icmp .eq 5, 3) := by decide +kernel
theorem dX2_isWord_55 : decode cX2_isWord 55 = .ok (.iconst 0, 1) := by decide +kernel
theorem dX2_isWord_56 : decode cX2_isWord 56 = .ok (.ireturn, 1) := by decide +kernel
theorem dX2_isWord_57 : decode cX2_isWord 57 = .ok (.iinc 2 1, 3) := by decide +kernel
theorem dX2_isWord_60 : decode cX2_isWord 60 = .ok (.goto (-32), 3) := by decide +kernel
theorem dX2_isWord_63 : decode cX2_isWord 63 = .ok (.iconst 1, 1) := by decide +kernel
theorem dX2_isWord_64 : decode cX2_isWord 64 = .ok (.ireturn, 1) := by decide +kernel
set_option maxRecDepth 20000 in
theorem ggX2_advance_X2_isAmong : GoodIn wsX2_advance wsX2_isAmong := goodIn_r _ [11, 3, 4, 24, 25, 26, 27, 28, 29] rfl (by decide +kernel)
set_option maxRecDepth 20000 in
theorem gX2_advance_X2_isAmong : GoodIn wsX2_advance (wsV RX2 115 RX2 yX2_isAmong wsX2_isAmong) := goodIn_app (goodIn_of _ (by decide +kernel)) ggX2_advance_X2_isAmong
set_option maxRecDepth 20000 in
theorem ggX2_advance_X2_skipAll : GoodIn wsX2_advance wsX2_skipAll := goodIn_r _ [15, 1, 3, 7, 8, 9, 10, 11, 4, 24, 25, 26, 27, 28, 29] rfl (by decide +kernel)
set_option maxRecDepth 20000 in
theorem gX2_advance_X2_skipAll : GoodIn wsX2_advance (wsV RX2 119 RX2 yX2_skipAll wsX2_skipAll) := goodIn_app (goodIn_of _ (by decide +kernel)) ggX2_advance_X2_skipAll
set_option maxRecDepth 20000 in
theorem ggX2_advance_X2_valueOfDigits : GoodIn wsX2_advance wsX2_valueOfDigits := goodIn_r _ [19, 2, 1, 4, 20, 21, 22, 23, 24, 25, 26, 27, 28, 29] rfl (by decide +kernel)
set_option maxRecDepth 20000 in
theorem gX2_advance_X2_valueOfDigits : GoodIn wsX2_advance (wsV RX2 123 RX2 yX2_valueOfDigits wsX2_valueOfDigits) := goodIn_app (goodIn_of _ (by decide +kernel)) ggX2_advance_X2_valueOfDigits
theorem dX2_advance_0 : decode cX2_advance 0 = .ok (.aload_n 0, 1) := by decide +kernel
theorem dX2_advance_1 : decode cX2_advance 1 = .ok (.aload_n 0, 1) := by decide +kernel
theorem dX2_advance_2 : decode cX2_advance 2 = .ok (.getfield 19, 3) := by decide +kernel
theorem dX2_advance_5 : decode cX2_advance 5 = .ok (.putfield 32, 3) := by decide +kernel
theorem dX2_advance_8 : decode cX2_advance 8 = .ok (.aload_n 0, 1) := by decide +kernel
theorem dX2_advance_9 : decode cX2_advance 9 = .ok (.getfield 32, 3) := by decide +kernel
theorem dX2_advance_12 : decode cX2_advance 12 = .ok (.aload_n 0, 1) := by decide +kernel
theorem dX2_advance_13 : decode cX2_advance 13 = .ok (.getfield 15, 3) := by decide +kernel
theorem dX2_advance_16 : decode cX2_advance 16 = .ok (.if_icmp .ge 30, 3) := by decide +kernel
theorem dX2_advance_19 : decode cX2_advance 19 = .ok (.aload_n 0, 1) := by decide +kernel
theorem dX2_advance_20 : decode cX2_advance 20 = .ok (.getfield 11, 3) := by decide +kernel
theorem dX2_advance_23 : decode cX2_advance 23 = .ok (.aload_n 0, 1) := by decide +kernel
theorem dX2_advance_24 : decode cX2_advance 24 = .ok (.getfield 32, 3) := by decide +kernel
theorem dX2_advance_27 : decode cX2_advance 27 = .ok (.iaload, 1) := by decide +kernel
theorem dX2_advance_28 : decode cX2_advance 28 = .ok (.bipush 32, 2) := by decide +kernel
theorem dX2_advance_30 : decode cX2_advance 30 = .ok (.if_icmp .ne 16, 3) := by decide +kernel
theorem dX2_advance_33 : decode cX2_advance 33 = .ok (.aload_n 0, 1) := by decide +kernel
theorem dX2_advance_34 : decode cX2_advance 34 = .ok (.dup, 1) := by decide +kernel
theorem dX2_advance_35 : decode cX2_advance 35 = .ok (.getfield 32, 3) := by decide +kernel
theorem dX2_advance_38 : decode cX2_advance 38 = .ok (.iconst 1, 1) := by decide +kernel
theorem dX2_advance_39 : decode cX2_advance 39 = .ok (.iadd, 1) := by decide +kernel
theorem dX2_advance_40 : decode cX2_advance 40 = .ok (.putfield 32, 3) := by decide +kernel
theorem dX2_advance_43 : decode cX2_advance 43 = .ok (.goto (-35), 3) := by decide +kernel
theorem dX2_advance_46 : decode cX2_advance 46 = .ok (.aload_n 0, 1) := by decide +kernel
theorem dX2_advance_47 : decode cX2_advance 47 = .ok (.aload_n 0, 1) := by decide +kernel
theorem dX2_advance_48 : decode cX2_advance 48 = .ok (.getfield 32, 3) := by decide +kernel
theorem dX2_advance_51 : decode cX2_advance 51 = .ok (.putfield 19, 3) := by decide +kernel
theorem dX2_advance_54 : decode cX2_advance 54 = .ok (.aload_n 0, 1) := by decide +kernel
theorem dX2_advance_55 : decode cX2_advance 55 = .ok (.getfield 32, 3) := by decide +kernel
theorem dX2_advance_58 : decode cX2_advance 58 = .ok (.aload_n 0, 1) := by decide +kernel
theorem dX2_advance_59 : decode cX2_advance 59 = .ok (.getfield 15, 3) := by decide +kernel
theorem dX2_advance_62 : decode cX2_advance 62 = .ok (.if_icmp .lt 11, 3) := by decide +kernel
theorem dX2_advance_65 : decode cX2_advance 65 = .ok (.aload_n 0, 1) := by decide +kernel
theorem dX2_advance_66 : decode cX2_advance 66 = .ok (.iconst 0, 1) := by decide +kernel
theorem dX2_advance_67 : decode cX2_advance 67 = .ok (.putfield 29, 3) := by decide +kernel
theorem dX2_advance_70 : decode cX2_advance 70 = .ok (.goto 106, 3) := by decide +kernel
theorem dX2_advance_73 : decode cX2_advance 73 = .ok (.aload_n 0, 1) := by decide +kernel
theorem dX2_advance_74 : decode cX2_advance 74 = .ok (.aload_n 0, 1) := by decide +kernel
theorem dX2_advance_75 : decode cX2_advance 75 = .ok (.getfield 32, 3) := by decide +kernel
theorem dX2_advance_78 : decode cX2_advance 78 = .ok (.bipush 97, 2) := by decide +kernel
theorem dX2_advance_80 : decode cX2_advance 80 = .ok (.bipush 122, 2) := by decide +kernel
theorem dX2_advance_82 : decode cX2_advance 82 = .ok (.invokevirtual 115, 3) := by decide +kernel
theorem dX2_advance_85 : decode cX2_advance 85 = .ok (.ifCond .eq 19, 3) := by decide +kernel
theorem dX2_advance_88 : decode cX2_advance 88 = .ok (.aload_n 0, 1) := by decide +kernel
theorem dX2_advance_89 : decode cX2_advance 89 = .ok (.iconst 1, 1) := by decide +kernel
theorem dX2_advance_90 : decode cX2_advance 90 = .ok (.putfield 29, 3) := by decide +kernel
theorem dX2_advance_93 : decode cX2_advance 93 = .ok (.aload_n 0, 1) := by decide +kernel
theorem dX2_advance_94 : decode cX2_advance 94 = .ok (.bipush 97, 2) := by decide +kernel
theorem dX2_advance_96 : decode cX2_advance 96 = .ok (.bipush 122, 2) := by decide +kernel
theorem dX2_advance_98 : decode cX2_advance 98 = .ok (.invokevirtual 119, 3) := by decide +kernel
theorem dX2_advance_101 : decode cX2_advance 101 = .ok (.goto 75, 3) := by decide +kernel
theorem dX2_advance_104 : decode cX2_advance 104 = .ok (.aload_n 0, 1) := by decide +kernel
theorem dX2_advance_105 : decode cX2_advance 105 = .ok (.aload_n 0, 1) := by decide +kernel
theorem dX2_advance_106 : decode cX2_advance 106 = .ok (.getfield 32, 3) := by decide +kernel
theorem dX2_advance_109 : decode cX2_advance 109 = .ok (.bipush 48, 2) := by decide +kernel
theorem dX2_advance_111 : decode cX2_advance 111 = .ok (.bipush 57, 2) := by decide +kernel
theorem dX2_advance_113 : decode cX2_advance 113 = .ok (.invokevirtual 115, 3) := by decide +kernel
theorem dX2_advance_116 : decode cX2_advance 116 = .ok (.ifCond .eq 27, 3) := by decide +kernel
theorem dX2_advance_119 : decode cX2_advance 119 = .ok (.aload_n 0, 1) := by decide +kernel
theorem dX2_advance_120 : decode cX2_advance 120 = .ok (.iconst 2, 1) := by decide +kernel
theorem dX2_advance_121 : decode cX2_advance 121 = .ok (.putfield 29, 3) := by decide +kernel
theorem dX2_advance_124 : decode cX2_advance 124 = .ok (.aload_n 0, 1) := by decide +kernel
theorem dX2_advance_125 : decode cX2_advance 125 = .ok (.bipush 48, 2) := by decide +kernel
theorem dX2_advance_127 : decode cX2_advance 127 = .ok (.bipush 57, 2) := by decide +kernel
theorem dX2_advance_129 : decode cX2_advance 129 = .ok (.invokevirtual 119, 3) := by decide +kernel
theorem dX2_advance_132 : decode cX2_advance 132 = .ok (.aload_n 0, 1) := by decide +kernel
theorem dX2_advance_133 : decode cX2_advance 133 = .ok (.aload_n 0, 1) := by decide +kernel
theorem dX2_advance_134 : decode cX2_advance 134 = .ok (.invokevirtual 123, 3) := by decide +kernel
theorem dX2_advance_137 : decode cX2_advance 137 = .ok (.putfield 72, 3) := by decide +kernel
theorem dX2_advance_140 : decode cX2_advance 140 = .ok (.goto 36, 3) := by decide +kernel
theorem dX2_advance_143 : decode cX2_advance 143 = .ok (.aload_n 0, 1) := by decide +kernel
theorem dX2_advance_144 : decode cX2_advance 144 = .ok (.aload_n 0, 1) := by decide +kernel
theorem dX2_advance_145 : decode cX2_advance 145 = .ok (.getfield 11, 3) := by decide +kernel
theorem dX2_advance_148 : decode cX2_advance 148 = .ok (.aload_n 0, 1) := by decide +kernel
theorem dX2_advance_149 : decode cX2_advance 149 = .ok (.getfield 32, 3) := by decide +kernel
theorem dX2_advance_152 : decode cX2_advance 152 = .ok (.iaload, 1) := by decide +kernel
theorem dX2_advance_153 : decode cX2_advance 153 = .ok (.bipush 59, 2) := by decide +kernel
theorem dX2_advance_155 : decode cX2_advance 155 = .ok (.if_icmp .ne 7, 3) := by decide +kernel
theorem dX2_advance_158 : decode cX2_advance 158 = .ok (.iconst 3, 1) := by decide +kernel
theorem dX2_advance_159 : decode cX2_advance 159 = .ok (.goto 4, 3) := by decide +kernel
theorem dX2_advance_162 : decode cX2_advance 162 = .ok (.iconst 4, 1) := by decide +kernel
theorem dX2_advance_163 : decode cX2_advance 163 = .ok (.putfield 29, 3) := by decide +kernel
theorem dX2_advance_166 : decode cX2_advance 166 = .ok (.aload_n 0, 1) := by decide +kernel
theorem dX2_advance_167 : decode cX2_advance 167 = .ok (.aload_n 0, 1) := by decide +kernel
theorem dX2_advance_168 : decode cX2_advance 168 = .ok (.getfield 32, 3) := by decide +kernel
theorem dX2_advance_171 : decode cX2_advance 171 = .ok (.iconst 1, 1) := by decide +kernel
theorem dX2_advance_172 : decode cX2_advance 172 = .ok (.iadd, 1) := by decide +kernel
theorem dX2_advance_173 : decode cX2_advance 173 = .ok (.putfield 19, 3) := by decide +kernel
theorem dX2_advance_176 : decode cX2_advance 176 = .ok (.return_, 1) := by decide +kernel
theorem dX2_isAmong_0 : decode cX2_isAmong 0 = .ok (.iload_n 1, 1) := by decide +kernel
theorem dX2_isAmong_1 : decode cX2_isAmong 1 = .ok (.aload_n 0, 1) := by decide +kernel
theorem dX2_isAmong_2 : decode cX2_isAmong 2 = .ok (.getfield 15, 3) := by decide +kernel
theorem dX2_isAmong_5 : decode cX2_isAmong 5 = .ok (.if_icmp .ge 27, 3) := by decide +kernel
theorem dX2_isAmong_8 : decode cX2_isAmong 8 = .ok (.aload_n 0, 1) := by decide +kernel
theorem dX2_isAmong_9 : decode cX2_isAmong 9 = .ok (.getfield 11, 3) := by decide +kernel
theorem dX2_isAmong_12 : decode cX2_isAmong 12 = .ok (.iload_n 1, 1) := by decide +kernel
theorem dX2_isAmong_13 : decode cX2_isAmong 13 = .ok (.iaload, 1) := by decide +kernel
theorem dX2_isAmong_14 : decode cX2_isAmong 14 = .ok (.iload_n 2, 1) := by decide +kernel
theorem dX2_isAmong_15 : decode cX2_isAmong 15 = .ok (.if_icmp .lt 17, 3) := by decide +kernel
theorem dX2_isAmong_18 : decode cX2_isAmong 18 = .ok (.aload_n 0, 1) := by decide +kernel
theorem dX2_isAmong_19 : decode cX2_isAmong 19 = .ok (.getfield 11, 3) := by decide +kernel
theorem dX2_isAmong_22 : decode cX2_isAmong 22 = .ok (.iload_n 1, 1) := by decide +kernel
theorem dX2_isAmong_23 : decode cX2_isAmong 23 = .ok (.iaload, 1) := by decide +kernel
theorem dX2_isAmong_24 : decode cX2_isAmong 24 = .ok (.iload_n 3, 1) := by decide +kernel
theorem dX2_isAmong_25 : decode cX2_isAmong 25 = .ok (.if_icmp .gt 7, 3) := by decide +kernel
theorem dX2_isAmong_28 : decode cX2_isAmong 28 = .ok (.iconst 1, 1) := by decide +kernel
theorem dX2_isAmong_29 : decode cX2_isAmong 29 = .ok (.goto 4, 3) := by decide +kernel
theorem dX2_isAmong_32 : decode cX2_isAmong 32 = .ok (.iconst 0, 1) := by decide +kernel
theorem dX2_isAmong_33 : decode cX2_isAmong 33 = .ok (.ireturn, 1) := by decide +kernel
set_option maxRecDepth 20000 in
theorem ggX2_skipAll_X2_isAmong : GoodIn wsX2_skipAll wsX2_isAmong := goodIn_r _ [7, 2, 8, 9, 10, 11, 12, 13, 14] rfl (by decide +kernel)
set_option maxRecDepth 20000 in
theorem gX2_skipAll_X2_isAmong : GoodIn wsX2_skipAll (wsV RX2 115 RX2 yX2_isAmong wsX2_isAmong) := goodIn_app (goodIn_of _ (by decide +kernel)) ggX2_skipAll_X2_isAmong
theorem dX2_skipAll_0 : decode cX2_skipAll 0 = .ok (.aload_n 0, 1) := by decide +kernel
theorem dX2_skipAll_1 : decode cX2_skipAll 1 = .ok (.getfield 19, 3) := by decide +kernel
theorem dX2_skipAll_4 : decode cX2_skipAll 4 = .ok (.aload_n 0, 1) := by decide +kernel
theorem dX2_skipAll_5 : decode cX2_skipAll 5 = .ok (.getfield 15, 3) := by decide +kernel
theorem dX2_skipAll_8 : decode cX2_skipAll 8 = .ok (.if_icmp .ge 29, 3) := by decide +kernel
theorem dX2_skipAll_11 : decode cX2_skipAll 11 = .ok (.aload_n 0, 1) := by decide +kernel
theorem dX2_skipAll_12 : decode cX2_skipAll 12 = .ok (.aload_n 0, 1) := by decide +kernel
theorem dX2_skipAll_13 : decode cX2_skipAll 13 = .ok (.getfield 19, 3) := by decide +kernel
theorem dX2_skipAll_16 : decode cX2_skipAll 16 = .ok (.iload_n 1, 1) := by decide +kernel
theorem dX2_skipAll_17 : decode cX2_skipAll 17 = .ok (.iload_n 2, 1) := by decide +kernel
theorem dX2_skipAll_18 : decode cX2_skipAll 18 = .ok (.invokevirtual 115, 3) := by decide +kernel
theorem dX2_skipAll_21 : decode cX2_skipAll 21 = .ok (.ifCond .eq 16, 3) := by decide +kernel
theorem dX2_skipAll_24 : decode cX2_skipAll 24 = .ok (.aload_n 0, 1) := by decide +kernel
theorem dX2_skipAll_25 : decode cX2_skipAll 25 = .ok (.dup, 1) := by decide +kernel
theorem dX2_skipAll_26 : decode cX2_skipAll 26 = .ok (.getfield 19, 3) := by decide +kernel
theorem dX2_skipAll_29 : decode cX2_skipAll 29 = .ok (.iconst 1, 1) := by decide +kernel
theorem dX2_skipAll_30 : decode cX2_skipAll 30 = .ok (.iadd, 1) := by decide +kernel
theorem dX2_skipAll_31 : decode cX2_skipAll 31 = .ok (.putfield 19, 3) := by decide +kernel
theorem dX2_skipAll_34 : decode cX2_skipAll 34 = .ok (.goto (-34), 3) := by decide +kernel
theorem dX2_skipAll_37 : decode cX2_skipAll 37 = .ok (.return_, 1) := by decide +kernel
theorem dX2_valueOfDigits_0 : decode cX2_valueOfDigits 0 = .ok (.iconst 0, 1) := by decide +kernel
theorem dX2_valueOfDigits_1 : decode cX2_valueOfDigits 1 = .ok (.istore_n 1, 1) := by decide +kernel
theorem dX2_valueOfDigits_2 : decode cX2_valueOfDigits 2 = .ok (.aload_n 0, 1) := by decide +kernel
theorem dX2_valueOfDigits_3 : decode cX2_valueOfDigits 3 = .ok (.getfield 32, 3) := by decide +kernel
theorem dX2_valueOfDigits_6 : decode cX2_valueOfDigits 6 = .ok (.istore_n 2, 1) := by decide +kernel
theorem dX2_valueOfDigits_7 : decode cX2_valueOfDigits 7 = .ok (.iload_n 2, 1) := by decide +kernel
theorem dX2_valueOfDigits_8 : decode cX2_valueOfDigits 8 = .ok (.aload_n 0, 1) := by decide +kernel
theorem dX2_valueOfDigits_9 : decode cX2_valueOfDigits 9 = .ok (.getfield 19, 3) := by decide +kernel
theorem dX2_valueOfDigits_12 : decode cX2_valueOfDigits 12 = .ok (.if_icmp .ge 30, 3) := by decide +kernel
theorem dX2_valueOfDigits_15 : decode cX2_valueOfDigits 15 = .ok (.iload_n 1, 1) := by decide +kernel
theorem dX2_valueOfDigits_16 : decode cX2_valueOfDigits 16 = .ok (.bipush 10, 2) := by decide +kernel
theorem dX2_valueOfDigits_18 : decode cX2_valueOfDigits 18 = .ok (.imul, 1) := by decide +kernel
theorem dX2_valueOfDigits_19 : decode cX2_valueOfDigits 19 = .ok (.aload_n 0, 1) := by decide +kernel
theorem dX2_valueOfDigits_20 : decode cX2_valueOfDigits 20 = .ok (.getfield 11, 3) := by decide +kernel
theorem dX2_valueOfDigits_23 : decode cX2_valueOfDigits 23 = .ok (.iload_n 2, 1) := by decide +kernel
theorem dX2_valueOfDigits_24 : decode cX2_valueOfDigits 24 = .ok (.iaload, 1) := by decide +kernel
theorem dX2_valueOfDigits_25 : decode cX2_valueOfDigits 25 = .ok (.iadd, 1) := by decide +kernel
theorem dX2_valueOfDigits_26 : decode cX2_valueOfDigits 26 = .ok (.bipush 48, 2) := by decide +kernel
theorem dX2_valueOfDigits_28 : decode cX2_valueOfDigits 28 = .ok (.isub, 1) := by decide +kernel
theorem dX2_valueOfDigits_29 : decode cX2_valueOfDigits 29 = .ok (.sipush 1000, 3) := by decide +kernel
theorem dX2_valueOfDigits_32 : decode cX2_valueOfDigits 32 = .ok (.invokestatic 126, 3) := by decide +kernel
theorem dX2_valueOfDigits_35 : decode cX2_valueOfDigits 35 = .ok (.istore_n 1, 1) := by decide +kernel
theorem dX2_valueOfDigits_36 : decode cX2_valueOfDigits 36 = .ok (.iinc 2 1, 3) := by decide +kernel
theorem dX2_valueOfDigits_39 : decode cX2_valueOfDigits 39 = .ok (.goto (-32), 3) := by decide +kernel
theorem dX2_valueOfDigits_42 : decode cX2_valueOfDigits 42 = .ok (.iload_n 1, 1) := by decide +kernel
theorem dX2_valueOfDigits_43 : decode cX2_valueOfDigits 43 = .ok (.ireturn, 1) := by decide +kernel
set_option maxRecDepth 20000 in
theorem ggX3_init_X0_init : GoodIn wsX3_init wsX0_init := goodIn_r _ [22, 23, 2, 3, 18, 24, 25, 26, 27, 28, 29, 30, 31, 32, 44, 45, 46, 47, 48, 49, 50, 51, 52, 53, 54, 55] rfl (by decide +kernel)
set_option maxRecDepth 20000 in
theorem gX3_init_X0_init_n9 : GoodIn wsX3_init (wsX0_init) := ggX3_init_X0_init
set_option maxRecDepth 20000 in
theorem ggX3_init_X2_init : GoodIn wsX3_init wsX2_init := goodIn_r _ [34, 35, 2, 3, 18, 36, 63, 64, 65, 66, 67, 68] rfl (by decide +kernel)
set_option maxRecDepth 20000 in
theorem gX3_init_X2_init_n24 : GoodIn wsX3_init (wsX2_init) := ggX3_init_X2_init
set_option maxRecDepth 20000 in
theorem ggX3_init_X1_init : GoodIn wsX3_init wsX1_init := goodIn_r _ [38, 39, 2, 3, 18, 40, 41, 42, 43, 69, 70, 71] rfl (by decide +kernel)
set_option maxRecDepth 20000 in
theorem gX3_init_X1_init_n31 : GoodIn wsX3_init (wsX1_init) := ggX3_init_X1_init
