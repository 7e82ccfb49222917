theorem dX4_init_0 : decode cX4_init 0 = .ok (.aload_n 0, 1) := by decide +kernel
theorem dX4_init_1 : decode cX4_init 1 = .ok (.invokespecial 3, 3) := by decide +kernel
theorem dX4_init_4 : decode cX4_init 4 = .ok (.aload_n 0, 1) := by decide +kernel
theorem dX4_init_5 : decode cX4_init 5 = .ok (.bipush 75, 2) := by decide +kernel
theorem dX4_init_7 : decode cX4_init 7 = .ok (.newarray .int, 2) := by decide +kernel
theorem dX4_init_9 : decode cX4_init 9 = .ok (.putfield 9, 3) := by decide +kernel
theorem dX4_init_12 : decode cX4_init 12 = .ok (.aload_n 0, 1) := by decide +kernel
theorem dX4_init_13 : decode cX4_init 13 = .ok (.bipush 75, 2) := by decide +kernel
theorem dX4_init_15 : decode cX4_init 15 = .ok (.newarray .int, 2) := by decide +kernel
theorem dX4_init_17 : decode cX4_init 17 = .ok (.putfield 13, 3) := by decide +kernel
theorem dX4_init_20 : decode cX4_init 20 = .ok (.aload_n 0, 1) := by decide +kernel
theorem dX4_init_21 : decode cX4_init 21 = .ok (.bipush 75, 2) := by decide +kernel
theorem dX4_init_23 : decode cX4_init 23 = .ok (.newarray .int, 2) := by decide +kernel
theorem dX4_init_25 : decode cX4_init 25 = .ok (.putfield 16, 3) := by decide +kernel
theorem dX4_init_28 : decode cX4_init 28 = .ok (.aload_n 0, 1) := by decide +kernel
theorem dX4_init_29 : decode cX4_init 29 = .ok (.bipush 7, 2) := by decide +kernel
theorem dX4_init_31 : decode cX4_init 31 = .ok (.newarray .int, 2) := by decide +kernel
theorem dX4_init_33 : decode cX4_init 33 = .ok (.putfield 19, 3) := by decide +kernel
theorem dX4_init_36 : decode cX4_init 36 = .ok (.aload_n 0, 1) := by decide +kernel
theorem dX4_init_37 : decode cX4_init 37 = .ok (.bipush 120, 2) := by decide +kernel
theorem dX4_init_39 : decode cX4_init 39 = .ok (.newarray .int, 2) := by decide +kernel
theorem dX4_init_41 : decode cX4_init 41 = .ok (.putfield 22, 3) := by decide +kernel
theorem dX4_init_44 : decode cX4_init 44 = .ok (.aload_n 0, 1) := by decide +kernel
theorem dX4_init_45 : decode cX4_init 45 = .ok (.iconst 4, 1) := by decide +kernel
theorem dX4_init_46 : decode cX4_init 46 = .ok (.newarray .int, 2) := by decide +kernel
theorem dX4_init_48 : decode cX4_init 48 = .ok (.putfield 25, 3) := by decide +kernel
theorem dX4_init_51 : decode cX4_init 51 = .ok (.aload_n 0, 1) := by decide +kernel
theorem dX4_init_52 : decode cX4_init 52 = .ok (.iconst 4, 1) := by decide +kernel
theorem dX4_init_53 : decode cX4_init 53 = .ok (.newarray .int, 2) := by decide +kernel
theorem dX4_init_55 : decode cX4_init 55 = .ok (.putfield 28, 3) := by decide +kernel
theorem dX4_init_58 : decode cX4_init 58 = .ok (.aload_n 0, 1) := by decide +kernel
theorem dX4_init_59 : decode cX4_init 59 = .ok (.sipush 160, 3) := by decide +kernel
theorem dX4_init_62 : decode cX4_init 62 = .ok (.newarray .long, 2) := by decide +kernel
theorem dX4_init_64 : decode cX4_init 64 = .ok (.putfield 31, 3) := by decide +kernel
theorem dX4_init_67 : decode cX4_init 67 = .ok (.aload_n 0, 1) := by decide +kernel
theorem dX4_init_68 : decode cX4_init 68 = .ok (.getfield 9, 3) := by decide +kernel
theorem dX4_init_71 : decode cX4_init 71 = .ok (.iconst 0, 1) := by decide +kernel
theorem dX4_init_72 : decode cX4_init 72 = .ok (.iconst 0, 1) := by decide +kernel
theorem dX4_init_73 : decode cX4_init 73 = .ok (.iastore, 1) := by decide +kernel
theorem dX4_init_74 : decode cX4_init 74 = .ok (.return_, 1) := by decide +kernel
theorem dX4_finds_0 : decode cX4_finds 0 = .ok (.aload_n 0, 1) := by decide +kernel
theorem dX4_finds_1 : decode cX4_finds 1 = .ok (.getfield 19, 3) := by decide +kernel
theorem dX4_finds_4 : decode cX4_finds 4 = .ok (.ldc 35, 2) := by decide +kernel
theorem dX4_finds_6 : decode cX4_finds 6 = .ok (.iload_n 1, 1) := by decide +kernel
theorem dX4_finds_7 : decode cX4_finds 7 = .ok (.isub, 1) := by decide +kernel
theorem dX4_finds_8 : decode cX4_finds 8 = .ok (.dup2, 1) := by decide +kernel
theorem dX4_finds_9 : decode cX4_finds 9 = .ok (.iaload, 1) := by decide +kernel
theorem dX4_finds_10 : decode cX4_finds 10 = .ok (.iconst 1, 1) := by decide +kernel
theorem dX4_finds_11 : decode cX4_finds 11 = .ok (.iadd, 1) := by decide +kernel
theorem dX4_finds_12 : decode cX4_finds 12 = .ok (.iastore, 1) := by decide +kernel
theorem dX4_finds_13 : decode cX4_finds 13 = .ok (.iload_n 1, 1) := by decide +kernel
theorem dX4_finds_14 : decode cX4_finds 14 = .ok (.ireturn, 1) := by decide +kernel
set_option maxRecDepth 20000 in
theorem ggX4_orNone_X4_finds : GoodIn wsX4_orNone wsX4_finds := goodIn_r _ [6, 7, 8, 9, 10, 11, 12, 13, 14, 15, 16, 17, 18, 19, 20, 21, 22, 23, 24] rfl (by decide +kernel)
set_option maxRecDepth 20000 in
theorem gX4_orNone_X4_finds : GoodIn wsX4_orNone (wsV RX4 37 RX4 yX4_finds wsX4_finds) := goodIn_app (goodIn_of _ (by decide +kernel)) ggX4_orNone_X4_finds
theorem dX4_orNone_0 : decode cX4_orNone 0 = .ok (.iload_n 1, 1) := by decide +kernel
theorem dX4_orNone_1 : decode cX4_orNone 1 = .ok (.ifCond .ge 12, 3) := by decide +kernel
theorem dX4_orNone_4 : decode cX4_orNone 4 = .ok (.aload_n 0, 1) := by decide +kernel
theorem dX4_orNone_5 : decode cX4_orNone 5 = .ok (.ldc 36, 2) := by decide +kernel
theorem dX4_orNone_7 : decode cX4_orNone 7 = .ok (.invokevirtual 37, 3) := by decide +kernel
theorem dX4_orNone_10 : decode cX4_orNone 10 = .ok (.goto 4, 3) := by decide +kernel
theorem dX4_orNone_13 : decode cX4_orNone 13 = .ok (.iload_n 1, 1) := by decide +kernel
theorem dX4_orNone_14 : decode cX4_orNone 14 = .ok (.ireturn, 1) := by decide +kernel
theorem dX4_in_0 : decode cX4_in 0 = .ok (.lload_n 0, 1) := by decide +kernel
theorem dX4_in_1 : decode cX4_in 1 = .ok (.iload_n 2, 1) := by decide +kernel
theorem dX4_in_2 : decode cX4_in 2 = .ok (.i2l, 1) := by decide +kernel
theorem dX4_in_3 : decode cX4_in 3 = .ok (.lcmp, 1) := by decide +kernel
theorem dX4_in_4 : decode cX4_in 4 = .ok (.ifCond .lt 14, 3) := by decide +kernel
theorem dX4_in_7 : decode cX4_in 7 = .ok (.lload_n 0, 1) := by decide +kernel
theorem dX4_in_8 : decode cX4_in 8 = .ok (.iload_n 3, 1) := by decide +kernel
theorem dX4_in_9 : decode cX4_in 9 = .ok (.i2l, 1) := by decide +kernel
theorem dX4_in_10 : decode cX4_in 10 = .ok (.lcmp, 1) := by decide +kernel
theorem dX4_in_11 : decode cX4_in 11 = .ok (.ifCond .gt 7, 3) := by decide +kernel
theorem dX4_in_14 : decode cX4_in 14 = .ok (.iconst 1, 1) := by decide +kernel
theorem dX4_in_15 : decode cX4_in 15 = .ok (.goto 4, 3) := by decide +kernel
theorem dX4_in_18 : decode cX4_in 18 = .ok (.iconst 0, 1) := by decide +kernel
theorem dX4_in_19 : decode cX4_in 19 = .ok (.ireturn, 1) := by decide +kernel
theorem dX4_held_0 : decode cX4_held 0 = .ok (.iload_n 0, 1) := by decide +kernel
theorem dX4_held_1 : decode cX4_held 1 = .ok (.iload_n 1, 1) := by decide +kernel
theorem dX4_held_2 : decode cX4_held 2 = .ok (.if_icmp .ge 7, 3) := by decide +kernel
theorem dX4_held_5 : decode cX4_held 5 = .ok (.iload_n 1, 1) := by decide +kernel
theorem dX4_held_6 : decode cX4_held 6 = .ok (.goto 13, 3) := by decide +kernel
theorem dX4_held_9 : decode cX4_held 9 = .ok (.iload_n 0, 1) := by decide +kernel
theorem dX4_held_10 : decode cX4_held 10 = .ok (.iload_n 2, 1) := by decide +kernel
theorem dX4_held_11 : decode cX4_held 11 = .ok (.if_icmp .le 7, 3) := by decide +kernel
theorem dX4_held_14 : decode cX4_held 14 = .ok (.iload_n 2, 1) := by decide +kernel
theorem dX4_held_15 : decode cX4_held 15 = .ok (.goto 4, 3) := by decide +kernel
theorem dX4_held_18 : decode cX4_held 18 = .ok (.iload_n 0, 1) := by decide +kernel
theorem dX4_held_19 : decode cX4_held 19 = .ok (.ireturn, 1) := by decide +kernel
theorem dX4_copyAll_0 : decode cX4_copyAll 0 = .ok (.iconst 0, 1) := by decide +kernel
theorem dX4_copyAll_1 : decode cX4_copyAll 1 = .ok (.istore_n 2, 1) := by decide +kernel
theorem dX4_copyAll_2 : decode cX4_copyAll 2 = .ok (.iload_n 2, 1) := by decide +kernel
theorem dX4_copyAll_3 : decode cX4_copyAll 3 = .ok (.bipush 75, 2) := by decide +kernel
theorem dX4_copyAll_5 : decode cX4_copyAll 5 = .ok (.if_icmp .ge 15, 3) := by decide +kernel
theorem dX4_copyAll_8 : decode cX4_copyAll 8 = .ok (.aload_n 1, 1) := by decide +kernel
theorem dX4_copyAll_9 : decode cX4_copyAll 9 = .ok (.iload_n 2, 1) := by decide +kernel
theorem dX4_copyAll_10 : decode cX4_copyAll 10 = .ok (.aload_n 0, 1) := by decide +kernel
theorem dX4_copyAll_11 : decode cX4_copyAll 11 = .ok (.iload_n 2, 1) := by decide +kernel
theorem dX4_copyAll_12 : decode cX4_copyAll 12 = .ok (.iaload, 1) := by decide +kernel
theorem dX4_copyAll_13 : decode cX4_copyAll 13 = .ok (.iastore, 1) := by decide +kernel
theorem dX4_copyAll_14 : decode cX4_copyAll 14 = .ok (.iinc 2 1, 3) := by decide +kernel
theorem dX4_copyAll_17 : decode cX4_copyAll 17 = .ok (.goto (-15), 3) := by decide +kernel
theorem dX4_copyAll_20 : decode cX4_copyAll 20 = .ok (.return_, 1) := by decide +kernel
theorem dX4_becomes_0 : decode cX4_becomes 0 = .ok (.aload_n 0, 1) := by decide +kernel
theorem dX4_becomes_1 : decode cX4_becomes 1 = .ok (.getfield 9, 3) := by decide +kernel
theorem dX4_becomes_4 : decode cX4_becomes 4 = .ok (.iload_n 1, 1) := by decide +kernel
theorem dX4_becomes_5 : decode cX4_becomes 5 = .ok (.iaload, 1) := by decide +kernel
theorem dX4_becomes_6 : decode cX4_becomes 6 = .ok (.istore_n 3, 1) := by decide +kernel
theorem dX4_becomes_7 : decode cX4_becomes 7 = .ok (.aload_n 0, 1) := by decide +kernel
theorem dX4_becomes_8 : decode cX4_becomes 8 = .ok (.getfield 9, 3) := by decide +kernel
theorem dX4_becomes_11 : decode cX4_becomes 11 = .ok (.iload_n 1, 1) := by decide +kernel
theorem dX4_becomes_12 : decode cX4_becomes 12 = .ok (.iload_n 2, 1) := by decide +kernel
theorem dX4_becomes_13 : decode cX4_becomes 13 = .ok (.iastore, 1) := by decide +kernel
theorem dX4_becomes_14 : decode cX4_becomes 14 = .ok (.iload_n 3, 1) := by decide +kernel
theorem dX4_becomes_15 : decode cX4_becomes 15 = .ok (.ireturn, 1) := by decide +kernel
set_option maxRecDepth 20000 in
theorem ggX4_isThere_X4_in : GoodIn wsX4_isThere wsX4_in := goodIn_r _ [5] rfl (by decide +kernel)
set_option maxRecDepth 20000 in
theorem gX4_isThere_X4_in : GoodIn wsX4_isThere (va_wsS RX4 41 yX4_in wsX4_in) := goodIn_app (goodIn_of _ (by decide +kernel)) ggX4_isThere_X4_in
theorem dX4_isThere_0 : decode cX4_isThere 0 = .ok (.iload_n 1, 1) := by decide +kernel
theorem dX4_isThere_1 : decode cX4_isThere 1 = .ok (.i2l, 1) := by decide +kernel
theorem dX4_isThere_2 : decode cX4_isThere 2 = .ok (.iconst 0, 1) := by decide +kernel
theorem dX4_isThere_3 : decode cX4_isThere 3 = .ok (.aload_n 0, 1) := by decide +kernel
theorem dX4_isThere_4 : decode cX4_isThere 4 = .ok (.getfield 9, 3) := by decide +kernel
theorem dX4_isThere_7 : decode cX4_isThere 7 = .ok (.iconst 1, 1) := by decide +kernel
theorem dX4_isThere_8 : decode cX4_isThere 8 = .ok (.iaload, 1) := by decide +kernel
theorem dX4_isThere_9 : decode cX4_isThere 9 = .ok (.iconst 1, 1) := by decide +kernel
theorem dX4_isThere_10 : decode cX4_isThere 10 = .ok (.isub, 1) := by decide +kernel
theorem dX4_isThere_11 : decode cX4_isThere 11 = .ok (.invokestatic 41, 3) := by decide +kernel
theorem dX4_isThere_14 : decode cX4_isThere 14 = .ok (.ireturn, 1) := by decide +kernel
set_option maxRecDepth 20000 in
theorem ggX4_isSpeech_X4_in : GoodIn wsX4_isSpeech wsX4_in := goodIn_r _ [5] rfl (by decide +kernel)
set_option maxRecDepth 20000 in
theorem gX4_isSpeech_X4_in : GoodIn wsX4_isSpeech (va_wsS RX4 41 yX4_in wsX4_in) := goodIn_app (goodIn_of _ (by decide +kernel)) ggX4_isSpeech_X4_in
theorem dX4_isSpeech_0 : decode cX4_isSpeech 0 = .ok (.iload_n 1, 1) := by decide +kernel
theorem dX4_isSpeech_1 : decode cX4_isSpeech 1 = .ok (.i2l, 1) := by decide +kernel
theorem dX4_isSpeech_2 : decode cX4_isSpeech 2 = .ok (.iconst 0, 1) := by decide +kernel
theorem dX4_isSpeech_3 : decode cX4_isSpeech 3 = .ok (.aload_n 0, 1) := by decide +kernel
theorem dX4_isSpeech_4 : decode cX4_isSpeech 4 = .ok (.getfield 9, 3) := by decide +kernel
theorem dX4_isSpeech_7 : decode cX4_isSpeech 7 = .ok (.iconst 2, 1) := by decide +kernel
theorem dX4_isSpeech_8 : decode cX4_isSpeech 8 = .ok (.iaload, 1) := by decide +kernel
theorem dX4_isSpeech_9 : decode cX4_isSpeech 9 = .ok (.iconst 1, 1) := by decide +kernel
theorem dX4_isSpeech_10 : decode cX4_isSpeech 10 = .ok (.isub, 1) := by decide +kernel
theorem dX4_isSpeech_11 : decode cX4_isSpeech 11 = .ok (.invokestatic 41, 3) := by decide +kernel
theorem dX4_isSpeech_14 : decode cX4_isSpeech 14 = .ok (.ireturn, 1) := by decide +kernel
theorem dX4_it_0 : decode cX4_it 0 = .ok (.aload_n 0, 1) := by decide +kernel
theorem dX4_it_1 : decode cX4_it 1 = .ok (.getfield 9, 3) := by decide +kernel
theorem dX4_it_4 : decode cX4_it 4 = .ok (.iconst 3, 1) := by decide +kernel
theorem dX4_it_5 : decode cX4_it 5 = .ok (.iconst 5, 1) := by decide +kernel
theorem dX4_it_6 : decode cX4_it 6 = .ok (.iload_n 1, 1) := by decide +kernel
theorem dX4_it_7 : decode cX4_it 7 = .ok (.imul, 1) := by decide +kernel
theorem dX4_it_8 : decode cX4_it 8 = .ok (.iadd, 1) := by decide +kernel
theorem dX4_it_9 : decode cX4_it 9 = .ok (.iload_n 2, 1) := by decide +kernel
theorem dX4_it_10 : decode cX4_it 10 = .ok (.iadd, 1) := by decide +kernel
theorem dX4_it_11 : decode cX4_it 11 = .ok (.iaload, 1) := by decide +kernel
theorem dX4_it_12 : decode cX4_it 12 = .ok (.ireturn, 1) := by decide +kernel
theorem dX4_put_0 : decode cX4_put 0 = .ok (.aload_n 0, 1) := by decide +kernel
theorem dX4_put_1 : decode cX4_put 1 = .ok (.getfield 9, 3) := by decide +kernel
theorem dX4_put_4 : decode cX4_put 4 = .ok (.iconst 3, 1) := by decide +kernel
theorem dX4_put_5 : decode cX4_put 5 = .ok (.iconst 5, 1) := by decide +kernel
theorem dX4_put_6 : decode cX4_put 6 = .ok (.iload_n 1, 1) := by decide +kernel
theorem dX4_put_7 : decode cX4_put 7 = .ok (.imul, 1) := by decide +kernel
theorem dX4_put_8 : decode cX4_put 8 = .ok (.iadd, 1) := by decide +kernel
theorem dX4_put_9 : decode cX4_put 9 = .ok (.iload_n 2, 1) := by decide +kernel
theorem dX4_put_10 : decode cX4_put 10 = .ok (.iadd, 1) := by decide +kernel
theorem dX4_put_11 : decode cX4_put 11 = .ok (.iload_n 3, 1) := by decide +kernel
theorem dX4_put_12 : decode cX4_put 12 = .ok (.iastore, 1) := by decide +kernel
theorem dX4_put_13 : decode cX4_put 13 = .ok (.return_, 1) := by decide +kernel
theorem dX4_about_0 : decode cX4_about 0 = .ok (.aload_n 0, 1) := by decide +kernel
theorem dX4_about_1 : decode cX4_about 1 = .ok (.getfield 9, 3) := by decide +kernel
theorem dX4_about_4 : decode cX4_about 4 = .ok (.bipush 43, 2) := by decide +kernel
theorem dX4_about_6 : decode cX4_about 6 = .ok (.iconst 4, 1) := by decide +kernel
theorem dX4_about_7 : decode cX4_about 7 = .ok (.iload_n 1, 1) := by decide +kernel
theorem dX4_about_8 : decode cX4_about 8 = .ok (.imul, 1) := by decide +kernel
theorem dX4_about_9 : decode cX4_about 9 = .ok (.iadd, 1) := by decide +kernel
theorem dX4_about_10 : decode cX4_about 10 = .ok (.iload_n 2, 1) := by decide +kernel
theorem dX4_about_11 : decode cX4_about 11 = .ok (.iadd, 1) := by decide +kernel
theorem dX4_about_12 : decode cX4_about 12 = .ok (.iaload, 1) := by decide +kernel
theorem dX4_about_13 : decode cX4_about 13 = .ok (.ireturn, 1) := by decide +kernel
set_option maxRecDepth 20000 in
theorem ggX4_losesBy_X4_about : GoodIn wsX4_losesBy wsX4_about := goodIn_r _ [5, 6, 11, 12, 13, 14, 15, 16, 17, 18, 19, 20, 21, 22, 23, 24, 25, 26] rfl (by decide +kernel)
set_option maxRecDepth 20000 in
theorem gX4_losesBy_X4_about : GoodIn wsX4_losesBy (wsV RX4 45 RX4 yX4_about wsX4_about) := goodIn_app (goodIn_of _ (by decide +kernel)) ggX4_losesBy_X4_about
set_option maxRecDepth 20000 in
theorem ggX4_losesBy_X4_it : GoodIn wsX4_losesBy wsX4_it := goodIn_r _ [10, 6, 11, 12, 13, 14, 15, 16, 17, 18, 19, 20, 21, 22, 23, 24, 25, 26] rfl (by decide +kernel)
set_option maxRecDepth 20000 in
theorem gX4_losesBy_X4_it : GoodIn wsX4_losesBy (wsV RX4 49 RX4 yX4_it wsX4_it) := goodIn_app (goodIn_of _ (by decide +kernel)) ggX4_losesBy_X4_it
theorem dX4_losesBy_0 : decode cX4_losesBy 0 = .ok (.aload_n 0, 1) := by decide +kernel
theorem dX4_losesBy_1 : decode cX4_losesBy 1 = .ok (.iload_n 2, 1) := by decide +kernel
theorem dX4_losesBy_2 : decode cX4_losesBy 2 = .ok (.iconst 0, 1) := by decide +kernel
theorem dX4_losesBy_3 : decode cX4_losesBy 3 = .ok (.invokevirtual 45, 3) := by decide +kernel
theorem dX4_losesBy_6 : decode cX4_losesBy 6 = .ok (.iload_n 1, 1) := by decide +kernel
theorem dX4_losesBy_7 : decode cX4_losesBy 7 = .ok (.if_icmp .eq 12, 3) := by decide +kernel
theorem dX4_losesBy_10 : decode cX4_losesBy 10 = .ok (.aload_n 0, 1) := by decide +kernel
theorem dX4_losesBy_11 : decode cX4_losesBy 11 = .ok (.iload_n 2, 1) := by decide +kernel
theorem dX4_losesBy_12 : decode cX4_losesBy 12 = .ok (.iconst 2, 1) := by decide +kernel
theorem dX4_losesBy_13 : decode cX4_losesBy 13 = .ok (.invokevirtual 45, 3) := by decide +kernel
theorem dX4_losesBy_16 : decode cX4_losesBy 16 = .ok (.ifCond .ge 5, 3) := by decide +kernel
theorem dX4_losesBy_19 : decode cX4_losesBy 19 = .ok (.iconst 0, 1) := by decide +kernel
theorem dX4_losesBy_20 : decode cX4_losesBy 20 = .ok (.ireturn, 1) := by decide +kernel
theorem dX4_losesBy_21 : decode cX4_losesBy 21 = .ok (.aload_n 0, 1) := by decide +kernel
theorem dX4_losesBy_22 : decode cX4_losesBy 22 = .ok (.iload_n 2, 1) := by decide +kernel
theorem dX4_losesBy_23 : decode cX4_losesBy 23 = .ok (.iconst 2, 1) := by decide +kernel
theorem dX4_losesBy_24 : decode cX4_losesBy 24 = .ok (.invokevirtual 45, 3) := by decide +kernel
theorem dX4_losesBy_27 : decode cX4_losesBy 27 = .ok (.iload_n 1, 1) := by decide +kernel
theorem dX4_losesBy_28 : decode cX4_losesBy 28 = .ok (.if_icmp .ne 7, 3) := by decide +kernel
theorem dX4_losesBy_31 : decode cX4_losesBy 31 = .ok (.iload_n 3, 1) := by decide +kernel
theorem dX4_losesBy_32 : decode cX4_losesBy 32 = .ok (.goto 6, 3) := by decide +kernel
theorem dX4_losesBy_35 : decode cX4_losesBy 35 = .ok (.iload_n 3, 1) := by decide +kernel
theorem dX4_losesBy_36 : decode cX4_losesBy 36 = .ok (.iconst 5, 1) := by decide +kernel
theorem dX4_losesBy_37 : decode cX4_losesBy 37 = .ok (.idiv, 1) := by decide +kernel
theorem dX4_losesBy_38 : decode cX4_losesBy 38 = .ok (.istore 4, 2) := by decide +kernel
theorem dX4_losesBy_40 : decode cX4_losesBy 40 = .ok (.aload_n 0, 1) := by decide +kernel
theorem dX4_losesBy_41 : decode cX4_losesBy 41 = .ok (.iload_n 2, 1) := by decide +kernel
theorem dX4_losesBy_42 : decode cX4_losesBy 42 = .ok (.iconst 1, 1) := by decide +kernel
theorem dX4_losesBy_43 : decode cX4_losesBy 43 = .ok (.invokevirtual 45, 3) := by decide +kernel
theorem dX4_losesBy_46 : decode cX4_losesBy 46 = .ok (.iconst 1, 1) := by decide +kernel
theorem dX4_losesBy_47 : decode cX4_losesBy 47 = .ok (.if_icmp .ne 8, 3) := by decide +kernel
theorem dX4_losesBy_50 : decode cX4_losesBy 50 = .ok (.iload 4, 2) := by decide +kernel
theorem dX4_losesBy_52 : decode cX4_losesBy 52 = .ok (.goto 4, 3) := by decide +kernel
theorem dX4_losesBy_55 : decode cX4_losesBy 55 = .ok (.iconst 0, 1) := by decide +kernel
theorem dX4_losesBy_56 : decode cX4_losesBy 56 = .ok (.istore 5, 2) := by decide +kernel
theorem dX4_losesBy_58 : decode cX4_losesBy 58 = .ok (.iload 5, 2) := by decide +kernel
theorem dX4_losesBy_60 : decode cX4_losesBy 60 = .ok (.aload_n 0, 1) := by decide +kernel
theorem dX4_losesBy_61 : decode cX4_losesBy 61 = .ok (.iload_n 1, 1) := by decide +kernel
theorem dX4_losesBy_62 : decode cX4_losesBy 62 = .ok (.iconst 1, 1) := by decide +kernel
theorem dX4_losesBy_63 : decode cX4_losesBy 63 = .ok (.invokevirtual 49, 3) := by decide +kernel
theorem dX4_losesBy_66 : decode cX4_losesBy 66 = .ok (.iconst 2, 1) := by decide +kernel
theorem dX4_losesBy_67 : decode cX4_losesBy 67 = .ok (.idiv, 1) := by decide +kernel
theorem dX4_losesBy_68 : decode cX4_losesBy 68 = .ok (.isub, 1) := by decide +kernel
theorem dX4_losesBy_69 : decode cX4_losesBy 69 = .ok (.istore 6, 2) := by decide +kernel
theorem dX4_losesBy_71 : decode cX4_losesBy 71 = .ok (.aload_n 0, 1) := by decide +kernel
theorem dX4_losesBy_72 : decode cX4_losesBy 72 = .ok (.iload_n 1, 1) := by decide +kernel
theorem dX4_losesBy_73 : decode cX4_losesBy 73 = .ok (.iconst 0, 1) := by decide +kernel
theorem dX4_losesBy_74 : decode cX4_losesBy 74 = .ok (.invokevirtual 49, 3) := by decide +kernel
theorem dX4_losesBy_77 : decode cX4_losesBy 77 = .ok (.tableswitch 94 1 5 #[35, 38, 43, 62, 74], 35) := by decide +kernel
theorem dX4_losesBy_112 : decode cX4_losesBy 112 = .ok (.iload 5, 2) := by decide +kernel
theorem dX4_losesBy_114 : decode cX4_losesBy 114 = .ok (.ireturn, 1) := by decide +kernel
theorem dX4_losesBy_115 : decode cX4_losesBy 115 = .ok (.iload 4, 2) := by decide +kernel
theorem dX4_losesBy_117 : decode cX4_losesBy 117 = .ok (.iconst 2, 1) := by decide +kernel
theorem dX4_losesBy_118 : decode cX4_losesBy 118 = .ok (.idiv, 1) := by decide +kernel
theorem dX4_losesBy_119 : decode cX4_losesBy 119 = .ok (.ireturn, 1) := by decide +kernel
theorem dX4_losesBy_120 : decode cX4_losesBy 120 = .ok (.iload_n 3, 1) := by decide +kernel
theorem dX4_losesBy_121 : decode cX4_losesBy 121 = .ok (.ifCond .le 15, 3) := by decide +kernel
theorem dX4_losesBy_124 : decode cX4_losesBy 124 = .ok (.iload 4, 2) := by decide +kernel
theorem dX4_losesBy_126 : decode cX4_losesBy 126 = .ok (.aload_n 0, 1) := by decide +kernel
theorem dX4_losesBy_127 : decode cX4_losesBy 127 = .ok (.iload_n 1, 1) := by decide +kernel
theorem dX4_losesBy_128 : decode cX4_losesBy 128 = .ok (.iconst 1, 1) := by decide +kernel
theorem dX4_losesBy_129 : decode cX4_losesBy 129 = .ok (.invokevirtual 49, 3) := by decide +kernel
theorem dX4_losesBy_132 : decode cX4_losesBy 132 = .ok (.iadd, 1) := by decide +kernel
theorem dX4_losesBy_133 : decode cX4_losesBy 133 = .ok (.goto 5, 3) := by decide +kernel
theorem dX4_losesBy_136 : decode cX4_losesBy 136 = .ok (.iload 4, 2) := by decide +kernel
theorem dX4_losesBy_138 : decode cX4_losesBy 138 = .ok (.ireturn, 1) := by decide +kernel
theorem dX4_losesBy_139 : decode cX4_losesBy 139 = .ok (.iload 6, 2) := by decide +kernel
theorem dX4_losesBy_141 : decode cX4_losesBy 141 = .ok (.ifCond .ge 7, 3) := by decide +kernel
theorem dX4_losesBy_144 : decode cX4_losesBy 144 = .ok (.iconst 0, 1) := by decide +kernel
theorem dX4_losesBy_145 : decode cX4_losesBy 145 = .ok (.goto 5, 3) := by decide +kernel
theorem dX4_losesBy_148 : decode cX4_losesBy 148 = .ok (.iload 6, 2) := by decide +kernel
theorem dX4_losesBy_150 : decode cX4_losesBy 150 = .ok (.ireturn, 1) := by decide +kernel
theorem dX4_losesBy_151 : decode cX4_losesBy 151 = .ok (.iload_n 3, 1) := by decide +kernel
theorem dX4_losesBy_152 : decode cX4_losesBy 152 = .ok (.bipush 10, 2) := by decide +kernel
theorem dX4_losesBy_154 : decode cX4_losesBy 154 = .ok (.if_icmp .lt 12, 3) := by decide +kernel
theorem dX4_losesBy_157 : decode cX4_losesBy 157 = .ok (.iload 4, 2) := by decide +kernel
theorem dX4_losesBy_159 : decode cX4_losesBy 159 = .ok (.iconst 2, 1) := by decide +kernel
theorem dX4_losesBy_160 : decode cX4_losesBy 160 = .ok (.idiv, 1) := by decide +kernel
theorem dX4_losesBy_161 : decode cX4_losesBy 161 = .ok (.iconst 1, 1) := by decide +kernel
theorem dX4_losesBy_162 : decode cX4_losesBy 162 = .ok (.iadd, 1) := by decide +kernel
theorem dX4_losesBy_163 : decode cX4_losesBy 163 = .ok (.goto 7, 3) := by decide +kernel
theorem dX4_losesBy_166 : decode cX4_losesBy 166 = .ok (.iload 4, 2) := by decide +kernel
theorem dX4_losesBy_168 : decode cX4_losesBy 168 = .ok (.iconst 2, 1) := by decide +kernel
theorem dX4_losesBy_169 : decode cX4_losesBy 169 = .ok (.idiv, 1) := by decide +kernel
theorem dX4_losesBy_170 : decode cX4_losesBy 170 = .ok (.ireturn, 1) := by decide +kernel
theorem dX4_losesBy_171 : decode cX4_losesBy 171 = .ok (.iload 4, 2) := by decide +kernel
theorem dX4_losesBy_173 : decode cX4_losesBy 173 = .ok (.ireturn, 1) := by decide +kernel
set_option maxRecDepth 20000 in
theorem ggX4_rendersBy_X4_it : GoodIn wsX4_rendersBy wsX4_it := goodIn_r _ [5, 6, 10, 11, 12, 13, 14, 15, 16, 17, 18, 19, 20, 21, 22, 23, 24, 25] rfl (by decide +kernel)
set_option maxRecDepth 20000 in
theorem gX4_rendersBy_X4_it : GoodIn wsX4_rendersBy (wsV RX4 49 RX4 yX4_it wsX4_it) := goodIn_app (goodIn_of _ (by decide +kernel)) ggX4_rendersBy_X4_it
set_option maxRecDepth 20000 in
theorem ggX4_rendersBy_X4_held : GoodIn wsX4_rendersBy wsX4_held := goodIn_r _ [9] rfl (by decide +kernel)
set_option maxRecDepth 20000 in
theorem gX4_rendersBy_X4_held : GoodIn wsX4_rendersBy (va_wsS RX4 52 yX4_held wsX4_held) := goodIn_app (goodIn_of _ (by decide +kernel)) ggX4_rendersBy_X4_held
theorem dX4_rendersBy_0 : decode cX4_rendersBy 0 = .ok (.iload_n 2, 1) := by decide +kernel
theorem dX4_rendersBy_1 : decode cX4_rendersBy 1 = .ok (.aload_n 0, 1) := by decide +kernel
theorem dX4_rendersBy_2 : decode cX4_rendersBy 2 = .ok (.iload_n 1, 1) := by decide +kernel
theorem dX4_rendersBy_3 : decode cX4_rendersBy 3 = .ok (.iconst 1, 1) := by decide +kernel
theorem dX4_rendersBy_4 : decode cX4_rendersBy 4 = .ok (.invokevirtual 49, 3) := by decide +kernel
theorem dX4_rendersBy_7 : decode cX4_rendersBy 7 = .ok (.if_icmp .le 14, 3) := by decide +kernel
theorem dX4_rendersBy_10 : decode cX4_rendersBy 10 = .ok (.iload_n 2, 1) := by decide +kernel
theorem dX4_rendersBy_11 : decode cX4_rendersBy 11 = .ok (.aload_n 0, 1) := by decide +kernel
theorem dX4_rendersBy_12 : decode cX4_rendersBy 12 = .ok (.iload_n 1, 1) := by decide +kernel
theorem dX4_rendersBy_13 : decode cX4_rendersBy 13 = .ok (.iconst 1, 1) := by decide +kernel
theorem dX4_rendersBy_14 : decode cX4_rendersBy 14 = .ok (.invokevirtual 49, 3) := by decide +kernel
theorem dX4_rendersBy_17 : decode cX4_rendersBy 17 = .ok (.isub, 1) := by decide +kernel
theorem dX4_rendersBy_18 : decode cX4_rendersBy 18 = .ok (.goto 4, 3) := by decide +kernel
theorem dX4_rendersBy_21 : decode cX4_rendersBy 21 = .ok (.iconst 0, 1) := by decide +kernel
theorem dX4_rendersBy_22 : decode cX4_rendersBy 22 = .ok (.istore_n 3, 1) := by decide +kernel
theorem dX4_rendersBy_23 : decode cX4_rendersBy 23 = .ok (.aload_n 0, 1) := by decide +kernel
theorem dX4_rendersBy_24 : decode cX4_rendersBy 24 = .ok (.iload_n 1, 1) := by decide +kernel
theorem dX4_rendersBy_25 : decode cX4_rendersBy 25 = .ok (.iconst 0, 1) := by decide +kernel
theorem dX4_rendersBy_26 : decode cX4_rendersBy 26 = .ok (.invokevirtual 49, 3) := by decide +kernel
theorem dX4_rendersBy_29 : decode cX4_rendersBy 29 = .ok (.tableswitch 76 1 5 #[35, 39, 41, 51, 64], 35) := by decide +kernel
theorem dX4_rendersBy_64 : decode cX4_rendersBy 64 = .ok (.iload_n 2, 1) := by decide +kernel
theorem dX4_rendersBy_65 : decode cX4_rendersBy 65 = .ok (.iconst 2, 1) := by decide +kernel
theorem dX4_rendersBy_66 : decode cX4_rendersBy 66 = .ok (.idiv, 1) := by decide +kernel
theorem dX4_rendersBy_67 : decode cX4_rendersBy 67 = .ok (.ireturn, 1) := by decide +kernel
theorem dX4_rendersBy_68 : decode cX4_rendersBy 68 = .ok (.iload_n 2, 1) := by decide +kernel
theorem dX4_rendersBy_69 : decode cX4_rendersBy 69 = .ok (.ireturn, 1) := by decide +kernel
theorem dX4_rendersBy_70 : decode cX4_rendersBy 70 = .ok (.iconst 2, 1) := by decide +kernel
theorem dX4_rendersBy_71 : decode cX4_rendersBy 71 = .ok (.iload_n 3, 1) := by decide +kernel
theorem dX4_rendersBy_72 : decode cX4_rendersBy 72 = .ok (.imul, 1) := by decide +kernel
theorem dX4_rendersBy_73 : decode cX4_rendersBy 73 = .ok (.iconst 0, 1) := by decide +kernel
theorem dX4_rendersBy_74 : decode cX4_rendersBy 74 = .ok (.bipush 99, 2) := by decide +kernel
theorem dX4_rendersBy_76 : decode cX4_rendersBy 76 = .ok (.invokestatic 52, 3) := by decide +kernel
theorem dX4_rendersBy_79 : decode cX4_rendersBy 79 = .ok (.ireturn, 1) := by decide +kernel
theorem dX4_rendersBy_80 : decode cX4_rendersBy 80 = .ok (.iload_n 2, 1) := by decide +kernel
theorem dX4_rendersBy_81 : decode cX4_rendersBy 81 = .ok (.iconst 2, 1) := by decide +kernel
theorem dX4_rendersBy_82 : decode cX4_rendersBy 82 = .ok (.idiv, 1) := by decide +kernel
theorem dX4_rendersBy_83 : decode cX4_rendersBy 83 = .ok (.aload_n 0, 1) := by decide +kernel
theorem dX4_rendersBy_84 : decode cX4_rendersBy 84 = .ok (.iload_n 1, 1) := by decide +kernel
theorem dX4_rendersBy_85 : decode cX4_rendersBy 85 = .ok (.iconst 1, 1) := by decide +kernel
theorem dX4_rendersBy_86 : decode cX4_rendersBy 86 = .ok (.invokevirtual 49, 3) := by decide +kernel
theorem dX4_rendersBy_89 : decode cX4_rendersBy 89 = .ok (.iconst 4, 1) := by decide +kernel
theorem dX4_rendersBy_90 : decode cX4_rendersBy 90 = .ok (.idiv, 1) := by decide +kernel
theorem dX4_rendersBy_91 : decode cX4_rendersBy 91 = .ok (.iadd, 1) := by decide +kernel
theorem dX4_rendersBy_92 : decode cX4_rendersBy 92 = .ok (.ireturn, 1) := by decide +kernel
theorem dX4_rendersBy_93 : decode cX4_rendersBy 93 = .ok (.iload_n 2, 1) := by decide +kernel
theorem dX4_rendersBy_94 : decode cX4_rendersBy 94 = .ok (.ifCond .le 9, 3) := by decide +kernel
theorem dX4_rendersBy_97 : decode cX4_rendersBy 97 = .ok (.iload_n 2, 1) := by decide +kernel
theorem dX4_rendersBy_98 : decode cX4_rendersBy 98 = .ok (.iconst 1, 1) := by decide +kernel
theorem dX4_rendersBy_99 : decode cX4_rendersBy 99 = .ok (.isub, 1) := by decide +kernel
theorem dX4_rendersBy_100 : decode cX4_rendersBy 100 = .ok (.goto 4, 3) := by decide +kernel
theorem dX4_rendersBy_103 : decode cX4_rendersBy 103 = .ok (.iconst 0, 1) := by decide +kernel
theorem dX4_rendersBy_104 : decode cX4_rendersBy 104 = .ok (.ireturn, 1) := by decide +kernel
theorem dX4_rendersBy_105 : decode cX4_rendersBy 105 = .ok (.iload_n 3, 1) := by decide +kernel
theorem dX4_rendersBy_106 : decode cX4_rendersBy 106 = .ok (.ireturn, 1) := by decide +kernel
set_option maxRecDepth 20000 in
theorem ggX4_doesWeep_X4_it : GoodIn wsX4_doesWeep wsX4_it := goodIn_r _ [6, 1, 7, 8, 9, 10, 11, 12, 13, 14, 15, 16, 17, 18, 19, 20, 21, 22] rfl (by decide +kernel)
set_option maxRecDepth 20000 in
theorem gX4_doesWeep_X4_it : GoodIn wsX4_doesWeep (wsV RX4 49 RX4 yX4_it wsX4_it) := goodIn_app (goodIn_of _ (by decide +kernel)) ggX4_doesWeep_X4_it
theorem dX4_doesWeep_0 : decode cX4_doesWeep 0 = .ok (.aload_n 0, 1) := by decide +kernel
theorem dX4_doesWeep_1 : decode cX4_doesWeep 1 = .ok (.iload_n 1, 1) := by decide +kernel
theorem dX4_doesWeep_2 : decode cX4_doesWeep 2 = .ok (.iconst 3, 1) := by decide +kernel
theorem dX4_doesWeep_3 : decode cX4_doesWeep 3 = .ok (.invokevirtual 49, 3) := by decide +kernel
theorem dX4_doesWeep_6 : decode cX4_doesWeep 6 = .ok (.istore_n 2, 1) := by decide +kernel
theorem dX4_doesWeep_7 : decode cX4_doesWeep 7 = .ok (.aload_n 0, 1) := by decide +kernel
theorem dX4_doesWeep_8 : decode cX4_doesWeep 8 = .ok (.iload_n 1, 1) := by decide +kernel
theorem dX4_doesWeep_9 : decode cX4_doesWeep 9 = .ok (.iconst 0, 1) := by decide +kernel
theorem dX4_doesWeep_10 : decode cX4_doesWeep 10 = .ok (.invokevirtual 49, 3) := by decide +kernel
theorem dX4_doesWeep_13 : decode cX4_doesWeep 13 = .ok (.tableswitch 106 1 5 #[35, 48, 50, 62, 86], 35) := by decide +kernel
theorem dX4_doesWeep_48 : decode cX4_doesWeep 48 = .ok (.iload_n 2, 1) := by decide +kernel
theorem dX4_doesWeep_49 : decode cX4_doesWeep 49 = .ok (.sipush 400, 3) := by decide +kernel
theorem dX4_doesWeep_52 : decode cX4_doesWeep 52 = .ok (.if_icmp .lt 7, 3) := by decide +kernel
theorem dX4_doesWeep_55 : decode cX4_doesWeep 55 = .ok (.iconst 1, 1) := by decide +kernel
theorem dX4_doesWeep_56 : decode cX4_doesWeep 56 = .ok (.goto 4, 3) := by decide +kernel
theorem dX4_doesWeep_59 : decode cX4_doesWeep 59 = .ok (.iconst 0, 1) := by decide +kernel
theorem dX4_doesWeep_60 : decode cX4_doesWeep 60 = .ok (.ireturn, 1) := by decide +kernel
theorem dX4_doesWeep_61 : decode cX4_doesWeep 61 = .ok (.iconst 0, 1) := by decide +kernel
theorem dX4_doesWeep_62 : decode cX4_doesWeep 62 = .ok (.ireturn, 1) := by decide +kernel
theorem dX4_doesWeep_63 : decode cX4_doesWeep 63 = .ok (.iload_n 2, 1) := by decide +kernel
theorem dX4_doesWeep_64 : decode cX4_doesWeep 64 = .ok (.bipush 40, 2) := by decide +kernel
theorem dX4_doesWeep_66 : decode cX4_doesWeep 66 = .ok (.if_icmp .lt 7, 3) := by decide +kernel
theorem dX4_doesWeep_69 : decode cX4_doesWeep 69 = .ok (.iconst 1, 1) := by decide +kernel
theorem dX4_doesWeep_70 : decode cX4_doesWeep 70 = .ok (.goto 4, 3) := by decide +kernel
theorem dX4_doesWeep_73 : decode cX4_doesWeep 73 = .ok (.iconst 0, 1) := by decide +kernel
theorem dX4_doesWeep_74 : decode cX4_doesWeep 74 = .ok (.ireturn, 1) := by decide +kernel
theorem dX4_doesWeep_75 : decode cX4_doesWeep 75 = .ok (.iload_n 2, 1) := by decide +kernel
theorem dX4_doesWeep_76 : decode cX4_doesWeep 76 = .ok (.sipush 400, 3) := by decide +kernel
theorem dX4_doesWeep_79 : decode cX4_doesWeep 79 = .ok (.if_icmp .lt 18, 3) := by decide +kernel
theorem dX4_doesWeep_82 : decode cX4_doesWeep 82 = .ok (.aload_n 0, 1) := by decide +kernel
theorem dX4_doesWeep_83 : decode cX4_doesWeep 83 = .ok (.iload_n 1, 1) := by decide +kernel
theorem dX4_doesWeep_84 : decode cX4_doesWeep 84 = .ok (.iconst 1, 1) := by decide +kernel
theorem dX4_doesWeep_85 : decode cX4_doesWeep 85 = .ok (.invokevirtual 49, 3) := by decide +kernel
theorem dX4_doesWeep_88 : decode cX4_doesWeep 88 = .ok (.bipush 10, 2) := by decide +kernel
theorem dX4_doesWeep_90 : decode cX4_doesWeep 90 = .ok (.if_icmp .gt 7, 3) := by decide +kernel
theorem dX4_doesWeep_93 : decode cX4_doesWeep 93 = .ok (.iconst 1, 1) := by decide +kernel
theorem dX4_doesWeep_94 : decode cX4_doesWeep 94 = .ok (.goto 4, 3) := by decide +kernel
theorem dX4_doesWeep_97 : decode cX4_doesWeep 97 = .ok (.iconst 0, 1) := by decide +kernel
theorem dX4_doesWeep_98 : decode cX4_doesWeep 98 = .ok (.ireturn, 1) := by decide +kernel
theorem dX4_doesWeep_99 : decode cX4_doesWeep 99 = .ok (.aload_n 0, 1) := by decide +kernel
theorem dX4_doesWeep_100 : decode cX4_doesWeep 100 = .ok (.getfield 9, 3) := by decide +kernel
theorem dX4_doesWeep_103 : decode cX4_doesWeep 103 = .ok (.iconst 0, 1) := by decide +kernel
theorem dX4_doesWeep_104 : decode cX4_doesWeep 104 = .ok (.iaload, 1) := by decide +kernel
theorem dX4_doesWeep_105 : decode cX4_doesWeep 105 = .ok (.bipush 7, 2) := by decide +kernel
theorem dX4_doesWeep_107 : decode cX4_doesWeep 107 = .ok (.irem, 1) := by decide +kernel
theorem dX4_doesWeep_108 : decode cX4_doesWeep 108 = .ok (.bipush 6, 2) := by decide +kernel
theorem dX4_doesWeep_110 : decode cX4_doesWeep 110 = .ok (.if_icmp .ne 7, 3) := by decide +kernel
theorem dX4_doesWeep_113 : decode cX4_doesWeep 113 = .ok (.iconst 1, 1) := by decide +kernel
theorem dX4_doesWeep_114 : decode cX4_doesWeep 114 = .ok (.goto 4, 3) := by decide +kernel
theorem dX4_doesWeep_117 : decode cX4_doesWeep 117 = .ok (.iconst 0, 1) := by decide +kernel
theorem dX4_doesWeep_118 : decode cX4_doesWeep 118 = .ok (.ireturn, 1) := by decide +kernel
theorem dX4_doesWeep_119 : decode cX4_doesWeep 119 = .ok (.iload_n 2, 1) := by decide +kernel
theorem dX4_doesWeep_120 : decode cX4_doesWeep 120 = .ok (.bipush 100, 2) := by decide +kernel
theorem dX4_doesWeep_122 : decode cX4_doesWeep 122 = .ok (.if_icmp .lt 7, 3) := by decide +kernel
theorem dX4_doesWeep_125 : decode cX4_doesWeep 125 = .ok (.iconst 1, 1) := by decide +kernel
theorem dX4_doesWeep_126 : decode cX4_doesWeep 126 = .ok (.goto 4, 3) := by decide +kernel
theorem dX4_doesWeep_129 : decode cX4_doesWeep 129 = .ok (.iconst 0, 1) := by decide +kernel
theorem dX4_doesWeep_130 : decode cX4_doesWeep 130 = .ok (.ireturn, 1) := by decide +kernel
set_option maxRecDepth 20000 in
theorem ggX4_interpreter_X4_it : GoodIn wsX4_interpreter wsX4_it := goodIn_r _ [6, 1, 15, 16, 17, 18, 19, 20, 21, 22, 23, 24, 25, 26, 27, 28, 29, 30] rfl (by decide +kernel)
set_option maxRecDepth 20000 in
theorem gX4_interpreter_X4_it : GoodIn wsX4_interpreter (wsV RX4 49 RX4 yX4_it wsX4_it) := goodIn_app (goodIn_of _ (by decide +kernel)) ggX4_interpreter_X4_it
set_option maxRecDepth 20000 in
theorem ggX4_interpreter_X4_about : GoodIn wsX4_interpreter wsX4_about := goodIn_r _ [10, 1, 15, 16, 17, 18, 19, 20, 21, 22, 23, 24, 25, 26, 27, 28, 29, 30] rfl (by decide +kernel)
set_option maxRecDepth 20000 in
theorem gX4_interpreter_X4_about : GoodIn wsX4_interpreter (wsV RX4 45 RX4 yX4_about wsX4_about) := goodIn_app (goodIn_of _ (by decide +kernel)) ggX4_interpreter_X4_about
set_option maxRecDepth 20000 in
theorem ggX4_interpreter_X4_losesBy : GoodIn wsX4_interpreter wsX4_losesBy := goodIn_r _ [14, 7, 8, 9, 5, 10, 1, 2, 3, 4, 6, 15, 16, 17, 18, 19, 20, 21, 22, 23, 24, 25, 26, 27, 28, 29, 30] rfl (by decide +kernel)
set_option maxRecDepth 20000 in
theorem gX4_interpreter_X4_losesBy : GoodIn wsX4_interpreter (wsV RX4 56 RX4 yX4_losesBy wsX4_losesBy) := goodIn_app (goodIn_of _ (by decide +kernel)) ggX4_interpreter_X4_losesBy
theorem dX4_interpreter_0 : decode cX4_interpreter 0 = .ok (.iconst (-1), 1) := by decide +kernel
theorem dX4_interpreter_1 : decode cX4_interpreter 1 = .ok (.istore_n 2, 1) := by decide +kernel
theorem dX4_interpreter_2 : decode cX4_interpreter 2 = .ok (.iconst 0, 1) := by decide +kernel
theorem dX4_interpreter_3 : decode cX4_interpreter 3 = .ok (.istore_n 3, 1) := by decide +kernel
theorem dX4_interpreter_4 : decode cX4_interpreter 4 = .ok (.iconst 0, 1) := by decide +kernel
theorem dX4_interpreter_5 : decode cX4_interpreter 5 = .ok (.istore 4, 2) := by decide +kernel
theorem dX4_interpreter_7 : decode cX4_interpreter 7 = .ok (.iload 4, 2) := by decide +kernel
theorem dX4_interpreter_9 : decode cX4_interpreter 9 = .ok (.aload_n 0, 1) := by decide +kernel
theorem dX4_interpreter_10 : decode cX4_interpreter 10 = .ok (.getfield 9, 3) := by decide +kernel
theorem dX4_interpreter_13 : decode cX4_interpreter 13 = .ok (.iconst 1, 1) := by decide +kernel
theorem dX4_interpreter_14 : decode cX4_interpreter 14 = .ok (.iaload, 1) := by decide +kernel
theorem dX4_interpreter_15 : decode cX4_interpreter 15 = .ok (.if_icmp .ge 86, 3) := by decide +kernel
theorem dX4_interpreter_18 : decode cX4_interpreter 18 = .ok (.aload_n 0, 1) := by decide +kernel
theorem dX4_interpreter_19 : decode cX4_interpreter 19 = .ok (.iload 4, 2) := by decide +kernel
theorem dX4_interpreter_21 : decode cX4_interpreter 21 = .ok (.iconst 2, 1) := by decide +kernel
theorem dX4_interpreter_22 : decode cX4_interpreter 22 = .ok (.invokevirtual 49, 3) := by decide +kernel
theorem dX4_interpreter_25 : decode cX4_interpreter 25 = .ok (.aload_n 0, 1) := by decide +kernel
theorem dX4_interpreter_26 : decode cX4_interpreter 26 = .ok (.iload_n 1, 1) := by decide +kernel
theorem dX4_interpreter_27 : decode cX4_interpreter 27 = .ok (.iconst 1, 1) := by decide +kernel
theorem dX4_interpreter_28 : decode cX4_interpreter 28 = .ok (.invokevirtual 45, 3) := by decide +kernel
theorem dX4_interpreter_31 : decode cX4_interpreter 31 = .ok (.ishr, 1) := by decide +kernel
theorem dX4_interpreter_32 : decode cX4_interpreter 32 = .ok (.iconst 1, 1) := by decide +kernel
theorem dX4_interpreter_33 : decode cX4_interpreter 33 = .ok (.iand, 1) := by decide +kernel
theorem dX4_interpreter_34 : decode cX4_interpreter 34 = .ok (.iconst 1, 1) := by decide +kernel
theorem dX4_interpreter_35 : decode cX4_interpreter 35 = .ok (.if_icmp .ne 7, 3) := by decide +kernel
theorem dX4_interpreter_38 : decode cX4_interpreter 38 = .ok (.iconst 1, 1) := by decide +kernel
theorem dX4_interpreter_39 : decode cX4_interpreter 39 = .ok (.goto 4, 3) := by decide +kernel
theorem dX4_interpreter_42 : decode cX4_interpreter 42 = .ok (.iconst 0, 1) := by decide +kernel
theorem dX4_interpreter_43 : decode cX4_interpreter 43 = .ok (.istore 5, 2) := by decide +kernel
theorem dX4_interpreter_45 : decode cX4_interpreter 45 = .ok (.iload 5, 2) := by decide +kernel
theorem dX4_interpreter_47 : decode cX4_interpreter 47 = .ok (.ifCond .eq 19, 3) := by decide +kernel
theorem dX4_interpreter_50 : decode cX4_interpreter 50 = .ok (.aload_n 0, 1) := by decide +kernel
theorem dX4_interpreter_51 : decode cX4_interpreter 51 = .ok (.iload 4, 2) := by decide +kernel
theorem dX4_interpreter_53 : decode cX4_interpreter 53 = .ok (.iload_n 1, 1) := by decide +kernel
theorem dX4_interpreter_54 : decode cX4_interpreter 54 = .ok (.aload_n 0, 1) := by decide +kernel
theorem dX4_interpreter_55 : decode cX4_interpreter 55 = .ok (.iload_n 1, 1) := by decide +kernel
theorem dX4_interpreter_56 : decode cX4_interpreter 56 = .ok (.iconst 3, 1) := by decide +kernel
theorem dX4_interpreter_57 : decode cX4_interpreter 57 = .ok (.invokevirtual 45, 3) := by decide +kernel
theorem dX4_interpreter_60 : decode cX4_interpreter 60 = .ok (.invokevirtual 56, 3) := by decide +kernel
theorem dX4_interpreter_63 : decode cX4_interpreter 63 = .ok (.goto 4, 3) := by decide +kernel
theorem dX4_interpreter_66 : decode cX4_interpreter 66 = .ok (.iconst 0, 1) := by decide +kernel
theorem dX4_interpreter_67 : decode cX4_interpreter 67 = .ok (.istore 6, 2) := by decide +kernel
theorem dX4_interpreter_69 : decode cX4_interpreter 69 = .ok (.iload 6, 2) := by decide +kernel
theorem dX4_interpreter_71 : decode cX4_interpreter 71 = .ok (.iload_n 3, 1) := by decide +kernel
theorem dX4_interpreter_72 : decode cX4_interpreter 72 = .ok (.if_icmp .le 8, 3) := by decide +kernel
theorem dX4_interpreter_75 : decode cX4_interpreter 75 = .ok (.iload 4, 2) := by decide +kernel
theorem dX4_interpreter_77 : decode cX4_interpreter 77 = .ok (.goto 4, 3) := by decide +kernel
theorem dX4_interpreter_80 : decode cX4_interpreter 80 = .ok (.iload_n 2, 1) := by decide +kernel
theorem dX4_interpreter_81 : decode cX4_interpreter 81 = .ok (.istore_n 2, 1) := by decide +kernel
theorem dX4_interpreter_82 : decode cX4_interpreter 82 = .ok (.iload 6, 2) := by decide +kernel
theorem dX4_interpreter_84 : decode cX4_interpreter 84 = .ok (.iload_n 3, 1) := by decide +kernel
theorem dX4_interpreter_85 : decode cX4_interpreter 85 = .ok (.if_icmp .le 8, 3) := by decide +kernel
theorem dX4_interpreter_88 : decode cX4_interpreter 88 = .ok (.iload 6, 2) := by decide +kernel
theorem dX4_interpreter_90 : decode cX4_interpreter 90 = .ok (.goto 4, 3) := by decide +kernel
theorem dX4_interpreter_93 : decode cX4_interpreter 93 = .ok (.iload_n 3, 1) := by decide +kernel
theorem dX4_interpreter_94 : decode cX4_interpreter 94 = .ok (.istore_n 3, 1) := by decide +kernel
theorem dX4_interpreter_95 : decode cX4_interpreter 95 = .ok (.iinc 4 1, 3) := by decide +kernel
theorem dX4_interpreter_98 : decode cX4_interpreter 98 = .ok (.goto (-91), 3) := by decide +kernel
theorem dX4_interpreter_101 : decode cX4_interpreter 101 = .ok (.iload_n 2, 1) := by decide +kernel
theorem dX4_interpreter_102 : decode cX4_interpreter 102 = .ok (.ireturn, 1) := by decide +kernel
set_option maxRecDepth 20000 in
theorem ggX4_overBy_X4_interpreter : GoodIn wsX4_overBy wsX4_interpreter := goodIn_r _ [5, 6, 7, 8, 9, 4, 10, 11, 12, 13, 14, 15, 16, 17, 18, 26, 27, 28, 29, 30, 31, 32, 33, 34, 35, 36, 37, 38, 39, 40, 41] rfl (by decide +kernel)
set_option maxRecDepth 20000 in
theorem gX4_overBy_X4_interpreter : GoodIn wsX4_overBy (wsV RX4 59 RX4 yX4_interpreter wsX4_interpreter) := goodIn_app (goodIn_of _ (by decide +kernel)) ggX4_overBy_X4_interpreter
set_option maxRecDepth 20000 in
theorem ggX4_overBy_X4_about : GoodIn wsX4_overBy wsX4_about := goodIn_r _ [14, 6, 26, 27, 28, 29, 30, 31, 32, 33, 34, 35, 36, 37, 38, 39, 40, 41] rfl (by decide +kernel)
set_option maxRecDepth 20000 in
theorem gX4_overBy_X4_about : GoodIn wsX4_overBy (wsV RX4 45 RX4 yX4_about wsX4_about) := goodIn_app (goodIn_of _ (by decide +kernel)) ggX4_overBy_X4_about
set_option maxRecDepth 20000 in
theorem ggX4_overBy_X4_rendersBy : GoodIn wsX4_overBy wsX4_rendersBy := goodIn_r _ [22, 7, 8, 9, 4, 10, 6, 23, 24, 25, 26, 27, 28, 29, 30, 31, 32, 33, 34, 35, 36, 37, 38, 39, 40, 41] rfl (by decide +kernel)
set_option maxRecDepth 20000 in
theorem gX4_overBy_X4_rendersBy : GoodIn wsX4_overBy (wsV RX4 62 RX4 yX4_rendersBy wsX4_rendersBy) := goodIn_app (goodIn_of _ (by decide +kernel)) ggX4_overBy_X4_rendersBy
theorem dX4_overBy_0 : decode cX4_overBy 0 = .ok (.aload_n 0, 1) := by decide +kernel
theorem dX4_overBy_1 : decode cX4_overBy 1 = .ok (.iload_n 1, 1) := by decide +kernel
theorem dX4_overBy_2 : decode cX4_overBy 2 = .ok (.invokevirtual 59, 3) := by decide +kernel
theorem dX4_overBy_5 : decode cX4_overBy 5 = .ok (.istore_n 2, 1) := by decide +kernel
theorem dX4_overBy_6 : decode cX4_overBy 6 = .ok (.iload_n 2, 1) := by decide +kernel
theorem dX4_overBy_7 : decode cX4_overBy 7 = .ok (.ifCond .ge 7, 3) := by decide +kernel
theorem dX4_overBy_10 : decode cX4_overBy 10 = .ok (.iconst 0, 1) := by decide +kernel
theorem dX4_overBy_11 : decode cX4_overBy 11 = .ok (.goto 14, 3) := by decide +kernel
theorem dX4_overBy_14 : decode cX4_overBy 14 = .ok (.aload_n 0, 1) := by decide +kernel
theorem dX4_overBy_15 : decode cX4_overBy 15 = .ok (.iload_n 2, 1) := by decide +kernel
theorem dX4_overBy_16 : decode cX4_overBy 16 = .ok (.aload_n 0, 1) := by decide +kernel
theorem dX4_overBy_17 : decode cX4_overBy 17 = .ok (.iload_n 1, 1) := by decide +kernel
theorem dX4_overBy_18 : decode cX4_overBy 18 = .ok (.iconst 3, 1) := by decide +kernel
theorem dX4_overBy_19 : decode cX4_overBy 19 = .ok (.invokevirtual 45, 3) := by decide +kernel
theorem dX4_overBy_22 : decode cX4_overBy 22 = .ok (.invokevirtual 62, 3) := by decide +kernel
theorem dX4_overBy_25 : decode cX4_overBy 25 = .ok (.ireturn, 1) := by decide +kernel
set_option maxRecDepth 20000 in
theorem ggX4_comesAs_X4_put : GoodIn wsX4_comesAs wsX4_put := goodIn_r _ [6, 1, 7, 8, 9, 10, 11, 12, 13, 14, 15, 16, 17, 18, 19, 20, 21, 22] rfl (by decide +kernel)
set_option maxRecDepth 20000 in
theorem gX4_comesAs_X4_put : GoodIn wsX4_comesAs (wsV RX4 65 RX4 yX4_put wsX4_put) := goodIn_app (goodIn_of _ (by decide +kernel)) ggX4_comesAs_X4_put
theorem dX4_comesAs_0 : decode cX4_comesAs 0 = .ok (.aload_n 0, 1) := by decide +kernel
theorem dX4_comesAs_1 : decode cX4_comesAs 1 = .ok (.getfield 9, 3) := by decide +kernel
theorem dX4_comesAs_4 : decode cX4_comesAs 4 = .ok (.iconst 1, 1) := by decide +kernel
theorem dX4_comesAs_5 : decode cX4_comesAs 5 = .ok (.iaload, 1) := by decide +kernel
theorem dX4_comesAs_6 : decode cX4_comesAs 6 = .ok (.istore 4, 2) := by decide +kernel
theorem dX4_comesAs_8 : decode cX4_comesAs 8 = .ok (.aload_n 0, 1) := by decide +kernel
theorem dX4_comesAs_9 : decode cX4_comesAs 9 = .ok (.getfield 9, 3) := by decide +kernel
theorem dX4_comesAs_12 : decode cX4_comesAs 12 = .ok (.iconst 1, 1) := by decide +kernel
theorem dX4_comesAs_13 : decode cX4_comesAs 13 = .ok (.dup2, 1) := by decide +kernel
theorem dX4_comesAs_14 : decode cX4_comesAs 14 = .ok (.iaload, 1) := by decide +kernel
theorem dX4_comesAs_15 : decode cX4_comesAs 15 = .ok (.iconst 1, 1) := by decide +kernel
theorem dX4_comesAs_16 : decode cX4_comesAs 16 = .ok (.iadd, 1) := by decide +kernel
theorem dX4_comesAs_17 : decode cX4_comesAs 17 = .ok (.iastore, 1) := by decide +kernel
theorem dX4_comesAs_18 : decode cX4_comesAs 18 = .ok (.aload_n 0, 1) := by decide +kernel
theorem dX4_comesAs_19 : decode cX4_comesAs 19 = .ok (.iload 4, 2) := by decide +kernel
theorem dX4_comesAs_21 : decode cX4_comesAs 21 = .ok (.iconst 0, 1) := by decide +kernel
theorem dX4_comesAs_22 : decode cX4_comesAs 22 = .ok (.iload_n 1, 1) := by decide +kernel
theorem dX4_comesAs_23 : decode cX4_comesAs 23 = .ok (.invokevirtual 65, 3) := by decide +kernel
theorem dX4_comesAs_26 : decode cX4_comesAs 26 = .ok (.aload_n 0, 1) := by decide +kernel
theorem dX4_comesAs_27 : decode cX4_comesAs 27 = .ok (.iload 4, 2) := by decide +kernel
theorem dX4_comesAs_29 : decode cX4_comesAs 29 = .ok (.iconst 1, 1) := by decide +kernel
theorem dX4_comesAs_30 : decode cX4_comesAs 30 = .ok (.iload_n 2, 1) := by decide +kernel
theorem dX4_comesAs_31 : decode cX4_comesAs 31 = .ok (.invokevirtual 65, 3) := by decide +kernel
theorem dX4_comesAs_34 : decode cX4_comesAs 34 = .ok (.aload_n 0, 1) := by decide +kernel
theorem dX4_comesAs_35 : decode cX4_comesAs 35 = .ok (.iload 4, 2) := by decide +kernel
theorem dX4_comesAs_37 : decode cX4_comesAs 37 = .ok (.iconst 2, 1) := by decide +kernel
theorem dX4_comesAs_38 : decode cX4_comesAs 38 = .ok (.iload_n 3, 1) := by decide +kernel
theorem dX4_comesAs_39 : decode cX4_comesAs 39 = .ok (.invokevirtual 65, 3) := by decide +kernel
theorem dX4_comesAs_42 : decode cX4_comesAs 42 = .ok (.aload_n 0, 1) := by decide +kernel
theorem dX4_comesAs_43 : decode cX4_comesAs 43 = .ok (.iload 4, 2) := by decide +kernel
theorem dX4_comesAs_45 : decode cX4_comesAs 45 = .ok (.iconst 3, 1) := by decide +kernel
theorem dX4_comesAs_46 : decode cX4_comesAs 46 = .ok (.iconst 0, 1) := by decide +kernel
theorem dX4_comesAs_47 : decode cX4_comesAs 47 = .ok (.invokevirtual 65, 3) := by decide +kernel
theorem dX4_comesAs_50 : decode cX4_comesAs 50 = .ok (.aload_n 0, 1) := by decide +kernel
theorem dX4_comesAs_51 : decode cX4_comesAs 51 = .ok (.iload 4, 2) := by decide +kernel
theorem dX4_comesAs_53 : decode cX4_comesAs 53 = .ok (.iconst 4, 1) := by decide +kernel
theorem dX4_comesAs_54 : decode cX4_comesAs 54 = .ok (.iconst 0, 1) := by decide +kernel
theorem dX4_comesAs_55 : decode cX4_comesAs 55 = .ok (.invokevirtual 65, 3) := by decide +kernel
theorem dX4_comesAs_58 : decode cX4_comesAs 58 = .ok (.iload 4, 2) := by decide +kernel
theorem dX4_comesAs_60 : decode cX4_comesAs 60 = .ok (.ireturn, 1) := by decide +kernel
set_option maxRecDepth 20000 in
theorem ggX4_delegate_X4_in : GoodIn wsX4_delegate wsX4_in := goodIn_r _ [7] rfl (by decide +kernel)
set_option maxRecDepth 20000 in
theorem gX4_delegate_X4_in : GoodIn wsX4_delegate (va_wsS RX4 41 yX4_in wsX4_in) := goodIn_app (goodIn_of _ (by decide +kernel)) ggX4_delegate_X4_in
set_option maxRecDepth 20000 in
theorem ggX4_delegate_X4_finds : GoodIn wsX4_delegate wsX4_finds := goodIn_r _ [11, 12, 1, 21, 22, 23, 24, 25, 26, 27, 28, 29, 30, 31, 32, 33, 34, 35, 36] rfl (by decide +kernel)
set_option maxRecDepth 20000 in
theorem gX4_delegate_X4_finds : GoodIn wsX4_delegate (wsV RX4 37 RX4 yX4_finds wsX4_finds) := goodIn_app (goodIn_of _ (by decide +kernel)) ggX4_delegate_X4_finds
set_option maxRecDepth 20000 in
theorem ggX4_delegate_X4_comesAs : GoodIn wsX4_delegate wsX4_comesAs := goodIn_r _ [16, 2, 17, 18, 19, 6, 20, 21, 22, 23, 24, 25, 26, 27, 28, 29, 30, 31, 32, 33, 34, 35, 36] rfl (by decide +kernel)
set_option maxRecDepth 20000 in
theorem gX4_delegate_X4_comesAs : GoodIn wsX4_delegate (wsV RX4 70 RX4 yX4_comesAs wsX4_comesAs) := goodIn_app (goodIn_of _ (by decide +kernel)) ggX4_delegate_X4_comesAs
theorem dX4_delegate_0 : decode cX4_delegate 0 = .ok (.iload_n 1, 1) := by decide +kernel
theorem dX4_delegate_1 : decode cX4_delegate 1 = .ok (.i2l, 1) := by decide +kernel
theorem dX4_delegate_2 : decode cX4_delegate 2 = .ok (.iconst 0, 1) := by decide +kernel
theorem dX4_delegate_3 : decode cX4_delegate 3 = .ok (.iconst 5, 1) := by decide +kernel
theorem dX4_delegate_4 : decode cX4_delegate 4 = .ok (.invokestatic 41, 3) := by decide +kernel
theorem dX4_delegate_7 : decode cX4_delegate 7 = .ok (.ifCond .ne 10, 3) := by decide +kernel
theorem dX4_delegate_10 : decode cX4_delegate 10 = .ok (.aload_n 0, 1) := by decide +kernel
theorem dX4_delegate_11 : decode cX4_delegate 11 = .ok (.ldc 35, 2) := by decide +kernel
theorem dX4_delegate_13 : decode cX4_delegate 13 = .ok (.invokevirtual 37, 3) := by decide +kernel
theorem dX4_delegate_16 : decode cX4_delegate 16 = .ok (.ireturn, 1) := by decide +kernel
theorem dX4_delegate_17 : decode cX4_delegate 17 = .ok (.aload_n 0, 1) := by decide +kernel
theorem dX4_delegate_18 : decode cX4_delegate 18 = .ok (.getfield 9, 3) := by decide +kernel
theorem dX4_delegate_21 : decode cX4_delegate 21 = .ok (.iconst 1, 1) := by decide +kernel
theorem dX4_delegate_22 : decode cX4_delegate 22 = .ok (.iaload, 1) := by decide +kernel
theorem dX4_delegate_23 : decode cX4_delegate 23 = .ok (.bipush 8, 2) := by decide +kernel
theorem dX4_delegate_25 : decode cX4_delegate 25 = .ok (.if_icmp .ne 12, 3) := by decide +kernel
theorem dX4_delegate_28 : decode cX4_delegate 28 = .ok (.aload_n 0, 1) := by decide +kernel
theorem dX4_delegate_29 : decode cX4_delegate 29 = .ok (.ldc 69, 2) := by decide +kernel
theorem dX4_delegate_31 : decode cX4_delegate 31 = .ok (.invokevirtual 37, 3) := by decide +kernel
theorem dX4_delegate_34 : decode cX4_delegate 34 = .ok (.goto 10, 3) := by decide +kernel
theorem dX4_delegate_37 : decode cX4_delegate 37 = .ok (.aload_n 0, 1) := by decide +kernel
theorem dX4_delegate_38 : decode cX4_delegate 38 = .ok (.iload_n 1, 1) := by decide +kernel
theorem dX4_delegate_39 : decode cX4_delegate 39 = .ok (.iconst 5, 1) := by decide +kernel
theorem dX4_delegate_40 : decode cX4_delegate 40 = .ok (.iconst 1, 1) := by decide +kernel
theorem dX4_delegate_41 : decode cX4_delegate 41 = .ok (.invokevirtual 70, 3) := by decide +kernel
theorem dX4_delegate_44 : decode cX4_delegate 44 = .ok (.ireturn, 1) := by decide +kernel
set_option maxRecDepth 20000 in
theorem ggX4_of_X4_isThere : GoodIn wsX4_of wsX4_isThere := goodIn_r _ [6, 7, 8, 9, 5, 10, 24, 25, 26, 27, 28, 29, 30, 31, 32, 33, 34, 35, 36, 37, 38, 39] rfl (by decide +kernel)
set_option maxRecDepth 20000 in
theorem gX4_of_X4_isThere : GoodIn wsX4_of (wsV RX4 73 RX4 yX4_isThere wsX4_isThere) := goodIn_app (goodIn_of _ (by decide +kernel)) ggX4_of_X4_isThere
set_option maxRecDepth 20000 in
theorem ggX4_of_X4_in : GoodIn wsX4_of wsX4_in := goodIn_r _ [10] rfl (by decide +kernel)
set_option maxRecDepth 20000 in
theorem gX4_of_X4_in : GoodIn wsX4_of (va_wsS RX4 41 yX4_in wsX4_in) := goodIn_app (goodIn_of _ (by decide +kernel)) ggX4_of_X4_in
set_option maxRecDepth 20000 in
theorem ggX4_of_X4_finds : GoodIn wsX4_of wsX4_finds := goodIn_r _ [14, 15, 1, 24, 25, 26, 27, 28, 29, 30, 31, 32, 33, 34, 35, 36, 37, 38, 39] rfl (by decide +kernel)
set_option maxRecDepth 20000 in
theorem gX4_of_X4_finds : GoodIn wsX4_of (wsV RX4 37 RX4 yX4_finds wsX4_finds) := goodIn_app (goodIn_of _ (by decide +kernel)) ggX4_of_X4_finds
set_option maxRecDepth 20000 in
theorem ggX4_of_X4_it : GoodIn wsX4_of wsX4_it := goodIn_r _ [19, 7, 24, 25, 26, 27, 28, 29, 30, 31, 32, 33, 34, 35, 36, 37, 38, 39] rfl (by decide +kernel)
set_option maxRecDepth 20000 in
theorem gX4_of_X4_it : GoodIn wsX4_of (wsV RX4 49 RX4 yX4_it wsX4_it) := goodIn_app (goodIn_of _ (by decide +kernel)) ggX4_of_X4_it
set_option maxRecDepth 20000 in
theorem ggX4_of_X4_doesWeep : GoodIn wsX4_of wsX4_doesWeep := goodIn_r _ [23, 7, 16, 17, 18, 5, 19, 24, 25, 26, 27, 28, 29, 30, 31, 32, 33, 34, 35, 36, 37, 38, 39] rfl (by decide +kernel)
set_option maxRecDepth 20000 in
theorem gX4_of_X4_doesWeep : GoodIn wsX4_of (wsV RX4 77 RX4 yX4_doesWeep wsX4_doesWeep) := goodIn_app (goodIn_of _ (by decide +kernel)) ggX4_of_X4_doesWeep
theorem dX4_of_0 : decode cX4_of 0 = .ok (.aload_n 0, 1) := by decide +kernel
theorem dX4_of_1 : decode cX4_of 1 = .ok (.iload_n 1, 1) := by decide +kernel
theorem dX4_of_2 : decode cX4_of 2 = .ok (.invokevirtual 73, 3) := by decide +kernel
theorem dX4_of_5 : decode cX4_of 5 = .ok (.ifCond .eq 13, 3) := by decide +kernel
theorem dX4_of_8 : decode cX4_of 8 = .ok (.iload_n 2, 1) := by decide +kernel
theorem dX4_of_9 : decode cX4_of 9 = .ok (.i2l, 1) := by decide +kernel
theorem dX4_of_10 : decode cX4_of 10 = .ok (.iconst 0, 1) := by decide +kernel
theorem dX4_of_11 : decode cX4_of 11 = .ok (.iconst 5, 1) := by decide +kernel
theorem dX4_of_12 : decode cX4_of 12 = .ok (.invokestatic 41, 3) := by decide +kernel
theorem dX4_of_15 : decode cX4_of 15 = .ok (.ifCond .ne 10, 3) := by decide +kernel
theorem dX4_of_18 : decode cX4_of 18 = .ok (.aload_n 0, 1) := by decide +kernel
theorem dX4_of_19 : decode cX4_of 19 = .ok (.ldc 35, 2) := by decide +kernel
theorem dX4_of_21 : decode cX4_of 21 = .ok (.invokevirtual 37, 3) := by decide +kernel
theorem dX4_of_24 : decode cX4_of 24 = .ok (.ireturn, 1) := by decide +kernel
theorem dX4_of_25 : decode cX4_of 25 = .ok (.iload_n 2, 1) := by decide +kernel
theorem dX4_of_26 : decode cX4_of 26 = .ok (.iconst 5, 1) := by decide +kernel
theorem dX4_of_27 : decode cX4_of 27 = .ok (.if_icmp .ge 12, 3) := by decide +kernel
theorem dX4_of_30 : decode cX4_of 30 = .ok (.aload_n 0, 1) := by decide +kernel
theorem dX4_of_31 : decode cX4_of 31 = .ok (.iload_n 1, 1) := by decide +kernel
theorem dX4_of_32 : decode cX4_of 32 = .ok (.iload_n 2, 1) := by decide +kernel
theorem dX4_of_33 : decode cX4_of 33 = .ok (.invokevirtual 49, 3) := by decide +kernel
theorem dX4_of_36 : decode cX4_of 36 = .ok (.goto 16, 3) := by decide +kernel
theorem dX4_of_39 : decode cX4_of 39 = .ok (.aload_n 0, 1) := by decide +kernel
theorem dX4_of_40 : decode cX4_of 40 = .ok (.iload_n 1, 1) := by decide +kernel
theorem dX4_of_41 : decode cX4_of 41 = .ok (.invokevirtual 77, 3) := by decide +kernel
theorem dX4_of_44 : decode cX4_of 44 = .ok (.ifCond .eq 7, 3) := by decide +kernel
theorem dX4_of_47 : decode cX4_of 47 = .ok (.iconst 1, 1) := by decide +kernel
theorem dX4_of_48 : decode cX4_of 48 = .ok (.goto 4, 3) := by decide +kernel
theorem dX4_of_51 : decode cX4_of 51 = .ok (.iconst 0, 1) := by decide +kernel
theorem dX4_of_52 : decode cX4_of 52 = .ok (.ireturn, 1) := by decide +kernel
theorem dX4_mostOf_0 : decode cX4_mostOf 0 = .ok (.iload_n 0, 1) := by decide +kernel
theorem dX4_mostOf_1 : decode cX4_mostOf 1 = .ok (.iconst 1, 1) := by decide +kernel
theorem dX4_mostOf_2 : decode cX4_mostOf 2 = .ok (.if_icmp .ne 8, 3) := by decide +kernel
theorem dX4_mostOf_5 : decode cX4_mostOf 5 = .ok (.bipush 20, 2) := by decide +kernel
theorem dX4_mostOf_7 : decode cX4_mostOf 7 = .ok (.goto 26, 3) := by decide +kernel
theorem dX4_mostOf_10 : decode cX4_mostOf 10 = .ok (.iload_n 0, 1) := by decide +kernel
theorem dX4_mostOf_11 : decode cX4_mostOf 11 = .ok (.iconst 2, 1) := by decide +kernel
theorem dX4_mostOf_12 : decode cX4_mostOf 12 = .ok (.if_icmp .ne 8, 3) := by decide +kernel
theorem dX4_mostOf_15 : decode cX4_mostOf 15 = .ok (.bipush 15, 2) := by decide +kernel
theorem dX4_mostOf_17 : decode cX4_mostOf 17 = .ok (.goto 16, 3) := by decide +kernel
theorem dX4_mostOf_20 : decode cX4_mostOf 20 = .ok (.iload_n 0, 1) := by decide +kernel
theorem dX4_mostOf_21 : decode cX4_mostOf 21 = .ok (.iconst 3, 1) := by decide +kernel
theorem dX4_mostOf_22 : decode cX4_mostOf 22 = .ok (.if_icmp .ne 8, 3) := by decide +kernel
theorem dX4_mostOf_25 : decode cX4_mostOf 25 = .ok (.ldc 80, 2) := by decide +kernel
theorem dX4_mostOf_27 : decode cX4_mostOf 27 = .ok (.goto 6, 3) := by decide +kernel
theorem dX4_mostOf_30 : decode cX4_mostOf 30 = .ok (.sipush 999, 3) := by decide +kernel
theorem dX4_mostOf_33 : decode cX4_mostOf 33 = .ok (.ireturn, 1) := by decide +kernel
set_option maxRecDepth 20000 in
theorem ggX4_set_X4_isThere : GoodIn wsX4_set wsX4_isThere := goodIn_r _ [6, 7, 8, 9, 5, 10, 24, 25, 26, 27, 28, 29, 30, 31, 32, 33, 34, 35, 36, 37, 38, 39] rfl (by decide +kernel)
set_option maxRecDepth 20000 in
theorem gX4_set_X4_isThere : GoodIn wsX4_set (wsV RX4 73 RX4 yX4_isThere wsX4_isThere) := goodIn_app (goodIn_of _ (by decide +kernel)) ggX4_set_X4_isThere
set_option maxRecDepth 20000 in
theorem ggX4_set_X4_in : GoodIn wsX4_set wsX4_in := goodIn_r _ [10] rfl (by decide +kernel)
set_option maxRecDepth 20000 in
theorem gX4_set_X4_in : GoodIn wsX4_set (va_wsS RX4 41 yX4_in wsX4_in) := goodIn_app (goodIn_of _ (by decide +kernel)) ggX4_set_X4_in
set_option maxRecDepth 20000 in
theorem ggX4_set_X4_mostOf : GoodIn wsX4_set wsX4_mostOf := goodIn_r _ [13, 14] rfl (by decide +kernel)
set_option maxRecDepth 20000 in
theorem gX4_set_X4_mostOf : GoodIn wsX4_set (va_wsS RX4 81 yX4_mostOf wsX4_mostOf) := goodIn_app (goodIn_of _ (by decide +kernel)) ggX4_set_X4_mostOf
set_option maxRecDepth 20000 in
theorem ggX4_set_X4_becomes : GoodIn wsX4_set wsX4_becomes := goodIn_r _ [18, 7, 24, 25, 26, 27, 28, 29, 30, 31, 32, 33, 34, 35, 36, 37, 38, 39] rfl (by decide +kernel)
set_option maxRecDepth 20000 in
theorem gX4_set_X4_becomes : GoodIn wsX4_set (wsV RX4 84 RX4 yX4_becomes wsX4_becomes) := goodIn_app (goodIn_of _ (by decide +kernel)) ggX4_set_X4_becomes
set_option maxRecDepth 20000 in
theorem ggX4_set_X4_finds : GoodIn wsX4_set wsX4_finds := goodIn_r _ [22, 23, 1, 24, 25, 26, 27, 28, 29, 30, 31, 32, 33, 34, 35, 36, 37, 38, 39] rfl (by decide +kernel)
set_option maxRecDepth 20000 in
theorem gX4_set_X4_finds : GoodIn wsX4_set (wsV RX4 37 RX4 yX4_finds wsX4_finds) := goodIn_app (goodIn_of _ (by decide +kernel)) ggX4_set_X4_finds
theorem dX4_set_0 : decode cX4_set 0 = .ok (.aload_n 0, 1) := by decide +kernel
theorem dX4_set_1 : decode cX4_set 1 = .ok (.iload_n 1, 1) := by decide +kernel
theorem dX4_set_2 : decode cX4_set 2 = .ok (.invokevirtual 73, 3) := by decide +kernel
theorem dX4_set_5 : decode cX4_set 5 = .ok (.ifCond .eq 30, 3) := by decide +kernel
theorem dX4_set_8 : decode cX4_set 8 = .ok (.iload_n 2, 1) := by decide +kernel
theorem dX4_set_9 : decode cX4_set 9 = .ok (.i2l, 1) := by decide +kernel
theorem dX4_set_10 : decode cX4_set 10 = .ok (.iconst 1, 1) := by decide +kernel
theorem dX4_set_11 : decode cX4_set 11 = .ok (.iconst 4, 1) := by decide +kernel
theorem dX4_set_12 : decode cX4_set 12 = .ok (.invokestatic 41, 3) := by decide +kernel
theorem dX4_set_15 : decode cX4_set 15 = .ok (.ifCond .eq 20, 3) := by decide +kernel
theorem dX4_set_18 : decode cX4_set 18 = .ok (.iload_n 3, 1) := by decide +kernel
theorem dX4_set_19 : decode cX4_set 19 = .ok (.i2l, 1) := by decide +kernel
theorem dX4_set_20 : decode cX4_set 20 = .ok (.iconst 0, 1) := by decide +kernel
theorem dX4_set_21 : decode cX4_set 21 = .ok (.iload_n 2, 1) := by decide +kernel
theorem dX4_set_22 : decode cX4_set 22 = .ok (.invokestatic 81, 3) := by decide +kernel
theorem dX4_set_25 : decode cX4_set 25 = .ok (.invokestatic 41, 3) := by decide +kernel
theorem dX4_set_28 : decode cX4_set 28 = .ok (.ifCond .eq 7, 3) := by decide +kernel
theorem dX4_set_31 : decode cX4_set 31 = .ok (.iconst 1, 1) := by decide +kernel
theorem dX4_set_32 : decode cX4_set 32 = .ok (.goto 4, 3) := by decide +kernel
theorem dX4_set_35 : decode cX4_set 35 = .ok (.iconst 0, 1) := by decide +kernel
theorem dX4_set_36 : decode cX4_set 36 = .ok (.istore 4, 2) := by decide +kernel
theorem dX4_set_38 : decode cX4_set 38 = .ok (.iload 4, 2) := by decide +kernel
theorem dX4_set_40 : decode cX4_set 40 = .ok (.ifCond .eq 18, 3) := by decide +kernel
theorem dX4_set_43 : decode cX4_set 43 = .ok (.aload_n 0, 1) := by decide +kernel
theorem dX4_set_44 : decode cX4_set 44 = .ok (.iconst 3, 1) := by decide +kernel
theorem dX4_set_45 : decode cX4_set 45 = .ok (.iconst 5, 1) := by decide +kernel
theorem dX4_set_46 : decode cX4_set 46 = .ok (.iload_n 1, 1) := by decide +kernel
theorem dX4_set_47 : decode cX4_set 47 = .ok (.imul, 1) := by decide +kernel
theorem dX4_set_48 : decode cX4_set 48 = .ok (.iadd, 1) := by decide +kernel
theorem dX4_set_49 : decode cX4_set 49 = .ok (.iload_n 2, 1) := by decide +kernel
theorem dX4_set_50 : decode cX4_set 50 = .ok (.iadd, 1) := by decide +kernel
theorem dX4_set_51 : decode cX4_set 51 = .ok (.iload_n 3, 1) := by decide +kernel
theorem dX4_set_52 : decode cX4_set 52 = .ok (.invokevirtual 84, 3) := by decide +kernel
theorem dX4_set_55 : decode cX4_set 55 = .ok (.goto 9, 3) := by decide +kernel
theorem dX4_set_58 : decode cX4_set 58 = .ok (.aload_n 0, 1) := by decide +kernel
theorem dX4_set_59 : decode cX4_set 59 = .ok (.ldc 35, 2) := by decide +kernel
theorem dX4_set_61 : decode cX4_set 61 = .ok (.invokevirtual 37, 3) := by decide +kernel
theorem dX4_set_64 : decode cX4_set 64 = .ok (.ireturn, 1) := by decide +kernel
set_option maxRecDepth 20000 in
theorem ggX4_turn_X4_isThere : GoodIn wsX4_turn wsX4_isThere := goodIn_r _ [6, 7, 8, 9, 5, 10, 20, 21, 22, 23, 24, 25, 26, 27, 28, 29, 30, 31, 32, 33, 34, 35] rfl (by decide +kernel)
set_option maxRecDepth 20000 in
theorem gX4_turn_X4_isThere : GoodIn wsX4_turn (wsV RX4 73 RX4 yX4_isThere wsX4_isThere) := goodIn_app (goodIn_of _ (by decide +kernel)) ggX4_turn_X4_isThere
set_option maxRecDepth 20000 in
theorem ggX4_turn_X4_in : GoodIn wsX4_turn wsX4_in := goodIn_r _ [10] rfl (by decide +kernel)
set_option maxRecDepth 20000 in
theorem gX4_turn_X4_in : GoodIn wsX4_turn (va_wsS RX4 41 yX4_in wsX4_in) := goodIn_app (goodIn_of _ (by decide +kernel)) ggX4_turn_X4_in
set_option maxRecDepth 20000 in
theorem ggX4_turn_X4_becomes : GoodIn wsX4_turn wsX4_becomes := goodIn_r _ [14, 7, 20, 21, 22, 23, 24, 25, 26, 27, 28, 29, 30, 31, 32, 33, 34, 35] rfl (by decide +kernel)
set_option maxRecDepth 20000 in
theorem gX4_turn_X4_becomes : GoodIn wsX4_turn (wsV RX4 84 RX4 yX4_becomes wsX4_becomes) := goodIn_app (goodIn_of _ (by decide +kernel)) ggX4_turn_X4_becomes
set_option maxRecDepth 20000 in
theorem ggX4_turn_X4_finds : GoodIn wsX4_turn wsX4_finds := goodIn_r _ [18, 19, 1, 20, 21, 22, 23, 24, 25, 26, 27, 28, 29, 30, 31, 32, 33, 34, 35] rfl (by decide +kernel)
set_option maxRecDepth 20000 in
theorem gX4_turn_X4_finds : GoodIn wsX4_turn (wsV RX4 37 RX4 yX4_finds wsX4_finds) := goodIn_app (goodIn_of _ (by decide +kernel)) ggX4_turn_X4_finds
theorem dX4_turn_0 : decode cX4_turn 0 = .ok (.aload_n 0, 1) := by decide +kernel
theorem dX4_turn_1 : decode cX4_turn 1 = .ok (.iload_n 1, 1) := by decide +kernel
theorem dX4_turn_2 : decode cX4_turn 2 = .ok (.invokevirtual 73, 3) := by decide +kernel
theorem dX4_turn_5 : decode cX4_turn 5 = .ok (.ifCond .eq 26, 3) := by decide +kernel
theorem dX4_turn_8 : decode cX4_turn 8 = .ok (.iload_n 2, 1) := by decide +kernel
theorem dX4_turn_9 : decode cX4_turn 9 = .ok (.i2l, 1) := by decide +kernel
theorem dX4_turn_10 : decode cX4_turn 10 = .ok (.iconst 0, 1) := by decide +kernel
theorem dX4_turn_11 : decode cX4_turn 11 = .ok (.iconst 5, 1) := by decide +kernel
theorem dX4_turn_12 : decode cX4_turn 12 = .ok (.invokestatic 41, 3) := by decide +kernel
theorem dX4_turn_15 : decode cX4_turn 15 = .ok (.ifCond .eq 16, 3) := by decide +kernel
theorem dX4_turn_18 : decode cX4_turn 18 = .ok (.aload_n 0, 1) := by decide +kernel
theorem dX4_turn_19 : decode cX4_turn 19 = .ok (.iconst 3, 1) := by decide +kernel
theorem dX4_turn_20 : decode cX4_turn 20 = .ok (.iconst 5, 1) := by decide +kernel
theorem dX4_turn_21 : decode cX4_turn 21 = .ok (.iload_n 1, 1) := by decide +kernel
theorem dX4_turn_22 : decode cX4_turn 22 = .ok (.imul, 1) := by decide +kernel
theorem dX4_turn_23 : decode cX4_turn 23 = .ok (.iadd, 1) := by decide +kernel
theorem dX4_turn_24 : decode cX4_turn 24 = .ok (.iload_n 2, 1) := by decide +kernel
theorem dX4_turn_25 : decode cX4_turn 25 = .ok (.invokevirtual 84, 3) := by decide +kernel
theorem dX4_turn_28 : decode cX4_turn 28 = .ok (.goto 9, 3) := by decide +kernel
theorem dX4_turn_31 : decode cX4_turn 31 = .ok (.aload_n 0, 1) := by decide +kernel
theorem dX4_turn_32 : decode cX4_turn 32 = .ok (.ldc 35, 2) := by decide +kernel
theorem dX4_turn_34 : decode cX4_turn 34 = .ok (.invokevirtual 37, 3) := by decide +kernel
theorem dX4_turn_37 : decode cX4_turn 37 = .ok (.ireturn, 1) := by decide +kernel
set_option maxRecDepth 20000 in
theorem ggX4_as_X4_isThere : GoodIn wsX4_as wsX4_isThere := goodIn_r _ [7, 8, 9, 10, 6, 11, 21, 22, 23, 24, 25, 26, 27, 28, 29, 30, 31, 32, 33, 34, 35, 36] rfl (by decide +kernel)
set_option maxRecDepth 20000 in
theorem gX4_as_X4_isThere : GoodIn wsX4_as (wsV RX4 73 RX4 yX4_isThere wsX4_isThere) := goodIn_app (goodIn_of _ (by decide +kernel)) ggX4_as_X4_isThere
set_option maxRecDepth 20000 in
theorem ggX4_as_X4_in : GoodIn wsX4_as wsX4_in := goodIn_r _ [11] rfl (by decide +kernel)
set_option maxRecDepth 20000 in
theorem gX4_as_X4_in : GoodIn wsX4_as (va_wsS RX4 41 yX4_in wsX4_in) := goodIn_app (goodIn_of _ (by decide +kernel)) ggX4_as_X4_in
set_option maxRecDepth 20000 in
theorem ggX4_as_X4_finds : GoodIn wsX4_as wsX4_finds := goodIn_r _ [15, 16, 1, 21, 22, 23, 24, 25, 26, 27, 28, 29, 30, 31, 32, 33, 34, 35, 36] rfl (by decide +kernel)
set_option maxRecDepth 20000 in
theorem gX4_as_X4_finds : GoodIn wsX4_as (wsV RX4 37 RX4 yX4_finds wsX4_finds) := goodIn_app (goodIn_of _ (by decide +kernel)) ggX4_as_X4_finds
set_option maxRecDepth 20000 in
theorem ggX4_as_X4_it : GoodIn wsX4_as wsX4_it := goodIn_r _ [20, 8, 21, 22, 23, 24, 25, 26, 27, 28, 29, 30, 31, 32, 33, 34, 35, 36] rfl (by decide +kernel)
set_option maxRecDepth 20000 in
theorem gX4_as_X4_it : GoodIn wsX4_as (wsV RX4 49 RX4 yX4_it wsX4_it) := goodIn_app (goodIn_of _ (by decide +kernel)) ggX4_as_X4_it
theorem dX4_as_0 : decode cX4_as 0 = .ok (.aload_n 0, 1) := by decide +kernel
theorem dX4_as_1 : decode cX4_as 1 = .ok (.iload_n 1, 1) := by decide +kernel
theorem dX4_as_2 : decode cX4_as 2 = .ok (.invokevirtual 73, 3) := by decide +kernel
theorem dX4_as_5 : decode cX4_as 5 = .ok (.ifCond .eq 13, 3) := by decide +kernel
theorem dX4_as_8 : decode cX4_as 8 = .ok (.iload_n 2, 1) := by decide +kernel
theorem dX4_as_9 : decode cX4_as 9 = .ok (.i2l, 1) := by decide +kernel
theorem dX4_as_10 : decode cX4_as 10 = .ok (.iconst 0, 1) := by decide +kernel
theorem dX4_as_11 : decode cX4_as 11 = .ok (.iconst 5, 1) := by decide +kernel
theorem dX4_as_12 : decode cX4_as 12 = .ok (.invokestatic 41, 3) := by decide +kernel
theorem dX4_as_15 : decode cX4_as 15 = .ok (.ifCond .ne 10, 3) := by decide +kernel
theorem dX4_as_18 : decode cX4_as 18 = .ok (.aload_n 0, 1) := by decide +kernel
theorem dX4_as_19 : decode cX4_as 19 = .ok (.ldc 35, 2) := by decide +kernel
theorem dX4_as_21 : decode cX4_as 21 = .ok (.invokevirtual 37, 3) := by decide +kernel
theorem dX4_as_24 : decode cX4_as 24 = .ok (.ireturn, 1) := by decide +kernel
theorem dX4_as_25 : decode cX4_as 25 = .ok (.aload_n 0, 1) := by decide +kernel
theorem dX4_as_26 : decode cX4_as 26 = .ok (.iload_n 1, 1) := by decide +kernel
theorem dX4_as_27 : decode cX4_as 27 = .ok (.iconst 0, 1) := by decide +kernel
theorem dX4_as_28 : decode cX4_as 28 = .ok (.invokevirtual 49, 3) := by decide +kernel
theorem dX4_as_31 : decode cX4_as 31 = .ok (.istore_n 3, 1) := by decide +kernel
theorem dX4_as_32 : decode cX4_as 32 = .ok (.iload_n 2, 1) := by decide +kernel
theorem dX4_as_33 : decode cX4_as 33 = .ok (.ifCond .eq 28, 3) := by decide +kernel
theorem dX4_as_36 : decode cX4_as 36 = .ok (.iload_n 2, 1) := by decide +kernel
theorem dX4_as_37 : decode cX4_as 37 = .ok (.iload_n 3, 1) := by decide +kernel
theorem dX4_as_38 : decode cX4_as 38 = .ok (.if_icmp .eq 23, 3) := by decide +kernel
theorem dX4_as_41 : decode cX4_as 41 = .ok (.iload_n 2, 1) := by decide +kernel
theorem dX4_as_42 : decode cX4_as 42 = .ok (.iconst 1, 1) := by decide +kernel
theorem dX4_as_43 : decode cX4_as 43 = .ok (.if_icmp .ne 8, 3) := by decide +kernel
theorem dX4_as_46 : decode cX4_as 46 = .ok (.iload_n 3, 1) := by decide +kernel
theorem dX4_as_47 : decode cX4_as 47 = .ok (.iconst 4, 1) := by decide +kernel
theorem dX4_as_48 : decode cX4_as 48 = .ok (.if_icmp .eq 13, 3) := by decide +kernel
theorem dX4_as_51 : decode cX4_as 51 = .ok (.iload_n 2, 1) := by decide +kernel
theorem dX4_as_52 : decode cX4_as 52 = .ok (.iconst 2, 1) := by decide +kernel
theorem dX4_as_53 : decode cX4_as 53 = .ok (.if_icmp .ne 12, 3) := by decide +kernel
theorem dX4_as_56 : decode cX4_as 56 = .ok (.iload_n 3, 1) := by decide +kernel
theorem dX4_as_57 : decode cX4_as 57 = .ok (.iconst 5, 1) := by decide +kernel
theorem dX4_as_58 : decode cX4_as 58 = .ok (.if_icmp .ne 7, 3) := by decide +kernel
theorem dX4_as_61 : decode cX4_as 61 = .ok (.iconst 1, 1) := by decide +kernel
theorem dX4_as_62 : decode cX4_as 62 = .ok (.goto 4, 3) := by decide +kernel
theorem dX4_as_65 : decode cX4_as 65 = .ok (.iconst 0, 1) := by decide +kernel
theorem dX4_as_66 : decode cX4_as 66 = .ok (.istore 4, 2) := by decide +kernel
theorem dX4_as_68 : decode cX4_as 68 = .ok (.iload 4, 2) := by decide +kernel
theorem dX4_as_70 : decode cX4_as 70 = .ok (.ifCond .eq 12, 3) := by decide +kernel
theorem dX4_as_73 : decode cX4_as 73 = .ok (.aload_n 0, 1) := by decide +kernel
theorem dX4_as_74 : decode cX4_as 74 = .ok (.iload_n 1, 1) := by decide +kernel
theorem dX4_as_75 : decode cX4_as 75 = .ok (.iconst 3, 1) := by decide +kernel
theorem dX4_as_76 : decode cX4_as 76 = .ok (.invokevirtual 49, 3) := by decide +kernel
theorem dX4_as_79 : decode cX4_as 79 = .ok (.goto 9, 3) := by decide +kernel
theorem dX4_as_82 : decode cX4_as 82 = .ok (.aload_n 0, 1) := by decide +kernel
theorem dX4_as_83 : decode cX4_as 83 = .ok (.ldc 87, 2) := by decide +kernel
theorem dX4_as_85 : decode cX4_as 85 = .ok (.invokevirtual 37, 3) := by decide +kernel
theorem dX4_as_88 : decode cX4_as 88 = .ok (.ireturn, 1) := by decide +kernel
set_option maxRecDepth 20000 in
theorem ggX4_mayTell_X4_isThere : GoodIn wsX4_mayTell wsX4_isThere := goodIn_r _ [5, 6, 7, 8, 4, 9, 10, 11, 12, 13, 14, 15, 16, 17, 18, 19, 20, 21, 22, 23, 24, 25] rfl (by decide +kernel)
set_option maxRecDepth 20000 in
theorem gX4_mayTell_X4_isThere : GoodIn wsX4_mayTell (wsV RX4 73 RX4 yX4_isThere wsX4_isThere) := goodIn_app (goodIn_of _ (by decide +kernel)) ggX4_mayTell_X4_isThere
set_option maxRecDepth 20000 in
theorem ggX4_mayTell_X4_in : GoodIn wsX4_mayTell wsX4_in := goodIn_r _ [9] rfl (by decide +kernel)
set_option maxRecDepth 20000 in
theorem gX4_mayTell_X4_in : GoodIn wsX4_mayTell (va_wsS RX4 41 yX4_in wsX4_in) := goodIn_app (goodIn_of _ (by decide +kernel)) ggX4_mayTell_X4_in
theorem dX4_mayTell_0 : decode cX4_mayTell 0 = .ok (.iload_n 1, 1) := by decide +kernel
theorem dX4_mayTell_1 : decode cX4_mayTell 1 = .ok (.tableswitch 73 0 3 #[31, 37, 45, 64], 31) := by decide +kernel
theorem dX4_mayTell_32 : decode cX4_mayTell 32 = .ok (.aload_n 0, 1) := by decide +kernel
theorem dX4_mayTell_33 : decode cX4_mayTell 33 = .ok (.iload_n 2, 1) := by decide +kernel
theorem dX4_mayTell_34 : decode cX4_mayTell 34 = .ok (.invokevirtual 73, 3) := by decide +kernel
theorem dX4_mayTell_37 : decode cX4_mayTell 37 = .ok (.ireturn, 1) := by decide +kernel
theorem dX4_mayTell_38 : decode cX4_mayTell 38 = .ok (.iload_n 2, 1) := by decide +kernel
theorem dX4_mayTell_39 : decode cX4_mayTell 39 = .ok (.i2l, 1) := by decide +kernel
theorem dX4_mayTell_40 : decode cX4_mayTell 40 = .ok (.iconst 0, 1) := by decide +kernel
theorem dX4_mayTell_41 : decode cX4_mayTell 41 = .ok (.iconst 3, 1) := by decide +kernel
theorem dX4_mayTell_42 : decode cX4_mayTell 42 = .ok (.invokestatic 41, 3) := by decide +kernel
theorem dX4_mayTell_45 : decode cX4_mayTell 45 = .ok (.ireturn, 1) := by decide +kernel
theorem dX4_mayTell_46 : decode cX4_mayTell 46 = .ok (.iload_n 2, 1) := by decide +kernel
theorem dX4_mayTell_47 : decode cX4_mayTell 47 = .ok (.iconst (-1), 1) := by decide +kernel
theorem dX4_mayTell_48 : decode cX4_mayTell 48 = .ok (.if_icmp .eq 11, 3) := by decide +kernel
theorem dX4_mayTell_51 : decode cX4_mayTell 51 = .ok (.aload_n 0, 1) := by decide +kernel
theorem dX4_mayTell_52 : decode cX4_mayTell 52 = .ok (.iload_n 2, 1) := by decide +kernel
theorem dX4_mayTell_53 : decode cX4_mayTell 53 = .ok (.invokevirtual 73, 3) := by decide +kernel
theorem dX4_mayTell_56 : decode cX4_mayTell 56 = .ok (.ifCond .eq 7, 3) := by decide +kernel
theorem dX4_mayTell_59 : decode cX4_mayTell 59 = .ok (.iconst 1, 1) := by decide +kernel
theorem dX4_mayTell_60 : decode cX4_mayTell 60 = .ok (.goto 4, 3) := by decide +kernel
theorem dX4_mayTell_63 : decode cX4_mayTell 63 = .ok (.iconst 0, 1) := by decide +kernel
theorem dX4_mayTell_64 : decode cX4_mayTell 64 = .ok (.ireturn, 1) := by decide +kernel
theorem dX4_mayTell_65 : decode cX4_mayTell 65 = .ok (.iload_n 2, 1) := by decide +kernel
theorem dX4_mayTell_66 : decode cX4_mayTell 66 = .ok (.i2l, 1) := by decide +kernel
theorem dX4_mayTell_67 : decode cX4_mayTell 67 = .ok (.iconst 0, 1) := by decide +kernel
theorem dX4_mayTell_68 : decode cX4_mayTell 68 = .ok (.bipush 99, 2) := by decide +kernel
theorem dX4_mayTell_70 : decode cX4_mayTell 70 = .ok (.invokestatic 41, 3) := by decide +kernel
theorem dX4_mayTell_73 : decode cX4_mayTell 73 = .ok (.ireturn, 1) := by decide +kernel
theorem dX4_mayTell_74 : decode cX4_mayTell 74 = .ok (.iconst 0, 1) := by decide +kernel
theorem dX4_mayTell_75 : decode cX4_mayTell 75 = .ok (.ireturn, 1) := by decide +kernel
theorem dX4_isHeld_0 : decode cX4_isHeld 0 = .ok (.aload_n 0, 1) := by decide +kernel
theorem dX4_isHeld_1 : decode cX4_isHeld 1 = .ok (.getfield 9, 3) := by decide +kernel
theorem dX4_isHeld_4 : decode cX4_isHeld 4 = .ok (.iconst 2, 1) := by decide +kernel
theorem dX4_isHeld_5 : decode cX4_isHeld 5 = .ok (.iaload, 1) := by decide +kernel
theorem dX4_isHeld_6 : decode cX4_isHeld 6 = .ok (.istore 5, 2) := by decide +kernel
theorem dX4_isHeld_8 : decode cX4_isHeld 8 = .ok (.aload_n 0, 1) := by decide +kernel
theorem dX4_isHeld_9 : decode cX4_isHeld 9 = .ok (.getfield 9, 3) := by decide +kernel
theorem dX4_isHeld_12 : decode cX4_isHeld 12 = .ok (.iconst 2, 1) := by decide +kernel
theorem dX4_isHeld_13 : decode cX4_isHeld 13 = .ok (.dup2, 1) := by decide +kernel
theorem dX4_isHeld_14 : decode cX4_isHeld 14 = .ok (.iaload, 1) := by decide +kernel
theorem dX4_isHeld_15 : decode cX4_isHeld 15 = .ok (.iconst 1, 1) := by decide +kernel
theorem dX4_isHeld_16 : decode cX4_isHeld 16 = .ok (.iadd, 1) := by decide +kernel
theorem dX4_isHeld_17 : decode cX4_isHeld 17 = .ok (.iastore, 1) := by decide +kernel
theorem dX4_isHeld_18 : decode cX4_isHeld 18 = .ok (.aload_n 0, 1) := by decide +kernel
theorem dX4_isHeld_19 : decode cX4_isHeld 19 = .ok (.getfield 9, 3) := by decide +kernel
theorem dX4_isHeld_22 : decode cX4_isHeld 22 = .ok (.bipush 43, 2) := by decide +kernel
theorem dX4_isHeld_24 : decode cX4_isHeld 24 = .ok (.iconst 4, 1) := by decide +kernel
theorem dX4_isHeld_25 : decode cX4_isHeld 25 = .ok (.iload 5, 2) := by decide +kernel
theorem dX4_isHeld_27 : decode cX4_isHeld 27 = .ok (.imul, 1) := by decide +kernel
theorem dX4_isHeld_28 : decode cX4_isHeld 28 = .ok (.iadd, 1) := by decide +kernel
theorem dX4_isHeld_29 : decode cX4_isHeld 29 = .ok (.iload_n 1, 1) := by decide +kernel
theorem dX4_isHeld_30 : decode cX4_isHeld 30 = .ok (.iastore, 1) := by decide +kernel
theorem dX4_isHeld_31 : decode cX4_isHeld 31 = .ok (.aload_n 0, 1) := by decide +kernel
theorem dX4_isHeld_32 : decode cX4_isHeld 32 = .ok (.getfield 9, 3) := by decide +kernel
theorem dX4_isHeld_35 : decode cX4_isHeld 35 = .ok (.bipush 43, 2) := by decide +kernel
theorem dX4_isHeld_37 : decode cX4_isHeld 37 = .ok (.iconst 4, 1) := by decide +kernel
theorem dX4_isHeld_38 : decode cX4_isHeld 38 = .ok (.iload 5, 2) := by decide +kernel
theorem dX4_isHeld_40 : decode cX4_isHeld 40 = .ok (.imul, 1) := by decide +kernel
theorem dX4_isHeld_41 : decode cX4_isHeld 41 = .ok (.iadd, 1) := by decide +kernel
theorem dX4_isHeld_42 : decode cX4_isHeld 42 = .ok (.iconst 1, 1) := by decide +kernel
theorem dX4_isHeld_43 : decode cX4_isHeld 43 = .ok (.iadd, 1) := by decide +kernel
theorem dX4_isHeld_44 : decode cX4_isHeld 44 = .ok (.iload_n 2, 1) := by decide +kernel
theorem dX4_isHeld_45 : decode cX4_isHeld 45 = .ok (.iastore, 1) := by decide +kernel
theorem dX4_isHeld_46 : decode cX4_isHeld 46 = .ok (.aload_n 0, 1) := by decide +kernel
theorem dX4_isHeld_47 : decode cX4_isHeld 47 = .ok (.getfield 9, 3) := by decide +kernel
theorem dX4_isHeld_50 : decode cX4_isHeld 50 = .ok (.bipush 43, 2) := by decide +kernel
theorem dX4_isHeld_52 : decode cX4_isHeld 52 = .ok (.iconst 4, 1) := by decide +kernel
theorem dX4_isHeld_53 : decode cX4_isHeld 53 = .ok (.iload 5, 2) := by decide +kernel
theorem dX4_isHeld_55 : decode cX4_isHeld 55 = .ok (.imul, 1) := by decide +kernel
theorem dX4_isHeld_56 : decode cX4_isHeld 56 = .ok (.iadd, 1) := by decide +kernel
theorem dX4_isHeld_57 : decode cX4_isHeld 57 = .ok (.iconst 2, 1) := by decide +kernel
theorem dX4_isHeld_58 : decode cX4_isHeld 58 = .ok (.iadd, 1) := by decide +kernel
theorem dX4_isHeld_59 : decode cX4_isHeld 59 = .ok (.iload_n 3, 1) := by decide +kernel
theorem dX4_isHeld_60 : decode cX4_isHeld 60 = .ok (.iastore, 1) := by decide +kernel
theorem dX4_isHeld_61 : decode cX4_isHeld 61 = .ok (.aload_n 0, 1) := by decide +kernel
theorem dX4_isHeld_62 : decode cX4_isHeld 62 = .ok (.getfield 9, 3) := by decide +kernel
theorem dX4_isHeld_65 : decode cX4_isHeld 65 = .ok (.bipush 43, 2) := by decide +kernel
theorem dX4_isHeld_67 : decode cX4_isHeld 67 = .ok (.iconst 4, 1) := by decide +kernel
theorem dX4_isHeld_68 : decode cX4_isHeld 68 = .ok (.iload 5, 2) := by decide +kernel
theorem dX4_isHeld_70 : decode cX4_isHeld 70 = .ok (.imul, 1) := by decide +kernel
theorem dX4_isHeld_71 : decode cX4_isHeld 71 = .ok (.iadd, 1) := by decide +kernel
theorem dX4_isHeld_72 : decode cX4_isHeld 72 = .ok (.iconst 3, 1) := by decide +kernel
theorem dX4_isHeld_73 : decode cX4_isHeld 73 = .ok (.iadd, 1) := by decide +kernel
theorem dX4_isHeld_74 : decode cX4_isHeld 74 = .ok (.iload 4, 2) := by decide +kernel
theorem dX4_isHeld_76 : decode cX4_isHeld 76 = .ok (.iastore, 1) := by decide +kernel
theorem dX4_isHeld_77 : decode cX4_isHeld 77 = .ok (.iload 5, 2) := by decide +kernel
theorem dX4_isHeld_79 : decode cX4_isHeld 79 = .ok (.ireturn, 1) := by decide +kernel
set_option maxRecDepth 20000 in
theorem ggX4_speech_X4_mayTell : GoodIn wsX4_speech wsX4_mayTell := goodIn_r _ [8, 9, 10, 11, 7, 12, 2, 13, 14, 15, 25, 26, 27, 28, 29, 30, 31, 32, 33, 34, 35, 36, 37, 38, 39, 40] rfl (by decide +kernel)
set_option maxRecDepth 20000 in
theorem gX4_speech_X4_mayTell : GoodIn wsX4_speech (wsV RX4 88 RX4 yX4_mayTell wsX4_mayTell) := goodIn_app (goodIn_of _ (by decide +kernel)) ggX4_speech_X4_mayTell
set_option maxRecDepth 20000 in
theorem ggX4_speech_X4_finds : GoodIn wsX4_speech wsX4_finds := goodIn_r _ [19, 20, 1, 25, 26, 27, 28, 29, 30, 31, 32, 33, 34, 35, 36, 37, 38, 39, 40] rfl (by decide +kernel)
set_option maxRecDepth 20000 in
theorem gX4_speech_X4_finds : GoodIn wsX4_speech (wsV RX4 37 RX4 yX4_finds wsX4_finds) := goodIn_app (goodIn_of _ (by decide +kernel)) ggX4_speech_X4_finds
set_option maxRecDepth 20000 in
theorem ggX4_speech_X4_isHeld : GoodIn wsX4_speech wsX4_isHeld := goodIn_r _ [24, 2, 25, 26, 27, 28, 29, 30, 31, 32, 33, 34, 35, 36, 37, 38, 39, 40] rfl (by decide +kernel)
set_option maxRecDepth 20000 in
theorem gX4_speech_X4_isHeld : GoodIn wsX4_speech (wsV RX4 92 RX4 yX4_isHeld wsX4_isHeld) := goodIn_app (goodIn_of _ (by decide +kernel)) ggX4_speech_X4_isHeld
theorem dX4_speech_0 : decode cX4_speech 0 = .ok (.aload_n 0, 1) := by decide +kernel
theorem dX4_speech_1 : decode cX4_speech 1 = .ok (.iconst 0, 1) := by decide +kernel
theorem dX4_speech_2 : decode cX4_speech 2 = .ok (.iload_n 1, 1) := by decide +kernel
theorem dX4_speech_3 : decode cX4_speech 3 = .ok (.invokevirtual 88, 3) := by decide +kernel
theorem dX4_speech_6 : decode cX4_speech 6 = .ok (.ifCond .eq 31, 3) := by decide +kernel
theorem dX4_speech_9 : decode cX4_speech 9 = .ok (.aload_n 0, 1) := by decide +kernel
theorem dX4_speech_10 : decode cX4_speech 10 = .ok (.iconst 1, 1) := by decide +kernel
theorem dX4_speech_11 : decode cX4_speech 11 = .ok (.iload_n 2, 1) := by decide +kernel
theorem dX4_speech_12 : decode cX4_speech 12 = .ok (.invokevirtual 88, 3) := by decide +kernel
theorem dX4_speech_15 : decode cX4_speech 15 = .ok (.ifCond .eq 22, 3) := by decide +kernel
theorem dX4_speech_18 : decode cX4_speech 18 = .ok (.aload_n 0, 1) := by decide +kernel
theorem dX4_speech_19 : decode cX4_speech 19 = .ok (.iconst 2, 1) := by decide +kernel
theorem dX4_speech_20 : decode cX4_speech 20 = .ok (.iload_n 3, 1) := by decide +kernel
theorem dX4_speech_21 : decode cX4_speech 21 = .ok (.invokevirtual 88, 3) := by decide +kernel
theorem dX4_speech_24 : decode cX4_speech 24 = .ok (.ifCond .eq 13, 3) := by decide +kernel
theorem dX4_speech_27 : decode cX4_speech 27 = .ok (.aload_n 0, 1) := by decide +kernel
theorem dX4_speech_28 : decode cX4_speech 28 = .ok (.iconst 3, 1) := by decide +kernel
theorem dX4_speech_29 : decode cX4_speech 29 = .ok (.iload 4, 2) := by decide +kernel
theorem dX4_speech_31 : decode cX4_speech 31 = .ok (.invokevirtual 88, 3) := by decide +kernel
theorem dX4_speech_34 : decode cX4_speech 34 = .ok (.ifCond .ne 10, 3) := by decide +kernel
theorem dX4_speech_37 : decode cX4_speech 37 = .ok (.aload_n 0, 1) := by decide +kernel
theorem dX4_speech_38 : decode cX4_speech 38 = .ok (.ldc 35, 2) := by decide +kernel
theorem dX4_speech_40 : decode cX4_speech 40 = .ok (.invokevirtual 37, 3) := by decide +kernel
theorem dX4_speech_43 : decode cX4_speech 43 = .ok (.ireturn, 1) := by decide +kernel
theorem dX4_speech_44 : decode cX4_speech 44 = .ok (.aload_n 0, 1) := by decide +kernel
theorem dX4_speech_45 : decode cX4_speech 45 = .ok (.getfield 9, 3) := by decide +kernel
theorem dX4_speech_48 : decode cX4_speech 48 = .ok (.iconst 2, 1) := by decide +kernel
theorem dX4_speech_49 : decode cX4_speech 49 = .ok (.iaload, 1) := by decide +kernel
theorem dX4_speech_50 : decode cX4_speech 50 = .ok (.bipush 8, 2) := by decide +kernel
theorem dX4_speech_52 : decode cX4_speech 52 = .ok (.if_icmp .ne 12, 3) := by decide +kernel
theorem dX4_speech_55 : decode cX4_speech 55 = .ok (.aload_n 0, 1) := by decide +kernel
theorem dX4_speech_56 : decode cX4_speech 56 = .ok (.ldc 69, 2) := by decide +kernel
theorem dX4_speech_58 : decode cX4_speech 58 = .ok (.invokevirtual 37, 3) := by decide +kernel
theorem dX4_speech_61 : decode cX4_speech 61 = .ok (.goto 12, 3) := by decide +kernel
theorem dX4_speech_64 : decode cX4_speech 64 = .ok (.aload_n 0, 1) := by decide +kernel
theorem dX4_speech_65 : decode cX4_speech 65 = .ok (.iload_n 1, 1) := by decide +kernel
theorem dX4_speech_66 : decode cX4_speech 66 = .ok (.iload_n 2, 1) := by decide +kernel
theorem dX4_speech_67 : decode cX4_speech 67 = .ok (.iload_n 3, 1) := by decide +kernel
theorem dX4_speech_68 : decode cX4_speech 68 = .ok (.iload 4, 2) := by decide +kernel
theorem dX4_speech_70 : decode cX4_speech 70 = .ok (.invokevirtual 92, 3) := by decide +kernel
theorem dX4_speech_73 : decode cX4_speech 73 = .ok (.ireturn, 1) := by decide +kernel
set_option maxRecDepth 20000 in
theorem ggX4_speechOf_X4_isSpeech : GoodIn wsX4_speechOf wsX4_isSpeech := goodIn_r _ [6, 7, 8, 9, 5, 10, 43, 44, 45, 46, 47, 48, 49, 50, 51, 52, 53, 54, 55, 56, 57, 58] rfl (by decide +kernel)
set_option maxRecDepth 20000 in
theorem gX4_speechOf_X4_isSpeech : GoodIn wsX4_speechOf (wsV RX4 96 RX4 yX4_isSpeech wsX4_isSpeech) := goodIn_app (goodIn_of _ (by decide +kernel)) ggX4_speechOf_X4_isSpeech
set_option maxRecDepth 20000 in
theorem ggX4_speechOf_X4_in : GoodIn wsX4_speechOf wsX4_in := goodIn_r _ [10] rfl (by decide +kernel)
set_option maxRecDepth 20000 in
theorem gX4_speechOf_X4_in : GoodIn wsX4_speechOf (va_wsS RX4 41 yX4_in wsX4_in) := goodIn_app (goodIn_of _ (by decide +kernel)) ggX4_speechOf_X4_in
set_option maxRecDepth 20000 in
theorem ggX4_speechOf_X4_finds : GoodIn wsX4_speechOf wsX4_finds := goodIn_r _ [14, 15, 1, 43, 44, 45, 46, 47, 48, 49, 50, 51, 52, 53, 54, 55, 56, 57, 58] rfl (by decide +kernel)
set_option maxRecDepth 20000 in
theorem gX4_speechOf_X4_finds : GoodIn wsX4_speechOf (wsV RX4 37 RX4 yX4_finds wsX4_finds) := goodIn_app (goodIn_of _ (by decide +kernel)) ggX4_speechOf_X4_finds
set_option maxRecDepth 20000 in
theorem ggX4_speechOf_X4_about : GoodIn wsX4_speechOf wsX4_about := goodIn_r _ [19, 7, 43, 44, 45, 46, 47, 48, 49, 50, 51, 52, 53, 54, 55, 56, 57, 58] rfl (by decide +kernel)
set_option maxRecDepth 20000 in
theorem gX4_speechOf_X4_about : GoodIn wsX4_speechOf (wsV RX4 45 RX4 yX4_about wsX4_about) := goodIn_app (goodIn_of _ (by decide +kernel)) ggX4_speechOf_X4_about
set_option maxRecDepth 20000 in
theorem ggX4_speechOf_X4_interpreter : GoodIn wsX4_speechOf wsX4_interpreter := goodIn_r _ [23, 7, 24, 25, 26, 5, 27, 16, 17, 18, 19, 28, 29, 30, 31, 43, 44, 45, 46, 47, 48, 49, 50, 51, 52, 53, 54, 55, 56, 57, 58] rfl (by decide +kernel)
set_option maxRecDepth 20000 in
theorem gX4_speechOf_X4_interpreter : GoodIn wsX4_speechOf (wsV RX4 59 RX4 yX4_interpreter wsX4_interpreter) := goodIn_app (goodIn_of _ (by decide +kernel)) ggX4_speechOf_X4_interpreter
set_option maxRecDepth 20000 in
theorem ggX4_speechOf_X4_overBy : GoodIn wsX4_speechOf wsX4_overBy := goodIn_r _ [35, 20, 21, 22, 5, 23, 7, 24, 25, 26, 27, 16, 17, 18, 19, 28, 29, 30, 31, 36, 37, 38, 39, 40, 41, 42, 43, 44, 45, 46, 47, 48, 49, 50, 51, 52, 53, 54, 55, 56, 57, 58] rfl (by decide +kernel)
set_option maxRecDepth 20000 in
theorem gX4_speechOf_X4_overBy : GoodIn wsX4_speechOf (wsV RX4 99 RX4 yX4_overBy wsX4_overBy) := goodIn_app (goodIn_of _ (by decide +kernel)) ggX4_speechOf_X4_overBy
theorem dX4_speechOf_0 : decode cX4_speechOf 0 = .ok (.aload_n 0, 1) := by decide +kernel
theorem dX4_speechOf_1 : decode cX4_speechOf 1 = .ok (.iload_n 1, 1) := by decide +kernel
theorem dX4_speechOf_2 : decode cX4_speechOf 2 = .ok (.invokevirtual 96, 3) := by decide +kernel
theorem dX4_speechOf_5 : decode cX4_speechOf 5 = .ok (.ifCond .eq 13, 3) := by decide +kernel
theorem dX4_speechOf_8 : decode cX4_speechOf 8 = .ok (.iload_n 2, 1) := by decide +kernel
theorem dX4_speechOf_9 : decode cX4_speechOf 9 = .ok (.i2l, 1) := by decide +kernel
theorem dX4_speechOf_10 : decode cX4_speechOf 10 = .ok (.iconst 0, 1) := by decide +kernel
theorem dX4_speechOf_11 : decode cX4_speechOf 11 = .ok (.iconst 5, 1) := by decide +kernel
theorem dX4_speechOf_12 : decode cX4_speechOf 12 = .ok (.invokestatic 41, 3) := by decide +kernel
theorem dX4_speechOf_15 : decode cX4_speechOf 15 = .ok (.ifCond .ne 10, 3) := by decide +kernel
theorem dX4_speechOf_18 : decode cX4_speechOf 18 = .ok (.aload_n 0, 1) := by decide +kernel
theorem dX4_speechOf_19 : decode cX4_speechOf 19 = .ok (.ldc 35, 2) := by decide +kernel
theorem dX4_speechOf_21 : decode cX4_speechOf 21 = .ok (.invokevirtual 37, 3) := by decide +kernel
theorem dX4_speechOf_24 : decode cX4_speechOf 24 = .ok (.ireturn, 1) := by decide +kernel
theorem dX4_speechOf_25 : decode cX4_speechOf 25 = .ok (.iload_n 2, 1) := by decide +kernel
theorem dX4_speechOf_26 : decode cX4_speechOf 26 = .ok (.iconst 4, 1) := by decide +kernel
theorem dX4_speechOf_27 : decode cX4_speechOf 27 = .ok (.if_icmp .ge 12, 3) := by decide +kernel
theorem dX4_speechOf_30 : decode cX4_speechOf 30 = .ok (.aload_n 0, 1) := by decide +kernel
theorem dX4_speechOf_31 : decode cX4_speechOf 31 = .ok (.iload_n 1, 1) := by decide +kernel
theorem dX4_speechOf_32 : decode cX4_speechOf 32 = .ok (.iload_n 2, 1) := by decide +kernel
theorem dX4_speechOf_33 : decode cX4_speechOf 33 = .ok (.invokevirtual 45, 3) := by decide +kernel
theorem dX4_speechOf_36 : decode cX4_speechOf 36 = .ok (.goto 21, 3) := by decide +kernel
theorem dX4_speechOf_39 : decode cX4_speechOf 39 = .ok (.iload_n 2, 1) := by decide +kernel
theorem dX4_speechOf_40 : decode cX4_speechOf 40 = .ok (.iconst 4, 1) := by decide +kernel
theorem dX4_speechOf_41 : decode cX4_speechOf 41 = .ok (.if_icmp .ne 11, 3) := by decide +kernel
theorem dX4_speechOf_44 : decode cX4_speechOf 44 = .ok (.aload_n 0, 1) := by decide +kernel
theorem dX4_speechOf_45 : decode cX4_speechOf 45 = .ok (.iload_n 1, 1) := by decide +kernel
theorem dX4_speechOf_46 : decode cX4_speechOf 46 = .ok (.invokevirtual 59, 3) := by decide +kernel
theorem dX4_speechOf_49 : decode cX4_speechOf 49 = .ok (.goto 8, 3) := by decide +kernel
theorem dX4_speechOf_52 : decode cX4_speechOf 52 = .ok (.aload_n 0, 1) := by decide +kernel
theorem dX4_speechOf_53 : decode cX4_speechOf 53 = .ok (.iload_n 1, 1) := by decide +kernel
theorem dX4_speechOf_54 : decode cX4_speechOf 54 = .ok (.invokevirtual 99, 3) := by decide +kernel
theorem dX4_speechOf_57 : decode cX4_speechOf 57 = .ok (.ireturn, 1) := by decide +kernel
set_option maxRecDepth 20000 in
theorem ggX4_tell_X4_isSpeech : GoodIn wsX4_tell wsX4_isSpeech := goodIn_r _ [6, 7, 8, 9, 5, 10, 28, 29, 30, 31, 32, 33, 34, 35, 36, 37, 38, 39, 40, 41, 42, 43] rfl (by decide +kernel)
set_option maxRecDepth 20000 in
theorem gX4_tell_X4_isSpeech : GoodIn wsX4_tell (wsV RX4 96 RX4 yX4_isSpeech wsX4_isSpeech) := goodIn_app (goodIn_of _ (by decide +kernel)) ggX4_tell_X4_isSpeech
set_option maxRecDepth 20000 in
theorem ggX4_tell_X4_mayTell : GoodIn wsX4_tell wsX4_mayTell := goodIn_r _ [14, 15, 16, 17, 5, 18, 7, 8, 9, 10, 28, 29, 30, 31, 32, 33, 34, 35, 36, 37, 38, 39, 40, 41, 42, 43] rfl (by decide +kernel)
set_option maxRecDepth 20000 in
theorem gX4_tell_X4_mayTell : GoodIn wsX4_tell (wsV RX4 88 RX4 yX4_mayTell wsX4_mayTell) := goodIn_app (goodIn_of _ (by decide +kernel)) ggX4_tell_X4_mayTell
set_option maxRecDepth 20000 in
theorem ggX4_tell_X4_becomes : GoodIn wsX4_tell wsX4_becomes := goodIn_r _ [22, 7, 28, 29, 30, 31, 32, 33, 34, 35, 36, 37, 38, 39, 40, 41, 42, 43] rfl (by decide +kernel)
set_option maxRecDepth 20000 in
theorem gX4_tell_X4_becomes : GoodIn wsX4_tell (wsV RX4 84 RX4 yX4_becomes wsX4_becomes) := goodIn_app (goodIn_of _ (by decide +kernel)) ggX4_tell_X4_becomes
set_option maxRecDepth 20000 in
theorem ggX4_tell_X4_finds : GoodIn wsX4_tell wsX4_finds := goodIn_r _ [26, 27, 1, 28, 29, 30, 31, 32, 33, 34, 35, 36, 37, 38, 39, 40, 41, 42, 43] rfl (by decide +kernel)
set_option maxRecDepth 20000 in
theorem gX4_tell_X4_finds : GoodIn wsX4_tell (wsV RX4 37 RX4 yX4_finds wsX4_finds) := goodIn_app (goodIn_of _ (by decide +kernel)) ggX4_tell_X4_finds
theorem dX4_tell_0 : decode cX4_tell 0 = .ok (.aload_n 0, 1) := by decide +kernel
theorem dX4_tell_1 : decode cX4_tell 1 = .ok (.iload_n 1, 1) := by decide +kernel
theorem dX4_tell_2 : decode cX4_tell 2 = .ok (.invokevirtual 96, 3) := by decide +kernel
theorem dX4_tell_5 : decode cX4_tell 5 = .ok (.ifCond .eq 28, 3) := by decide +kernel
theorem dX4_tell_8 : decode cX4_tell 8 = .ok (.aload_n 0, 1) := by decide +kernel
theorem dX4_tell_9 : decode cX4_tell 9 = .ok (.iload_n 2, 1) := by decide +kernel
theorem dX4_tell_10 : decode cX4_tell 10 = .ok (.iload_n 3, 1) := by decide +kernel
theorem dX4_tell_11 : decode cX4_tell 11 = .ok (.invokevirtual 88, 3) := by decide +kernel
theorem dX4_tell_14 : decode cX4_tell 14 = .ok (.ifCond .eq 19, 3) := by decide +kernel
theorem dX4_tell_17 : decode cX4_tell 17 = .ok (.aload_n 0, 1) := by decide +kernel
theorem dX4_tell_18 : decode cX4_tell 18 = .ok (.bipush 43, 2) := by decide +kernel
theorem dX4_tell_20 : decode cX4_tell 20 = .ok (.iconst 4, 1) := by decide +kernel
theorem dX4_tell_21 : decode cX4_tell 21 = .ok (.iload_n 1, 1) := by decide +kernel
theorem dX4_tell_22 : decode cX4_tell 22 = .ok (.imul, 1) := by decide +kernel
theorem dX4_tell_23 : decode cX4_tell 23 = .ok (.iadd, 1) := by decide +kernel
theorem dX4_tell_24 : decode cX4_tell 24 = .ok (.iload_n 2, 1) := by decide +kernel
theorem dX4_tell_25 : decode cX4_tell 25 = .ok (.iadd, 1) := by decide +kernel
theorem dX4_tell_26 : decode cX4_tell 26 = .ok (.iload_n 3, 1) := by decide +kernel
theorem dX4_tell_27 : decode cX4_tell 27 = .ok (.invokevirtual 84, 3) := by decide +kernel
theorem dX4_tell_30 : decode cX4_tell 30 = .ok (.goto 9, 3) := by decide +kernel
theorem dX4_tell_33 : decode cX4_tell 33 = .ok (.aload_n 0, 1) := by decide +kernel
theorem dX4_tell_34 : decode cX4_tell 34 = .ok (.ldc 35, 2) := by decide +kernel
theorem dX4_tell_36 : decode cX4_tell 36 = .ok (.invokevirtual 37, 3) := by decide +kernel
theorem dX4_tell_39 : decode cX4_tell 39 = .ok (.ireturn, 1) := by decide +kernel
set_option maxRecDepth 20000 in
theorem ggX4_loses_X4_isThere : GoodIn wsX4_loses wsX4_isThere := goodIn_r _ [6, 7, 8, 9, 5, 10, 32, 33, 34, 35, 36, 37, 38, 39, 40, 41, 42, 43, 44, 45, 46, 47] rfl (by decide +kernel)
set_option maxRecDepth 20000 in
theorem gX4_loses_X4_isThere : GoodIn wsX4_loses (wsV RX4 73 RX4 yX4_isThere wsX4_isThere) := goodIn_app (goodIn_of _ (by decide +kernel)) ggX4_loses_X4_isThere
set_option maxRecDepth 20000 in
theorem ggX4_loses_X4_isSpeech : GoodIn wsX4_loses wsX4_isSpeech := goodIn_r _ [14, 7, 8, 9, 5, 10, 32, 33, 34, 35, 36, 37, 38, 39, 40, 41, 42, 43, 44, 45, 46, 47] rfl (by decide +kernel)
set_option maxRecDepth 20000 in
theorem gX4_loses_X4_isSpeech : GoodIn wsX4_loses (wsV RX4 96 RX4 yX4_isSpeech wsX4_isSpeech) := goodIn_app (goodIn_of _ (by decide +kernel)) ggX4_loses_X4_isSpeech
set_option maxRecDepth 20000 in
theorem ggX4_loses_X4_about : GoodIn wsX4_loses wsX4_about := goodIn_r _ [18, 7, 32, 33, 34, 35, 36, 37, 38, 39, 40, 41, 42, 43, 44, 45, 46, 47] rfl (by decide +kernel)
set_option maxRecDepth 20000 in
theorem gX4_loses_X4_about : GoodIn wsX4_loses (wsV RX4 45 RX4 yX4_about wsX4_about) := goodIn_app (goodIn_of _ (by decide +kernel)) ggX4_loses_X4_about
set_option maxRecDepth 20000 in
theorem ggX4_loses_X4_losesBy : GoodIn wsX4_loses wsX4_losesBy := goodIn_r _ [22, 15, 16, 17, 5, 18, 7, 23, 24, 25, 26, 32, 33, 34, 35, 36, 37, 38, 39, 40, 41, 42, 43, 44, 45, 46, 47] rfl (by decide +kernel)
set_option maxRecDepth 20000 in
theorem gX4_loses_X4_losesBy : GoodIn wsX4_loses (wsV RX4 56 RX4 yX4_losesBy wsX4_losesBy) := goodIn_app (goodIn_of _ (by decide +kernel)) ggX4_loses_X4_losesBy
set_option maxRecDepth 20000 in
theorem ggX4_loses_X4_finds : GoodIn wsX4_loses wsX4_finds := goodIn_r _ [30, 31, 1, 32, 33, 34, 35, 36, 37, 38, 39, 40, 41, 42, 43, 44, 45, 46, 47] rfl (by decide +kernel)
set_option maxRecDepth 20000 in
theorem gX4_loses_X4_finds : GoodIn wsX4_loses (wsV RX4 37 RX4 yX4_finds wsX4_finds) := goodIn_app (goodIn_of _ (by decide +kernel)) ggX4_loses_X4_finds
theorem dX4_loses_0 : decode cX4_loses 0 = .ok (.aload_n 0, 1) := by decide +kernel
theorem dX4_loses_1 : decode cX4_loses 1 = .ok (.iload_n 1, 1) := by decide +kernel
theorem dX4_loses_2 : decode cX4_loses 2 = .ok (.invokevirtual 73, 3) := by decide +kernel
theorem dX4_loses_5 : decode cX4_loses 5 = .ok (.ifCond .eq 26, 3) := by decide +kernel
theorem dX4_loses_8 : decode cX4_loses 8 = .ok (.aload_n 0, 1) := by decide +kernel
theorem dX4_loses_9 : decode cX4_loses 9 = .ok (.iload_n 2, 1) := by decide +kernel
theorem dX4_loses_10 : decode cX4_loses 10 = .ok (.invokevirtual 96, 3) := by decide +kernel
theorem dX4_loses_13 : decode cX4_loses 13 = .ok (.ifCond .eq 18, 3) := by decide +kernel
theorem dX4_loses_16 : decode cX4_loses 16 = .ok (.aload_n 0, 1) := by decide +kernel
theorem dX4_loses_17 : decode cX4_loses 17 = .ok (.iload_n 1, 1) := by decide +kernel
theorem dX4_loses_18 : decode cX4_loses 18 = .ok (.iload_n 2, 1) := by decide +kernel
theorem dX4_loses_19 : decode cX4_loses 19 = .ok (.aload_n 0, 1) := by decide +kernel
theorem dX4_loses_20 : decode cX4_loses 20 = .ok (.iload_n 2, 1) := by decide +kernel
theorem dX4_loses_21 : decode cX4_loses 21 = .ok (.iconst 3, 1) := by decide +kernel
theorem dX4_loses_22 : decode cX4_loses 22 = .ok (.invokevirtual 45, 3) := by decide +kernel
theorem dX4_loses_25 : decode cX4_loses 25 = .ok (.invokevirtual 56, 3) := by decide +kernel
theorem dX4_loses_28 : decode cX4_loses 28 = .ok (.goto 9, 3) := by decide +kernel
theorem dX4_loses_31 : decode cX4_loses 31 = .ok (.aload_n 0, 1) := by decide +kernel
theorem dX4_loses_32 : decode cX4_loses 32 = .ok (.ldc 35, 2) := by decide +kernel
theorem dX4_loses_34 : decode cX4_loses 34 = .ok (.invokevirtual 37, 3) := by decide +kernel
theorem dX4_loses_37 : decode cX4_loses 37 = .ok (.ireturn, 1) := by decide +kernel
set_option maxRecDepth 20000 in
theorem ggX4_renders_X4_isThere : GoodIn wsX4_renders wsX4_isThere := goodIn_r _ [6, 7, 8, 9, 5, 10, 35, 36, 37, 38, 39, 40, 41, 42, 43, 44, 45, 46, 47, 48, 49, 50] rfl (by decide +kernel)
set_option maxRecDepth 20000 in
theorem gX4_renders_X4_isThere : GoodIn wsX4_renders (wsV RX4 73 RX4 yX4_isThere wsX4_isThere) := goodIn_app (goodIn_of _ (by decide +kernel)) ggX4_renders_X4_isThere
set_option maxRecDepth 20000 in
theorem ggX4_renders_X4_isSpeech : GoodIn wsX4_renders wsX4_isSpeech := goodIn_r _ [14, 7, 8, 9, 5, 10, 35, 36, 37, 38, 39, 40, 41, 42, 43, 44, 45, 46, 47, 48, 49, 50] rfl (by decide +kernel)
set_option maxRecDepth 20000 in
theorem gX4_renders_X4_isSpeech : GoodIn wsX4_renders (wsV RX4 96 RX4 yX4_isSpeech wsX4_isSpeech) := goodIn_app (goodIn_of _ (by decide +kernel)) ggX4_renders_X4_isSpeech
set_option maxRecDepth 20000 in
theorem ggX4_renders_X4_about : GoodIn wsX4_renders wsX4_about := goodIn_r _ [18, 7, 35, 36, 37, 38, 39, 40, 41, 42, 43, 44, 45, 46, 47, 48, 49, 50] rfl (by decide +kernel)
set_option maxRecDepth 20000 in
theorem gX4_renders_X4_about : GoodIn wsX4_renders (wsV RX4 45 RX4 yX4_about wsX4_about) := goodIn_app (goodIn_of _ (by decide +kernel)) ggX4_renders_X4_about
set_option maxRecDepth 20000 in
theorem ggX4_renders_X4_rendersBy : GoodIn wsX4_renders wsX4_rendersBy := goodIn_r _ [22, 23, 24, 25, 5, 26, 7, 27, 28, 29, 35, 36, 37, 38, 39, 40, 41, 42, 43, 44, 45, 46, 47, 48, 49, 50] rfl (by decide +kernel)
set_option maxRecDepth 20000 in
theorem gX4_renders_X4_rendersBy : GoodIn wsX4_renders (wsV RX4 62 RX4 yX4_rendersBy wsX4_rendersBy) := goodIn_app (goodIn_of _ (by decide +kernel)) ggX4_renders_X4_rendersBy
set_option maxRecDepth 20000 in
theorem ggX4_renders_X4_finds : GoodIn wsX4_renders wsX4_finds := goodIn_r _ [33, 34, 1, 35, 36, 37, 38, 39, 40, 41, 42, 43, 44, 45, 46, 47, 48, 49, 50] rfl (by decide +kernel)
set_option maxRecDepth 20000 in
theorem gX4_renders_X4_finds : GoodIn wsX4_renders (wsV RX4 37 RX4 yX4_finds wsX4_finds) := goodIn_app (goodIn_of _ (by decide +kernel)) ggX4_renders_X4_finds
theorem dX4_renders_0 : decode cX4_renders 0 = .ok (.aload_n 0, 1) := by decide +kernel
theorem dX4_renders_1 : decode cX4_renders 1 = .ok (.iload_n 1, 1) := by decide +kernel
theorem dX4_renders_2 : decode cX4_renders 2 = .ok (.invokevirtual 73, 3) := by decide +kernel
theorem dX4_renders_5 : decode cX4_renders 5 = .ok (.ifCond .eq 25, 3) := by decide +kernel
theorem dX4_renders_8 : decode cX4_renders 8 = .ok (.aload_n 0, 1) := by decide +kernel
theorem dX4_renders_9 : decode cX4_renders 9 = .ok (.iload_n 2, 1) := by decide +kernel
theorem dX4_renders_10 : decode cX4_renders 10 = .ok (.invokevirtual 96, 3) := by decide +kernel
theorem dX4_renders_13 : decode cX4_renders 13 = .ok (.ifCond .eq 17, 3) := by decide +kernel
theorem dX4_renders_16 : decode cX4_renders 16 = .ok (.aload_n 0, 1) := by decide +kernel
theorem dX4_renders_17 : decode cX4_renders 17 = .ok (.iload_n 1, 1) := by decide +kernel
theorem dX4_renders_18 : decode cX4_renders 18 = .ok (.aload_n 0, 1) := by decide +kernel
theorem dX4_renders_19 : decode cX4_renders 19 = .ok (.iload_n 2, 1) := by decide +kernel
theorem dX4_renders_20 : decode cX4_renders 20 = .ok (.iconst 3, 1) := by decide +kernel
theorem dX4_renders_21 : decode cX4_renders 21 = .ok (.invokevirtual 45, 3) := by decide +kernel
theorem dX4_renders_24 : decode cX4_renders 24 = .ok (.invokevirtual 62, 3) := by decide +kernel
theorem dX4_renders_27 : decode cX4_renders 27 = .ok (.goto 9, 3) := by decide +kernel
theorem dX4_renders_30 : decode cX4_renders 30 = .ok (.aload_n 0, 1) := by decide +kernel
theorem dX4_renders_31 : decode cX4_renders 31 = .ok (.ldc 35, 2) := by decide +kernel
theorem dX4_renders_33 : decode cX4_renders 33 = .ok (.invokevirtual 37, 3) := by decide +kernel
theorem dX4_renders_36 : decode cX4_renders 36 = .ok (.ireturn, 1) := by decide +kernel
set_option maxRecDepth 20000 in
theorem ggX4_hurts_X4_isSpeech : GoodIn wsX4_hurts wsX4_isSpeech := goodIn_r _ [7, 2, 8, 9, 6, 10, 43, 44, 45, 46, 47, 48, 49, 50, 51, 52, 53, 54, 55, 56, 57, 58] rfl (by decide +kernel)
set_option maxRecDepth 20000 in
theorem gX4_hurts_X4_isSpeech : GoodIn wsX4_hurts (wsV RX4 96 RX4 yX4_isSpeech wsX4_isSpeech) := goodIn_app (goodIn_of _ (by decide +kernel)) ggX4_hurts_X4_isSpeech
set_option maxRecDepth 20000 in
theorem ggX4_hurts_X4_finds : GoodIn wsX4_hurts wsX4_finds := goodIn_r _ [14, 15, 1, 43, 44, 45, 46, 47, 48, 49, 50, 51, 52, 53, 54, 55, 56, 57, 58] rfl (by decide +kernel)
set_option maxRecDepth 20000 in
theorem gX4_hurts_X4_finds : GoodIn wsX4_hurts (wsV RX4 37 RX4 yX4_finds wsX4_finds) := goodIn_app (goodIn_of _ (by decide +kernel)) ggX4_hurts_X4_finds
set_option maxRecDepth 20000 in
theorem ggX4_hurts_X4_overBy : GoodIn wsX4_hurts wsX4_overBy := goodIn_r _ [19, 20, 21, 22, 6, 23, 2, 24, 25, 26, 27, 28, 29, 30, 31, 32, 33, 34, 35, 36, 37, 38, 39, 40, 41, 42, 43, 44, 45, 46, 47, 48, 49, 50, 51, 52, 53, 54, 55, 56, 57, 58] rfl (by decide +kernel)
set_option maxRecDepth 20000 in
theorem gX4_hurts_X4_overBy : GoodIn wsX4_hurts (wsV RX4 99 RX4 yX4_overBy wsX4_overBy) := goodIn_app (goodIn_of _ (by decide +kernel)) ggX4_hurts_X4_overBy
set_option maxRecDepth 20000 in
theorem ggX4_hurts_X4_interpreter : GoodIn wsX4_hurts wsX4_interpreter := goodIn_r _ [23, 2, 24, 25, 26, 6, 27, 28, 29, 30, 31, 32, 33, 34, 35, 43, 44, 45, 46, 47, 48, 49, 50, 51, 52, 53, 54, 55, 56, 57, 58] rfl (by decide +kernel)
set_option maxRecDepth 20000 in
theorem gX4_hurts_X4_interpreter : GoodIn wsX4_hurts (wsV RX4 59 RX4 yX4_interpreter wsX4_interpreter) := goodIn_app (goodIn_of _ (by decide +kernel)) ggX4_hurts_X4_interpreter
set_option maxRecDepth 20000 in
theorem ggX4_hurts_X4_losesBy : GoodIn wsX4_hurts wsX4_losesBy := goodIn_r _ [35, 28, 29, 30, 6, 31, 2, 24, 25, 26, 27, 43, 44, 45, 46, 47, 48, 49, 50, 51, 52, 53, 54, 55, 56, 57, 58] rfl (by decide +kernel)
set_option maxRecDepth 20000 in
theorem gX4_hurts_X4_losesBy : GoodIn wsX4_hurts (wsV RX4 56 RX4 yX4_losesBy wsX4_losesBy) := goodIn_app (goodIn_of _ (by decide +kernel)) ggX4_hurts_X4_losesBy
theorem dX4_hurts_0 : decode cX4_hurts 0 = .ok (.aload_n 0, 1) := by decide +kernel
theorem dX4_hurts_1 : decode cX4_hurts 1 = .ok (.iload_n 1, 1) := by decide +kernel
theorem dX4_hurts_2 : decode cX4_hurts 2 = .ok (.invokevirtual 96, 3) := by decide +kernel
theorem dX4_hurts_5 : decode cX4_hurts 5 = .ok (.ifCond .ne 10, 3) := by decide +kernel
theorem dX4_hurts_8 : decode cX4_hurts 8 = .ok (.aload_n 0, 1) := by decide +kernel
theorem dX4_hurts_9 : decode cX4_hurts 9 = .ok (.ldc 35, 2) := by decide +kernel
theorem dX4_hurts_11 : decode cX4_hurts 11 = .ok (.invokevirtual 37, 3) := by decide +kernel
theorem dX4_hurts_14 : decode cX4_hurts 14 = .ok (.ireturn, 1) := by decide +kernel
theorem dX4_hurts_15 : decode cX4_hurts 15 = .ok (.aload_n 0, 1) := by decide +kernel
theorem dX4_hurts_16 : decode cX4_hurts 16 = .ok (.iload_n 1, 1) := by decide +kernel
theorem dX4_hurts_17 : decode cX4_hurts 17 = .ok (.invokevirtual 99, 3) := by decide +kernel
theorem dX4_hurts_20 : decode cX4_hurts 20 = .ok (.istore_n 2, 1) := by decide +kernel
theorem dX4_hurts_21 : decode cX4_hurts 21 = .ok (.iconst 0, 1) := by decide +kernel
theorem dX4_hurts_22 : decode cX4_hurts 22 = .ok (.istore_n 3, 1) := by decide +kernel
theorem dX4_hurts_23 : decode cX4_hurts 23 = .ok (.iconst 0, 1) := by decide +kernel
theorem dX4_hurts_24 : decode cX4_hurts 24 = .ok (.istore 4, 2) := by decide +kernel
theorem dX4_hurts_26 : decode cX4_hurts 26 = .ok (.iload 4, 2) := by decide +kernel
theorem dX4_hurts_28 : decode cX4_hurts 28 = .ok (.aload_n 0, 1) := by decide +kernel
theorem dX4_hurts_29 : decode cX4_hurts 29 = .ok (.getfield 9, 3) := by decide +kernel
theorem dX4_hurts_32 : decode cX4_hurts 32 = .ok (.iconst 1, 1) := by decide +kernel
theorem dX4_hurts_33 : decode cX4_hurts 33 = .ok (.iaload, 1) := by decide +kernel
theorem dX4_hurts_34 : decode cX4_hurts 34 = .ok (.if_icmp .ge 39, 3) := by decide +kernel
theorem dX4_hurts_37 : decode cX4_hurts 37 = .ok (.aload_n 0, 1) := by decide +kernel
theorem dX4_hurts_38 : decode cX4_hurts 38 = .ok (.iload_n 1, 1) := by decide +kernel
theorem dX4_hurts_39 : decode cX4_hurts 39 = .ok (.invokevirtual 59, 3) := by decide +kernel
theorem dX4_hurts_42 : decode cX4_hurts 42 = .ok (.ifCond .lt 31, 3) := by decide +kernel
theorem dX4_hurts_45 : decode cX4_hurts 45 = .ok (.iload_n 3, 1) := by decide +kernel
theorem dX4_hurts_46 : decode cX4_hurts 46 = .ok (.aload_n 0, 1) := by decide +kernel
theorem dX4_hurts_47 : decode cX4_hurts 47 = .ok (.iload 4, 2) := by decide +kernel
theorem dX4_hurts_49 : decode cX4_hurts 49 = .ok (.iload_n 1, 1) := by decide +kernel
theorem dX4_hurts_50 : decode cX4_hurts 50 = .ok (.iload_n 2, 1) := by decide +kernel
theorem dX4_hurts_51 : decode cX4_hurts 51 = .ok (.invokevirtual 56, 3) := by decide +kernel
theorem dX4_hurts_54 : decode cX4_hurts 54 = .ok (.ifCond .le 10, 3) := by decide +kernel
theorem dX4_hurts_57 : decode cX4_hurts 57 = .ok (.iconst 1, 1) := by decide +kernel
theorem dX4_hurts_58 : decode cX4_hurts 58 = .ok (.iload 4, 2) := by decide +kernel
theorem dX4_hurts_60 : decode cX4_hurts 60 = .ok (.ishl, 1) := by decide +kernel
theorem dX4_hurts_61 : decode cX4_hurts 61 = .ok (.goto 4, 3) := by decide +kernel
theorem dX4_hurts_64 : decode cX4_hurts 64 = .ok (.iconst 0, 1) := by decide +kernel
theorem dX4_hurts_65 : decode cX4_hurts 65 = .ok (.ior, 1) := by decide +kernel
theorem dX4_hurts_66 : decode cX4_hurts 66 = .ok (.istore_n 3, 1) := by decide +kernel
theorem dX4_hurts_67 : decode cX4_hurts 67 = .ok (.iinc 4 1, 3) := by decide +kernel
theorem dX4_hurts_70 : decode cX4_hurts 70 = .ok (.goto (-44), 3) := by decide +kernel
theorem dX4_hurts_73 : decode cX4_hurts 73 = .ok (.iload_n 3, 1) := by decide +kernel
theorem dX4_hurts_74 : decode cX4_hurts 74 = .ok (.ireturn, 1) := by decide +kernel
set_option maxRecDepth 20000 in
theorem ggX4_isHeard_X4_interpreter : GoodIn wsX4_isHeard wsX4_interpreter := goodIn_r _ [8, 1, 9, 10, 11, 7, 12, 13, 14, 15, 16, 17, 18, 19, 20, 40, 41, 42, 43, 44, 45, 46, 47, 48, 49, 50, 51, 52, 53, 54, 55] rfl (by decide +kernel)
set_option maxRecDepth 20000 in
theorem gX4_isHeard_X4_interpreter : GoodIn wsX4_isHeard (wsV RX4 59 RX4 yX4_interpreter wsX4_interpreter) := goodIn_app (goodIn_of _ (by decide +kernel)) ggX4_isHeard_X4_interpreter
set_option maxRecDepth 20000 in
theorem ggX4_isHeard_X4_overBy : GoodIn wsX4_isHeard wsX4_overBy := goodIn_r _ [24, 4, 5, 6, 7, 8, 1, 9, 10, 11, 12, 13, 14, 15, 16, 17, 18, 19, 20, 25, 26, 27, 28, 29, 30, 31, 40, 41, 42, 43, 44, 45, 46, 47, 48, 49, 50, 51, 52, 53, 54, 55] rfl (by decide +kernel)
set_option maxRecDepth 20000 in
theorem gX4_isHeard_X4_overBy : GoodIn wsX4_isHeard (wsV RX4 99 RX4 yX4_overBy wsX4_overBy) := goodIn_app (goodIn_of _ (by decide +kernel)) ggX4_isHeard_X4_overBy
set_option maxRecDepth 20000 in
theorem ggX4_isHeard_X4_it : GoodIn wsX4_isHeard wsX4_it := goodIn_r _ [12, 1, 40, 41, 42, 43, 44, 45, 46, 47, 48, 49, 50, 51, 52, 53, 54, 55] rfl (by decide +kernel)
set_option maxRecDepth 20000 in
theorem gX4_isHeard_X4_it : GoodIn wsX4_isHeard (wsV RX4 49 RX4 yX4_it wsX4_it) := goodIn_app (goodIn_of _ (by decide +kernel)) ggX4_isHeard_X4_it
set_option maxRecDepth 20000 in
theorem ggX4_isHeard_X4_losesBy : GoodIn wsX4_isHeard wsX4_losesBy := goodIn_r _ [20, 13, 14, 15, 7, 16, 1, 9, 10, 11, 12, 40, 41, 42, 43, 44, 45, 46, 47, 48, 49, 50, 51, 52, 53, 54, 55] rfl (by decide +kernel)
set_option maxRecDepth 20000 in
theorem gX4_isHeard_X4_losesBy : GoodIn wsX4_isHeard (wsV RX4 56 RX4 yX4_losesBy wsX4_losesBy) := goodIn_app (goodIn_of _ (by decide +kernel)) ggX4_isHeard_X4_losesBy
set_option maxRecDepth 20000 in
theorem ggX4_isHeard_X4_held : GoodIn wsX4_isHeard wsX4_held := goodIn_r _ [31] rfl (by decide +kernel)
set_option maxRecDepth 20000 in
theorem gX4_isHeard_X4_held : GoodIn wsX4_isHeard (va_wsS RX4 52 yX4_held wsX4_held) := goodIn_app (goodIn_of _ (by decide +kernel)) ggX4_isHeard_X4_held
set_option maxRecDepth 20000 in
theorem ggX4_isHeard_X4_put : GoodIn wsX4_isHeard wsX4_put := goodIn_r _ [35, 1, 40, 41, 42, 43, 44, 45, 46, 47, 48, 49, 50, 51, 52, 53, 54, 55] rfl (by decide +kernel)
set_option maxRecDepth 20000 in
theorem gX4_isHeard_X4_put : GoodIn wsX4_isHeard (wsV RX4 65 RX4 yX4_put wsX4_put) := goodIn_app (goodIn_of _ (by decide +kernel)) ggX4_isHeard_X4_put
set_option maxRecDepth 20000 in
theorem ggX4_isHeard_X4_doesWeep : GoodIn wsX4_isHeard wsX4_doesWeep := goodIn_r _ [39, 1, 9, 10, 11, 7, 12, 40, 41, 42, 43, 44, 45, 46, 47, 48, 49, 50, 51, 52, 53, 54, 55] rfl (by decide +kernel)
set_option maxRecDepth 20000 in
theorem gX4_isHeard_X4_doesWeep : GoodIn wsX4_isHeard (wsV RX4 77 RX4 yX4_doesWeep wsX4_doesWeep) := goodIn_app (goodIn_of _ (by decide +kernel)) ggX4_isHeard_X4_doesWeep
set_option maxRecDepth 20000 in
theorem ggX4_isHeard_X4_about : GoodIn wsX4_isHeard wsX4_about := goodIn_r _ [16, 1, 40, 41, 42, 43, 44, 45, 46, 47, 48, 49, 50, 51, 52, 53, 54, 55] rfl (by decide +kernel)
set_option maxRecDepth 20000 in
theorem gX4_isHeard_X4_about : GoodIn wsX4_isHeard (wsV RX4 45 RX4 yX4_about wsX4_about) := goodIn_app (goodIn_of _ (by decide +kernel)) ggX4_isHeard_X4_about
theorem dX4_isHeard_0 : decode cX4_isHeard 0 = .ok (.aload_n 0, 1) := by decide +kernel
theorem dX4_isHeard_1 : decode cX4_isHeard 1 = .ok (.iload_n 1, 1) := by decide +kernel
theorem dX4_isHeard_2 : decode cX4_isHeard 2 = .ok (.invokevirtual 59, 3) := by decide +kernel
theorem dX4_isHeard_5 : decode cX4_isHeard 5 = .ok (.istore_n 2, 1) := by decide +kernel
theorem dX4_isHeard_6 : decode cX4_isHeard 6 = .ok (.iload_n 2, 1) := by decide +kernel
theorem dX4_isHeard_7 : decode cX4_isHeard 7 = .ok (.ifCond .ge 4, 3) := by decide +kernel
theorem dX4_isHeard_10 : decode cX4_isHeard 10 = .ok (.return_, 1) := by decide +kernel
theorem dX4_isHeard_11 : decode cX4_isHeard 11 = .ok (.aload_n 0, 1) := by decide +kernel
theorem dX4_isHeard_12 : decode cX4_isHeard 12 = .ok (.iload_n 1, 1) := by decide +kernel
theorem dX4_isHeard_13 : decode cX4_isHeard 13 = .ok (.invokevirtual 99, 3) := by decide +kernel
theorem dX4_isHeard_16 : decode cX4_isHeard 16 = .ok (.istore_n 3, 1) := by decide +kernel
theorem dX4_isHeard_17 : decode cX4_isHeard 17 = .ok (.iconst 0, 1) := by decide +kernel
theorem dX4_isHeard_18 : decode cX4_isHeard 18 = .ok (.istore 4, 2) := by decide +kernel
theorem dX4_isHeard_20 : decode cX4_isHeard 20 = .ok (.iload 4, 2) := by decide +kernel
theorem dX4_isHeard_22 : decode cX4_isHeard 22 = .ok (.aload_n 0, 1) := by decide +kernel
theorem dX4_isHeard_23 : decode cX4_isHeard 23 = .ok (.getfield 9, 3) := by decide +kernel
theorem dX4_isHeard_26 : decode cX4_isHeard 26 = .ok (.iconst 1, 1) := by decide +kernel
theorem dX4_isHeard_27 : decode cX4_isHeard 27 = .ok (.iaload, 1) := by decide +kernel
theorem dX4_isHeard_28 : decode cX4_isHeard 28 = .ok (.if_icmp .ge 38, 3) := by decide +kernel
theorem dX4_isHeard_31 : decode cX4_isHeard 31 = .ok (.aload_n 0, 1) := by decide +kernel
theorem dX4_isHeard_32 : decode cX4_isHeard 32 = .ok (.iload 4, 2) := by decide +kernel
theorem dX4_isHeard_34 : decode cX4_isHeard 34 = .ok (.iconst 3, 1) := by decide +kernel
theorem dX4_isHeard_35 : decode cX4_isHeard 35 = .ok (.aload_n 0, 1) := by decide +kernel
theorem dX4_isHeard_36 : decode cX4_isHeard 36 = .ok (.iload 4, 2) := by decide +kernel
theorem dX4_isHeard_38 : decode cX4_isHeard 38 = .ok (.iconst 3, 1) := by decide +kernel
theorem dX4_isHeard_39 : decode cX4_isHeard 39 = .ok (.invokevirtual 49, 3) := by decide +kernel
theorem dX4_isHeard_42 : decode cX4_isHeard 42 = .ok (.aload_n 0, 1) := by decide +kernel
theorem dX4_isHeard_43 : decode cX4_isHeard 43 = .ok (.iload 4, 2) := by decide +kernel
theorem dX4_isHeard_45 : decode cX4_isHeard 45 = .ok (.iload_n 1, 1) := by decide +kernel
theorem dX4_isHeard_46 : decode cX4_isHeard 46 = .ok (.iload_n 3, 1) := by decide +kernel
theorem dX4_isHeard_47 : decode cX4_isHeard 47 = .ok (.invokevirtual 56, 3) := by decide +kernel
theorem dX4_isHeard_50 : decode cX4_isHeard 50 = .ok (.iadd, 1) := by decide +kernel
theorem dX4_isHeard_51 : decode cX4_isHeard 51 = .ok (.iconst 0, 1) := by decide +kernel
theorem dX4_isHeard_52 : decode cX4_isHeard 52 = .ok (.ldc 80, 2) := by decide +kernel
theorem dX4_isHeard_54 : decode cX4_isHeard 54 = .ok (.invokestatic 52, 3) := by decide +kernel
theorem dX4_isHeard_57 : decode cX4_isHeard 57 = .ok (.invokevirtual 65, 3) := by decide +kernel
theorem dX4_isHeard_60 : decode cX4_isHeard 60 = .ok (.iinc 4 1, 3) := by decide +kernel
theorem dX4_isHeard_63 : decode cX4_isHeard 63 = .ok (.goto (-43), 3) := by decide +kernel
theorem dX4_isHeard_66 : decode cX4_isHeard 66 = .ok (.aload_n 0, 1) := by decide +kernel
theorem dX4_isHeard_67 : decode cX4_isHeard 67 = .ok (.iload_n 2, 1) := by decide +kernel
theorem dX4_isHeard_68 : decode cX4_isHeard 68 = .ok (.invokevirtual 77, 3) := by decide +kernel
theorem dX4_isHeard_71 : decode cX4_isHeard 71 = .ok (.ifCond .eq 64, 3) := by decide +kernel
theorem dX4_isHeard_74 : decode cX4_isHeard 74 = .ok (.aload_n 0, 1) := by decide +kernel
theorem dX4_isHeard_75 : decode cX4_isHeard 75 = .ok (.iload_n 2, 1) := by decide +kernel
theorem dX4_isHeard_76 : decode cX4_isHeard 76 = .ok (.iconst 4, 1) := by decide +kernel
theorem dX4_isHeard_77 : decode cX4_isHeard 77 = .ok (.aload_n 0, 1) := by decide +kernel
theorem dX4_isHeard_78 : decode cX4_isHeard 78 = .ok (.iload_n 2, 1) := by decide +kernel
theorem dX4_isHeard_79 : decode cX4_isHeard 79 = .ok (.iconst 4, 1) := by decide +kernel
theorem dX4_isHeard_80 : decode cX4_isHeard 80 = .ok (.invokevirtual 49, 3) := by decide +kernel
theorem dX4_isHeard_83 : decode cX4_isHeard 83 = .ok (.iconst 1, 1) := by decide +kernel
theorem dX4_isHeard_84 : decode cX4_isHeard 84 = .ok (.iadd, 1) := by decide +kernel
theorem dX4_isHeard_85 : decode cX4_isHeard 85 = .ok (.iconst 0, 1) := by decide +kernel
theorem dX4_isHeard_86 : decode cX4_isHeard 86 = .ok (.sipush 999, 3) := by decide +kernel
theorem dX4_isHeard_89 : decode cX4_isHeard 89 = .ok (.invokestatic 52, 3) := by decide +kernel
theorem dX4_isHeard_92 : decode cX4_isHeard 92 = .ok (.invokevirtual 65, 3) := by decide +kernel
theorem dX4_isHeard_95 : decode cX4_isHeard 95 = .ok (.aload_n 0, 1) := by decide +kernel
theorem dX4_isHeard_96 : decode cX4_isHeard 96 = .ok (.iload_n 2, 1) := by decide +kernel
theorem dX4_isHeard_97 : decode cX4_isHeard 97 = .ok (.iconst 3, 1) := by decide +kernel
theorem dX4_isHeard_98 : decode cX4_isHeard 98 = .ok (.aload_n 0, 1) := by decide +kernel
theorem dX4_isHeard_99 : decode cX4_isHeard 99 = .ok (.iload_n 2, 1) := by decide +kernel
theorem dX4_isHeard_100 : decode cX4_isHeard 100 = .ok (.iconst 3, 1) := by decide +kernel
theorem dX4_isHeard_101 : decode cX4_isHeard 101 = .ok (.invokevirtual 49, 3) := by decide +kernel
theorem dX4_isHeard_104 : decode cX4_isHeard 104 = .ok (.iconst 2, 1) := by decide +kernel
theorem dX4_isHeard_105 : decode cX4_isHeard 105 = .ok (.idiv, 1) := by decide +kernel
theorem dX4_isHeard_106 : decode cX4_isHeard 106 = .ok (.invokevirtual 65, 3) := by decide +kernel
theorem dX4_isHeard_109 : decode cX4_isHeard 109 = .ok (.aload_n 0, 1) := by decide +kernel
theorem dX4_isHeard_110 : decode cX4_isHeard 110 = .ok (.getfield 9, 3) := by decide +kernel
theorem dX4_isHeard_113 : decode cX4_isHeard 113 = .ok (.bipush 43, 2) := by decide +kernel
theorem dX4_isHeard_115 : decode cX4_isHeard 115 = .ok (.iconst 4, 1) := by decide +kernel
theorem dX4_isHeard_116 : decode cX4_isHeard 116 = .ok (.iload_n 1, 1) := by decide +kernel
theorem dX4_isHeard_117 : decode cX4_isHeard 117 = .ok (.imul, 1) := by decide +kernel
theorem dX4_isHeard_118 : decode cX4_isHeard 118 = .ok (.iadd, 1) := by decide +kernel
theorem dX4_isHeard_119 : decode cX4_isHeard 119 = .ok (.iconst 3, 1) := by decide +kernel
theorem dX4_isHeard_120 : decode cX4_isHeard 120 = .ok (.iadd, 1) := by decide +kernel
theorem dX4_isHeard_121 : decode cX4_isHeard 121 = .ok (.aload_n 0, 1) := by decide +kernel
theorem dX4_isHeard_122 : decode cX4_isHeard 122 = .ok (.iload_n 1, 1) := by decide +kernel
theorem dX4_isHeard_123 : decode cX4_isHeard 123 = .ok (.iconst 3, 1) := by decide +kernel
theorem dX4_isHeard_124 : decode cX4_isHeard 124 = .ok (.invokevirtual 45, 3) := by decide +kernel
theorem dX4_isHeard_127 : decode cX4_isHeard 127 = .ok (.iconst 2, 1) := by decide +kernel
theorem dX4_isHeard_128 : decode cX4_isHeard 128 = .ok (.idiv, 1) := by decide +kernel
theorem dX4_isHeard_129 : decode cX4_isHeard 129 = .ok (.iastore, 1) := by decide +kernel
theorem dX4_isHeard_130 : decode cX4_isHeard 130 = .ok (.aload_n 0, 1) := by decide +kernel
theorem dX4_isHeard_131 : decode cX4_isHeard 131 = .ok (.iload_n 2, 1) := by decide +kernel
theorem dX4_isHeard_132 : decode cX4_isHeard 132 = .ok (.putfield 102, 3) := by decide +kernel
theorem dX4_isHeard_135 : decode cX4_isHeard 135 = .ok (.return_, 1) := by decide +kernel
set_option maxRecDepth 20000 in
theorem ggX4_goes_X4_isHeard : GoodIn wsX4_goes wsX4_isHeard := goodIn_r _ [7, 2, 8, 1, 9, 10, 11, 6, 12, 13, 14, 15, 16, 17, 18, 19, 20, 21, 22, 23, 24, 25, 26, 27, 28, 29, 30, 31, 32, 33, 34, 35, 36, 37, 38, 39, 40, 41, 42, 43, 44, 45, 46, 47, 48, 49, 50, 51, 52, 53, 54, 55, 56, 57, 58, 59] rfl (by decide +kernel)
set_option maxRecDepth 20000 in
theorem gX4_goes_X4_isHeard : GoodIn wsX4_goes (wsV RX4 106 RX4 yX4_isHeard wsX4_isHeard) := goodIn_app (goodIn_of _ (by decide +kernel)) ggX4_goes_X4_isHeard
theorem dX4_goes_0 : decode cX4_goes 0 = .ok (.aload_n 0, 1) := by decide +kernel
theorem dX4_goes_1 : decode cX4_goes 1 = .ok (.iconst (-1), 1) := by decide +kernel
theorem dX4_goes_2 : decode cX4_goes 2 = .ok (.putfield 102, 3) := by decide +kernel
theorem dX4_goes_5 : decode cX4_goes 5 = .ok (.aload_n 0, 1) := by decide +kernel
theorem dX4_goes_6 : decode cX4_goes 6 = .ok (.getfield 9, 3) := by decide +kernel
theorem dX4_goes_9 : decode cX4_goes 9 = .ok (.iconst 2, 1) := by decide +kernel
theorem dX4_goes_10 : decode cX4_goes 10 = .ok (.iaload, 1) := by decide +kernel
theorem dX4_goes_11 : decode cX4_goes 11 = .ok (.ifCond .le 20, 3) := by decide +kernel
theorem dX4_goes_14 : decode cX4_goes 14 = .ok (.aload_n 0, 1) := by decide +kernel
theorem dX4_goes_15 : decode cX4_goes 15 = .ok (.aload_n 0, 1) := by decide +kernel
theorem dX4_goes_16 : decode cX4_goes 16 = .ok (.getfield 9, 3) := by decide +kernel
theorem dX4_goes_19 : decode cX4_goes 19 = .ok (.iconst 0, 1) := by decide +kernel
theorem dX4_goes_20 : decode cX4_goes 20 = .ok (.iaload, 1) := by decide +kernel
theorem dX4_goes_21 : decode cX4_goes 21 = .ok (.aload_n 0, 1) := by decide +kernel
theorem dX4_goes_22 : decode cX4_goes 22 = .ok (.getfield 9, 3) := by decide +kernel
theorem dX4_goes_25 : decode cX4_goes 25 = .ok (.iconst 2, 1) := by decide +kernel
theorem dX4_goes_26 : decode cX4_goes 26 = .ok (.iaload, 1) := by decide +kernel
theorem dX4_goes_27 : decode cX4_goes 27 = .ok (.irem, 1) := by decide +kernel
theorem dX4_goes_28 : decode cX4_goes 28 = .ok (.invokevirtual 106, 3) := by decide +kernel
theorem dX4_goes_31 : decode cX4_goes 31 = .ok (.aload_n 0, 1) := by decide +kernel
theorem dX4_goes_32 : decode cX4_goes 32 = .ok (.getfield 9, 3) := by decide +kernel
theorem dX4_goes_35 : decode cX4_goes 35 = .ok (.iconst 0, 1) := by decide +kernel
theorem dX4_goes_36 : decode cX4_goes 36 = .ok (.dup2, 1) := by decide +kernel
theorem dX4_goes_37 : decode cX4_goes 37 = .ok (.iaload, 1) := by decide +kernel
theorem dX4_goes_38 : decode cX4_goes 38 = .ok (.iconst 1, 1) := by decide +kernel
theorem dX4_goes_39 : decode cX4_goes 39 = .ok (.iadd, 1) := by decide +kernel
theorem dX4_goes_40 : decode cX4_goes 40 = .ok (.iastore, 1) := by decide +kernel
theorem dX4_goes_41 : decode cX4_goes 41 = .ok (.return_, 1) := by decide +kernel
set_option maxRecDepth 20000 in
theorem ggX4_goesFor_X4_goes : GoodIn wsX4_goesFor wsX4_goes := goodIn_r _ [5, 6, 7, 8, 9, 10, 4, 11, 12, 13, 14, 15, 16, 17, 18, 19, 20, 21, 22, 23, 24, 25, 26, 27, 28, 29, 30, 31, 32, 33, 34, 35, 36, 37, 38, 39, 40, 41, 42, 43, 44, 45, 46, 47, 48, 49, 50, 51, 52, 53, 54, 55, 56, 57, 58, 59, 60, 61, 62, 63] rfl (by decide +kernel)
set_option maxRecDepth 20000 in
theorem gX4_goesFor_X4_goes : GoodIn wsX4_goesFor (wsV RX4 110 RX4 yX4_goes wsX4_goes) := goodIn_app (goodIn_of _ (by decide +kernel)) ggX4_goesFor_X4_goes
theorem dX4_goesFor_0 : decode cX4_goesFor 0 = .ok (.iconst 0, 1) := by decide +kernel
theorem dX4_goesFor_1 : decode cX4_goesFor 1 = .ok (.istore_n 2, 1) := by decide +kernel
theorem dX4_goesFor_2 : decode cX4_goesFor 2 = .ok (.iload_n 2, 1) := by decide +kernel
theorem dX4_goesFor_3 : decode cX4_goesFor 3 = .ok (.iload_n 1, 1) := by decide +kernel
theorem dX4_goesFor_4 : decode cX4_goesFor 4 = .ok (.if_icmp .ge 13, 3) := by decide +kernel
theorem dX4_goesFor_7 : decode cX4_goesFor 7 = .ok (.aload_n 0, 1) := by decide +kernel
theorem dX4_goesFor_8 : decode cX4_goesFor 8 = .ok (.invokevirtual 110, 3) := by decide +kernel
theorem dX4_goesFor_11 : decode cX4_goesFor 11 = .ok (.iinc 2 1, 3) := by decide +kernel
theorem dX4_goesFor_14 : decode cX4_goesFor 14 = .ok (.goto (-12), 3) := by decide +kernel
theorem dX4_goesFor_17 : decode cX4_goesFor 17 = .ok (.return_, 1) := by decide +kernel
set_option maxRecDepth 20000 in
theorem ggX4_allHurt_X4_it : GoodIn wsX4_allHurt wsX4_it := goodIn_r _ [6, 1, 7, 8, 9, 10, 11, 12, 13, 14, 15, 16, 17, 18, 19, 20, 21, 22] rfl (by decide +kernel)
set_option maxRecDepth 20000 in
theorem gX4_allHurt_X4_it : GoodIn wsX4_allHurt (wsV RX4 49 RX4 yX4_it wsX4_it) := goodIn_app (goodIn_of _ (by decide +kernel)) ggX4_allHurt_X4_it
theorem dX4_allHurt_0 : decode cX4_allHurt 0 = .ok (.iconst 0, 1) := by decide +kernel
theorem dX4_allHurt_1 : decode cX4_allHurt 1 = .ok (.istore_n 1, 1) := by decide +kernel
theorem dX4_allHurt_2 : decode cX4_allHurt 2 = .ok (.iconst 0, 1) := by decide +kernel
theorem dX4_allHurt_3 : decode cX4_allHurt 3 = .ok (.istore_n 2, 1) := by decide +kernel
theorem dX4_allHurt_4 : decode cX4_allHurt 4 = .ok (.iload_n 2, 1) := by decide +kernel
theorem dX4_allHurt_5 : decode cX4_allHurt 5 = .ok (.aload_n 0, 1) := by decide +kernel
theorem dX4_allHurt_6 : decode cX4_allHurt 6 = .ok (.getfield 9, 3) := by decide +kernel
theorem dX4_allHurt_9 : decode cX4_allHurt 9 = .ok (.iconst 1, 1) := by decide +kernel
theorem dX4_allHurt_10 : decode cX4_allHurt 10 = .ok (.iaload, 1) := by decide +kernel
theorem dX4_allHurt_11 : decode cX4_allHurt 11 = .ok (.if_icmp .ge 18, 3) := by decide +kernel
theorem dX4_allHurt_14 : decode cX4_allHurt 14 = .ok (.iload_n 1, 1) := by decide +kernel
theorem dX4_allHurt_15 : decode cX4_allHurt 15 = .ok (.aload_n 0, 1) := by decide +kernel
theorem dX4_allHurt_16 : decode cX4_allHurt 16 = .ok (.iload_n 2, 1) := by decide +kernel
theorem dX4_allHurt_17 : decode cX4_allHurt 17 = .ok (.iconst 3, 1) := by decide +kernel
theorem dX4_allHurt_18 : decode cX4_allHurt 18 = .ok (.invokevirtual 49, 3) := by decide +kernel
theorem dX4_allHurt_21 : decode cX4_allHurt 21 = .ok (.iadd, 1) := by decide +kernel
theorem dX4_allHurt_22 : decode cX4_allHurt 22 = .ok (.istore_n 1, 1) := by decide +kernel
theorem dX4_allHurt_23 : decode cX4_allHurt 23 = .ok (.iinc 2 1, 3) := by decide +kernel
theorem dX4_allHurt_26 : decode cX4_allHurt 26 = .ok (.goto (-22), 3) := by decide +kernel
theorem dX4_allHurt_29 : decode cX4_allHurt 29 = .ok (.iload_n 1, 1) := by decide +kernel
theorem dX4_allHurt_30 : decode cX4_allHurt 30 = .ok (.ireturn, 1) := by decide +kernel
set_option maxRecDepth 20000 in
theorem ggX4_allForce_X4_about : GoodIn wsX4_allForce wsX4_about := goodIn_r _ [6, 1, 7, 8, 9, 10, 11, 12, 13, 14, 15, 16, 17, 18, 19, 20, 21, 22] rfl (by decide +kernel)
set_option maxRecDepth 20000 in
theorem gX4_allForce_X4_about : GoodIn wsX4_allForce (wsV RX4 45 RX4 yX4_about wsX4_about) := goodIn_app (goodIn_of _ (by decide +kernel)) ggX4_allForce_X4_about
theorem dX4_allForce_0 : decode cX4_allForce 0 = .ok (.iconst 0, 1) := by decide +kernel
theorem dX4_allForce_1 : decode cX4_allForce 1 = .ok (.istore_n 1, 1) := by decide +kernel
theorem dX4_allForce_2 : decode cX4_allForce 2 = .ok (.iconst 0, 1) := by decide +kernel
theorem dX4_allForce_3 : decode cX4_allForce 3 = .ok (.istore_n 2, 1) := by decide +kernel
theorem dX4_allForce_4 : decode cX4_allForce 4 = .ok (.iload_n 2, 1) := by decide +kernel
theorem dX4_allForce_5 : decode cX4_allForce 5 = .ok (.aload_n 0, 1) := by decide +kernel
theorem dX4_allForce_6 : decode cX4_allForce 6 = .ok (.getfield 9, 3) := by decide +kernel
theorem dX4_allForce_9 : decode cX4_allForce 9 = .ok (.iconst 2, 1) := by decide +kernel
theorem dX4_allForce_10 : decode cX4_allForce 10 = .ok (.iaload, 1) := by decide +kernel
theorem dX4_allForce_11 : decode cX4_allForce 11 = .ok (.if_icmp .ge 18, 3) := by decide +kernel
theorem dX4_allForce_14 : decode cX4_allForce 14 = .ok (.iload_n 1, 1) := by decide +kernel
theorem dX4_allForce_15 : decode cX4_allForce 15 = .ok (.aload_n 0, 1) := by decide +kernel
theorem dX4_allForce_16 : decode cX4_allForce 16 = .ok (.iload_n 2, 1) := by decide +kernel
theorem dX4_allForce_17 : decode cX4_allForce 17 = .ok (.iconst 3, 1) := by decide +kernel
theorem dX4_allForce_18 : decode cX4_allForce 18 = .ok (.invokevirtual 45, 3) := by decide +kernel
theorem dX4_allForce_21 : decode cX4_allForce 21 = .ok (.iadd, 1) := by decide +kernel
theorem dX4_allForce_22 : decode cX4_allForce 22 = .ok (.istore_n 1, 1) := by decide +kernel
theorem dX4_allForce_23 : decode cX4_allForce 23 = .ok (.iinc 2 1, 3) := by decide +kernel
theorem dX4_allForce_26 : decode cX4_allForce 26 = .ok (.goto (-22), 3) := by decide +kernel
theorem dX4_allForce_29 : decode cX4_allForce 29 = .ok (.iload_n 1, 1) := by decide +kernel
theorem dX4_allForce_30 : decode cX4_allForce 30 = .ok (.ireturn, 1) := by decide +kernel
set_option maxRecDepth 20000 in
theorem ggX4_unheard_X4_interpreter : GoodIn wsX4_unheard wsX4_interpreter := goodIn_r _ [6, 1, 7, 8, 9, 5, 10, 11, 12, 13, 14, 15, 16, 17, 18, 19, 20, 21, 22, 23, 24, 25, 26, 27, 28, 29, 30, 31, 32, 33, 34] rfl (by decide +kernel)
set_option maxRecDepth 20000 in
theorem gX4_unheard_X4_interpreter : GoodIn wsX4_unheard (wsV RX4 59 RX4 yX4_interpreter wsX4_interpreter) := goodIn_app (goodIn_of _ (by decide +kernel)) ggX4_unheard_X4_interpreter
theorem dX4_unheard_0 : decode cX4_unheard 0 = .ok (.iconst 0, 1) := by decide +kernel
theorem dX4_unheard_1 : decode cX4_unheard 1 = .ok (.istore_n 1, 1) := by decide +kernel
theorem dX4_unheard_2 : decode cX4_unheard 2 = .ok (.iconst 0, 1) := by decide +kernel
theorem dX4_unheard_3 : decode cX4_unheard 3 = .ok (.istore_n 2, 1) := by decide +kernel
theorem dX4_unheard_4 : decode cX4_unheard 4 = .ok (.iload_n 2, 1) := by decide +kernel
theorem dX4_unheard_5 : decode cX4_unheard 5 = .ok (.aload_n 0, 1) := by decide +kernel
theorem dX4_unheard_6 : decode cX4_unheard 6 = .ok (.getfield 9, 3) := by decide +kernel
theorem dX4_unheard_9 : decode cX4_unheard 9 = .ok (.iconst 2, 1) := by decide +kernel
theorem dX4_unheard_10 : decode cX4_unheard 10 = .ok (.iaload, 1) := by decide +kernel
theorem dX4_unheard_11 : decode cX4_unheard 11 = .ok (.if_icmp .ge 27, 3) := by decide +kernel
theorem dX4_unheard_14 : decode cX4_unheard 14 = .ok (.iload_n 1, 1) := by decide +kernel
theorem dX4_unheard_15 : decode cX4_unheard 15 = .ok (.aload_n 0, 1) := by decide +kernel
theorem dX4_unheard_16 : decode cX4_unheard 16 = .ok (.iload_n 2, 1) := by decide +kernel
theorem dX4_unheard_17 : decode cX4_unheard 17 = .ok (.invokevirtual 59, 3) := by decide +kernel
theorem dX4_unheard_20 : decode cX4_unheard 20 = .ok (.ifCond .ge 9, 3) := by decide +kernel
theorem dX4_unheard_23 : decode cX4_unheard 23 = .ok (.iconst 1, 1) := by decide +kernel
theorem dX4_unheard_24 : decode cX4_unheard 24 = .ok (.iload_n 2, 1) := by decide +kernel
theorem dX4_unheard_25 : decode cX4_unheard 25 = .ok (.ishl, 1) := by decide +kernel
theorem dX4_unheard_26 : decode cX4_unheard 26 = .ok (.goto 4, 3) := by decide +kernel
theorem dX4_unheard_29 : decode cX4_unheard 29 = .ok (.iconst 0, 1) := by decide +kernel
theorem dX4_unheard_30 : decode cX4_unheard 30 = .ok (.ior, 1) := by decide +kernel
theorem dX4_unheard_31 : decode cX4_unheard 31 = .ok (.istore_n 1, 1) := by decide +kernel
theorem dX4_unheard_32 : decode cX4_unheard 32 = .ok (.iinc 2 1, 3) := by decide +kernel
theorem dX4_unheard_35 : decode cX4_unheard 35 = .ok (.goto (-31), 3) := by decide +kernel
theorem dX4_unheard_38 : decode cX4_unheard 38 = .ok (.iload_n 1, 1) := by decide +kernel
theorem dX4_unheard_39 : decode cX4_unheard 39 = .ok (.ireturn, 1) := by decide +kernel
set_option maxRecDepth 20000 in
theorem ggX4_sessions_X4_in : GoodIn wsX4_sessions wsX4_in := goodIn_r _ [8] rfl (by decide +kernel)
set_option maxRecDepth 20000 in
theorem gX4_sessions_X4_in : GoodIn wsX4_sessions (va_wsS RX4 41 yX4_in wsX4_in) := goodIn_app (goodIn_of _ (by decide +kernel)) ggX4_sessions_X4_in
set_option maxRecDepth 20000 in
theorem ggX4_sessions_X4_finds : GoodIn wsX4_sessions wsX4_finds := goodIn_r _ [12, 13, 1, 66, 67, 68, 69, 70, 71, 72, 73, 74, 75, 76, 77, 78, 79, 80, 81] rfl (by decide +kernel)
set_option maxRecDepth 20000 in
theorem gX4_sessions_X4_finds : GoodIn wsX4_sessions (wsV RX4 37 RX4 yX4_finds wsX4_finds) := goodIn_app (goodIn_of _ (by decide +kernel)) ggX4_sessions_X4_finds
set_option maxRecDepth 20000 in
theorem ggX4_sessions_X4_goesFor : GoodIn wsX4_sessions wsX4_goesFor := goodIn_r _ [17, 18, 19, 20, 7, 21, 22, 2, 23, 24, 25, 26, 3, 27, 28, 29, 30, 31, 32, 33, 34, 35, 36, 37, 38, 39, 40, 41, 42, 43, 44, 45, 46, 47, 48, 49, 50, 51, 52, 53, 54, 55, 56, 57, 58, 59, 60, 61, 66, 67, 68, 69, 70, 71, 72, 73, 74, 75, 76, 77, 78, 79, 80, 81] rfl (by decide +kernel)
set_option maxRecDepth 20000 in
theorem gX4_sessions_X4_goesFor : GoodIn wsX4_sessions (wsV RX4 114 RX4 yX4_goesFor wsX4_goesFor) := goodIn_app (goodIn_of _ (by decide +kernel)) ggX4_sessions_X4_goesFor
set_option maxRecDepth 20000 in
theorem ggX4_sessions_X4_allHurt : GoodIn wsX4_sessions wsX4_allHurt := goodIn_r _ [65, 2, 31, 32, 33, 7, 34, 66, 67, 68, 69, 70, 71, 72, 73, 74, 75, 76, 77, 78, 79, 80, 81] rfl (by decide +kernel)
set_option maxRecDepth 20000 in
theorem gX4_sessions_X4_allHurt : GoodIn wsX4_sessions (wsV RX4 117 RX4 yX4_allHurt wsX4_allHurt) := goodIn_app (goodIn_of _ (by decide +kernel)) ggX4_sessions_X4_allHurt
theorem dX4_sessions_0 : decode cX4_sessions 0 = .ok (.iload_n 1, 1) := by decide +kernel
theorem dX4_sessions_1 : decode cX4_sessions 1 = .ok (.i2l, 1) := by decide +kernel
theorem dX4_sessions_2 : decode cX4_sessions 2 = .ok (.iconst 1, 1) := by decide +kernel
theorem dX4_sessions_3 : decode cX4_sessions 3 = .ok (.bipush 100, 2) := by decide +kernel
theorem dX4_sessions_5 : decode cX4_sessions 5 = .ok (.invokestatic 41, 3) := by decide +kernel
theorem dX4_sessions_8 : decode cX4_sessions 8 = .ok (.ifCond .ne 10, 3) := by decide +kernel
theorem dX4_sessions_11 : decode cX4_sessions 11 = .ok (.aload_n 0, 1) := by decide +kernel
theorem dX4_sessions_12 : decode cX4_sessions 12 = .ok (.ldc 35, 2) := by decide +kernel
theorem dX4_sessions_14 : decode cX4_sessions 14 = .ok (.invokevirtual 37, 3) := by decide +kernel
theorem dX4_sessions_17 : decode cX4_sessions 17 = .ok (.ireturn, 1) := by decide +kernel
theorem dX4_sessions_18 : decode cX4_sessions 18 = .ok (.aload_n 0, 1) := by decide +kernel
theorem dX4_sessions_19 : decode cX4_sessions 19 = .ok (.getfield 9, 3) := by decide +kernel
theorem dX4_sessions_22 : decode cX4_sessions 22 = .ok (.iconst 0, 1) := by decide +kernel
theorem dX4_sessions_23 : decode cX4_sessions 23 = .ok (.iaload, 1) := by decide +kernel
theorem dX4_sessions_24 : decode cX4_sessions 24 = .ok (.iload_n 1, 1) := by decide +kernel
theorem dX4_sessions_25 : decode cX4_sessions 25 = .ok (.iadd, 1) := by decide +kernel
theorem dX4_sessions_26 : decode cX4_sessions 26 = .ok (.ldc 80, 2) := by decide +kernel
theorem dX4_sessions_28 : decode cX4_sessions 28 = .ok (.if_icmp .le 10, 3) := by decide +kernel
theorem dX4_sessions_31 : decode cX4_sessions 31 = .ok (.aload_n 0, 1) := by decide +kernel
theorem dX4_sessions_32 : decode cX4_sessions 32 = .ok (.ldc 113, 2) := by decide +kernel
theorem dX4_sessions_34 : decode cX4_sessions 34 = .ok (.invokevirtual 37, 3) := by decide +kernel
theorem dX4_sessions_37 : decode cX4_sessions 37 = .ok (.ireturn, 1) := by decide +kernel
theorem dX4_sessions_38 : decode cX4_sessions 38 = .ok (.aload_n 0, 1) := by decide +kernel
theorem dX4_sessions_39 : decode cX4_sessions 39 = .ok (.iload_n 1, 1) := by decide +kernel
theorem dX4_sessions_40 : decode cX4_sessions 40 = .ok (.invokevirtual 114, 3) := by decide +kernel
theorem dX4_sessions_43 : decode cX4_sessions 43 = .ok (.aload_n 0, 1) := by decide +kernel
theorem dX4_sessions_44 : decode cX4_sessions 44 = .ok (.invokevirtual 117, 3) := by decide +kernel
theorem dX4_sessions_47 : decode cX4_sessions 47 = .ok (.ireturn, 1) := by decide +kernel
set_option maxRecDepth 20000 in
theorem ggX4_now_X4_allHurt : GoodIn wsX4_now wsX4_allHurt := goodIn_r _ [7, 1, 8, 9, 10, 6, 11, 37, 38, 39, 40, 41, 42, 43, 44, 45, 46, 47, 48, 49, 50, 51, 52] rfl (by decide +kernel)
set_option maxRecDepth 20000 in
theorem gX4_now_X4_allHurt : GoodIn wsX4_now (wsV RX4 117 RX4 yX4_allHurt wsX4_allHurt) := goodIn_app (goodIn_of _ (by decide +kernel)) ggX4_now_X4_allHurt
set_option maxRecDepth 20000 in
theorem ggX4_now_X4_allForce : GoodIn wsX4_now wsX4_allForce := goodIn_r _ [15, 1, 16, 17, 18, 6, 19, 37, 38, 39, 40, 41, 42, 43, 44, 45, 46, 47, 48, 49, 50, 51, 52] rfl (by decide +kernel)
set_option maxRecDepth 20000 in
theorem gX4_now_X4_allForce : GoodIn wsX4_now (wsV RX4 121 RX4 yX4_allForce wsX4_allForce) := goodIn_app (goodIn_of _ (by decide +kernel)) ggX4_now_X4_allForce
set_option maxRecDepth 20000 in
theorem ggX4_now_X4_unheard : GoodIn wsX4_now wsX4_unheard := goodIn_r _ [23, 1, 24, 25, 26, 6, 27, 8, 9, 10, 11, 16, 17, 18, 19, 28, 29, 30, 31, 37, 38, 39, 40, 41, 42, 43, 44, 45, 46, 47, 48, 49, 50, 51, 52] rfl (by decide +kernel)
set_option maxRecDepth 20000 in
theorem gX4_now_X4_unheard : GoodIn wsX4_now (wsV RX4 124 RX4 yX4_unheard wsX4_unheard) := goodIn_app (goodIn_of _ (by decide +kernel)) ggX4_now_X4_unheard
set_option maxRecDepth 20000 in
theorem ggX4_now_X4_finds : GoodIn wsX4_now wsX4_finds := goodIn_r _ [35, 36, 2, 37, 38, 39, 40, 41, 42, 43, 44, 45, 46, 47, 48, 49, 50, 51, 52] rfl (by decide +kernel)
set_option maxRecDepth 20000 in
theorem gX4_now_X4_finds : GoodIn wsX4_now (wsV RX4 37 RX4 yX4_finds wsX4_finds) := goodIn_app (goodIn_of _ (by decide +kernel)) ggX4_now_X4_finds
theorem dX4_now_0 : decode cX4_now 0 = .ok (.iload_n 1, 1) := by decide +kernel
theorem dX4_now_1 : decode cX4_now 1 = .ok (.tableswitch 84 0 4 #[35, 42, 69, 74, 79], 35) := by decide +kernel
theorem dX4_now_36 : decode cX4_now 36 = .ok (.aload_n 0, 1) := by decide +kernel
theorem dX4_now_37 : decode cX4_now 37 = .ok (.getfield 9, 3) := by decide +kernel
theorem dX4_now_40 : decode cX4_now 40 = .ok (.iconst 0, 1) := by decide +kernel
theorem dX4_now_41 : decode cX4_now 41 = .ok (.iaload, 1) := by decide +kernel
theorem dX4_now_42 : decode cX4_now 42 = .ok (.ireturn, 1) := by decide +kernel
theorem dX4_now_43 : decode cX4_now 43 = .ok (.aload_n 0, 1) := by decide +kernel
theorem dX4_now_44 : decode cX4_now 44 = .ok (.getfield 9, 3) := by decide +kernel
theorem dX4_now_47 : decode cX4_now 47 = .ok (.iconst 2, 1) := by decide +kernel
theorem dX4_now_48 : decode cX4_now 48 = .ok (.iaload, 1) := by decide +kernel
theorem dX4_now_49 : decode cX4_now 49 = .ok (.ifCond .ne 7, 3) := by decide +kernel
theorem dX4_now_52 : decode cX4_now 52 = .ok (.iconst (-1), 1) := by decide +kernel
theorem dX4_now_53 : decode cX4_now 53 = .ok (.goto 16, 3) := by decide +kernel
theorem dX4_now_56 : decode cX4_now 56 = .ok (.aload_n 0, 1) := by decide +kernel
theorem dX4_now_57 : decode cX4_now 57 = .ok (.getfield 9, 3) := by decide +kernel
theorem dX4_now_60 : decode cX4_now 60 = .ok (.iconst 0, 1) := by decide +kernel
theorem dX4_now_61 : decode cX4_now 61 = .ok (.iaload, 1) := by decide +kernel
theorem dX4_now_62 : decode cX4_now 62 = .ok (.aload_n 0, 1) := by decide +kernel
theorem dX4_now_63 : decode cX4_now 63 = .ok (.getfield 9, 3) := by decide +kernel
theorem dX4_now_66 : decode cX4_now 66 = .ok (.iconst 2, 1) := by decide +kernel
theorem dX4_now_67 : decode cX4_now 67 = .ok (.iaload, 1) := by decide +kernel
theorem dX4_now_68 : decode cX4_now 68 = .ok (.irem, 1) := by decide +kernel
theorem dX4_now_69 : decode cX4_now 69 = .ok (.ireturn, 1) := by decide +kernel
theorem dX4_now_70 : decode cX4_now 70 = .ok (.aload_n 0, 1) := by decide +kernel
theorem dX4_now_71 : decode cX4_now 71 = .ok (.invokevirtual 117, 3) := by decide +kernel
theorem dX4_now_74 : decode cX4_now 74 = .ok (.ireturn, 1) := by decide +kernel
theorem dX4_now_75 : decode cX4_now 75 = .ok (.aload_n 0, 1) := by decide +kernel
theorem dX4_now_76 : decode cX4_now 76 = .ok (.invokevirtual 121, 3) := by decide +kernel
theorem dX4_now_79 : decode cX4_now 79 = .ok (.ireturn, 1) := by decide +kernel
theorem dX4_now_80 : decode cX4_now 80 = .ok (.aload_n 0, 1) := by decide +kernel
theorem dX4_now_81 : decode cX4_now 81 = .ok (.invokevirtual 124, 3) := by decide +kernel
theorem dX4_now_84 : decode cX4_now 84 = .ok (.ireturn, 1) := by decide +kernel
theorem dX4_now_85 : decode cX4_now 85 = .ok (.aload_n 0, 1) := by decide +kernel
theorem dX4_now_86 : decode cX4_now 86 = .ok (.ldc 35, 2) := by decide +kernel
theorem dX4_now_88 : decode cX4_now 88 = .ok (.invokevirtual 37, 3) := by decide +kernel
theorem dX4_now_91 : decode cX4_now 91 = .ok (.ireturn, 1) := by decide +kernel
set_option maxRecDepth 20000 in
theorem ggX4_thinks_X4_copyAll : GoodIn wsX4_thinks wsX4_copyAll := goodIn_r _ [6] rfl (by decide +kernel)
set_option maxRecDepth 20000 in
theorem gX4_thinks_X4_copyAll : GoodIn wsX4_thinks (va_wsS RX4 127 yX4_copyAll wsX4_copyAll) := goodIn_app (goodIn_of _ (by decide +kernel)) ggX4_thinks_X4_copyAll
theorem dX4_thinks_0 : decode cX4_thinks 0 = .ok (.aload_n 0, 1) := by decide +kernel
theorem dX4_thinks_1 : decode cX4_thinks 1 = .ok (.getfield 9, 3) := by decide +kernel
theorem dX4_thinks_4 : decode cX4_thinks 4 = .ok (.aload_n 0, 1) := by decide +kernel
theorem dX4_thinks_5 : decode cX4_thinks 5 = .ok (.getfield 16, 3) := by decide +kernel
theorem dX4_thinks_8 : decode cX4_thinks 8 = .ok (.invokestatic 127, 3) := by decide +kernel
theorem dX4_thinks_11 : decode cX4_thinks 11 = .ok (.return_, 1) := by decide +kernel
set_option maxRecDepth 20000 in
theorem ggX4_putsBack_X4_copyAll : GoodIn wsX4_putsBack wsX4_copyAll := goodIn_r _ [6] rfl (by decide +kernel)
set_option maxRecDepth 20000 in
theorem gX4_putsBack_X4_copyAll : GoodIn wsX4_putsBack (va_wsS RX4 127 yX4_copyAll wsX4_copyAll) := goodIn_app (goodIn_of _ (by decide +kernel)) ggX4_putsBack_X4_copyAll
theorem dX4_putsBack_0 : decode cX4_putsBack 0 = .ok (.aload_n 0, 1) := by decide +kernel
theorem dX4_putsBack_1 : decode cX4_putsBack 1 = .ok (.getfield 16, 3) := by decide +kernel
theorem dX4_putsBack_4 : decode cX4_putsBack 4 = .ok (.aload_n 0, 1) := by decide +kernel
theorem dX4_putsBack_5 : decode cX4_putsBack 5 = .ok (.getfield 9, 3) := by decide +kernel
theorem dX4_putsBack_8 : decode cX4_putsBack 8 = .ok (.invokestatic 127, 3) := by decide +kernel
theorem dX4_putsBack_11 : decode cX4_putsBack 11 = .ok (.return_, 1) := by decide +kernel
set_option maxRecDepth 20000 in
theorem ggX4_on_X4_isThere : GoodIn wsX4_on wsX4_isThere := goodIn_r _ [6, 7, 8, 9, 5, 10, 77, 78, 79, 80, 81, 82, 83, 84, 85, 86, 87, 88, 89, 90, 91, 92] rfl (by decide +kernel)
set_option maxRecDepth 20000 in
theorem gX4_on_X4_isThere : GoodIn wsX4_on (wsV RX4 73 RX4 yX4_isThere wsX4_isThere) := goodIn_app (goodIn_of _ (by decide +kernel)) ggX4_on_X4_isThere
set_option maxRecDepth 20000 in
theorem ggX4_on_X4_in : GoodIn wsX4_on wsX4_in := goodIn_r _ [10] rfl (by decide +kernel)
set_option maxRecDepth 20000 in
theorem gX4_on_X4_in : GoodIn wsX4_on (va_wsS RX4 41 yX4_in wsX4_in) := goodIn_app (goodIn_of _ (by decide +kernel)) ggX4_on_X4_in
set_option maxRecDepth 20000 in
theorem ggX4_on_X4_finds : GoodIn wsX4_on wsX4_finds := goodIn_r _ [14, 15, 1, 77, 78, 79, 80, 81, 82, 83, 84, 85, 86, 87, 88, 89, 90, 91, 92] rfl (by decide +kernel)
set_option maxRecDepth 20000 in
theorem gX4_on_X4_finds : GoodIn wsX4_on (wsV RX4 37 RX4 yX4_finds wsX4_finds) := goodIn_app (goodIn_of _ (by decide +kernel)) ggX4_on_X4_finds
set_option maxRecDepth 20000 in
theorem ggX4_on_X4_thinks : GoodIn wsX4_on wsX4_thinks := goodIn_r _ [19, 7, 20, 21, 22, 5, 23, 77, 78, 79, 80, 81, 82, 83, 84, 85, 86, 87, 88, 89, 90, 91, 92] rfl (by decide +kernel)
set_option maxRecDepth 20000 in
theorem gX4_on_X4_thinks : GoodIn wsX4_on (wsV RX4 131 RX4 yX4_thinks wsX4_thinks) := goodIn_app (goodIn_of _ (by decide +kernel)) ggX4_on_X4_thinks
set_option maxRecDepth 20000 in
theorem ggX4_on_X4_goesFor : GoodIn wsX4_on wsX4_goesFor := goodIn_r _ [27, 28, 29, 30, 5, 31, 32, 7, 33, 34, 35, 36, 37, 38, 39, 40, 41, 42, 43, 44, 45, 46, 47, 48, 49, 50, 51, 52, 53, 54, 55, 56, 57, 58, 59, 60, 61, 62, 63, 64, 65, 66, 67, 68, 69, 70, 71, 72, 77, 78, 79, 80, 81, 82, 83, 84, 85, 86, 87, 88, 89, 90, 91, 92] rfl (by decide +kernel)
set_option maxRecDepth 20000 in
theorem gX4_on_X4_goesFor : GoodIn wsX4_on (wsV RX4 114 RX4 yX4_goesFor wsX4_goesFor) := goodIn_app (goodIn_of _ (by decide +kernel)) ggX4_on_X4_goesFor
set_option maxRecDepth 20000 in
theorem ggX4_on_X4_it : GoodIn wsX4_on wsX4_it := goodIn_r _ [45, 7, 77, 78, 79, 80, 81, 82, 83, 84, 85, 86, 87, 88, 89, 90, 91, 92] rfl (by decide +kernel)
set_option maxRecDepth 20000 in
theorem gX4_on_X4_it : GoodIn wsX4_on (wsV RX4 49 RX4 yX4_it wsX4_it) := goodIn_app (goodIn_of _ (by decide +kernel)) ggX4_on_X4_it
set_option maxRecDepth 20000 in
theorem ggX4_on_X4_putsBack : GoodIn wsX4_on wsX4_putsBack := goodIn_r _ [76, 20, 7, 21, 22, 5, 23, 77, 78, 79, 80, 81, 82, 83, 84, 85, 86, 87, 88, 89, 90, 91, 92] rfl (by decide +kernel)
set_option maxRecDepth 20000 in
theorem gX4_on_X4_putsBack : GoodIn wsX4_on (wsV RX4 134 RX4 yX4_putsBack wsX4_putsBack) := goodIn_app (goodIn_of _ (by decide +kernel)) ggX4_on_X4_putsBack
theorem dX4_on_0 : decode cX4_on 0 = .ok (.aload_n 0, 1) := by decide +kernel
theorem dX4_on_1 : decode cX4_on 1 = .ok (.iload_n 1, 1) := by decide +kernel
theorem dX4_on_2 : decode cX4_on 2 = .ok (.invokevirtual 73, 3) := by decide +kernel
theorem dX4_on_5 : decode cX4_on 5 = .ok (.ifCond .eq 25, 3) := by decide +kernel
theorem dX4_on_8 : decode cX4_on 8 = .ok (.iload_n 2, 1) := by decide +kernel
theorem dX4_on_9 : decode cX4_on 9 = .ok (.i2l, 1) := by decide +kernel
theorem dX4_on_10 : decode cX4_on 10 = .ok (.iconst 0, 1) := by decide +kernel
theorem dX4_on_11 : decode cX4_on 11 = .ok (.sipush 200, 3) := by decide +kernel
theorem dX4_on_14 : decode cX4_on 14 = .ok (.invokestatic 41, 3) := by decide +kernel
theorem dX4_on_17 : decode cX4_on 17 = .ok (.ifCond .eq 13, 3) := by decide +kernel
theorem dX4_on_20 : decode cX4_on 20 = .ok (.iload_n 3, 1) := by decide +kernel
theorem dX4_on_21 : decode cX4_on 21 = .ok (.i2l, 1) := by decide +kernel
theorem dX4_on_22 : decode cX4_on 22 = .ok (.iconst 0, 1) := by decide +kernel
theorem dX4_on_23 : decode cX4_on 23 = .ok (.iconst 1, 1) := by decide +kernel
theorem dX4_on_24 : decode cX4_on 24 = .ok (.invokestatic 41, 3) := by decide +kernel
theorem dX4_on_27 : decode cX4_on 27 = .ok (.ifCond .ne 10, 3) := by decide +kernel
theorem dX4_on_30 : decode cX4_on 30 = .ok (.aload_n 0, 1) := by decide +kernel
theorem dX4_on_31 : decode cX4_on 31 = .ok (.ldc 35, 2) := by decide +kernel
theorem dX4_on_33 : decode cX4_on 33 = .ok (.invokevirtual 37, 3) := by decide +kernel
theorem dX4_on_36 : decode cX4_on 36 = .ok (.ireturn, 1) := by decide +kernel
theorem dX4_on_37 : decode cX4_on 37 = .ok (.aload_n 0, 1) := by decide +kernel
theorem dX4_on_38 : decode cX4_on 38 = .ok (.invokevirtual 131, 3) := by decide +kernel
theorem dX4_on_41 : decode cX4_on 41 = .ok (.aload_n 0, 1) := by decide +kernel
theorem dX4_on_42 : decode cX4_on 42 = .ok (.iload_n 2, 1) := by decide +kernel
theorem dX4_on_43 : decode cX4_on 43 = .ok (.invokevirtual 114, 3) := by decide +kernel
theorem dX4_on_46 : decode cX4_on 46 = .ok (.aload_n 0, 1) := by decide +kernel
theorem dX4_on_47 : decode cX4_on 47 = .ok (.iload_n 1, 1) := by decide +kernel
theorem dX4_on_48 : decode cX4_on 48 = .ok (.iconst 3, 1) := by decide +kernel
theorem dX4_on_49 : decode cX4_on 49 = .ok (.iload_n 3, 1) := by decide +kernel
theorem dX4_on_50 : decode cX4_on 50 = .ok (.iadd, 1) := by decide +kernel
theorem dX4_on_51 : decode cX4_on 51 = .ok (.invokevirtual 49, 3) := by decide +kernel
theorem dX4_on_54 : decode cX4_on 54 = .ok (.istore 4, 2) := by decide +kernel
theorem dX4_on_56 : decode cX4_on 56 = .ok (.aload_n 0, 1) := by decide +kernel
theorem dX4_on_57 : decode cX4_on 57 = .ok (.invokevirtual 134, 3) := by decide +kernel
theorem dX4_on_60 : decode cX4_on 60 = .ok (.iload 4, 2) := by decide +kernel
theorem dX4_on_62 : decode cX4_on 62 = .ok (.ireturn, 1) := by decide +kernel
set_option maxRecDepth 20000 in
theorem ggX4_left_X4_isSpeech : GoodIn wsX4_left wsX4_isSpeech := goodIn_r _ [6, 7, 8, 9, 5, 10, 77, 78, 79, 80, 81, 82, 83, 84, 85, 86, 87, 88, 89, 90, 91, 92] rfl (by decide +kernel)
set_option maxRecDepth 20000 in
theorem gX4_left_X4_isSpeech : GoodIn wsX4_left (wsV RX4 96 RX4 yX4_isSpeech wsX4_isSpeech) := goodIn_app (goodIn_of _ (by decide +kernel)) ggX4_left_X4_isSpeech
set_option maxRecDepth 20000 in
theorem ggX4_left_X4_in : GoodIn wsX4_left wsX4_in := goodIn_r _ [10] rfl (by decide +kernel)
set_option maxRecDepth 20000 in
theorem gX4_left_X4_in : GoodIn wsX4_left (va_wsS RX4 41 yX4_in wsX4_in) := goodIn_app (goodIn_of _ (by decide +kernel)) ggX4_left_X4_in
set_option maxRecDepth 20000 in
theorem ggX4_left_X4_finds : GoodIn wsX4_left wsX4_finds := goodIn_r _ [14, 15, 1, 77, 78, 79, 80, 81, 82, 83, 84, 85, 86, 87, 88, 89, 90, 91, 92] rfl (by decide +kernel)
set_option maxRecDepth 20000 in
theorem gX4_left_X4_finds : GoodIn wsX4_left (wsV RX4 37 RX4 yX4_finds wsX4_finds) := goodIn_app (goodIn_of _ (by decide +kernel)) ggX4_left_X4_finds
set_option maxRecDepth 20000 in
theorem ggX4_left_X4_thinks : GoodIn wsX4_left wsX4_thinks := goodIn_r _ [19, 7, 20, 21, 22, 5, 23, 77, 78, 79, 80, 81, 82, 83, 84, 85, 86, 87, 88, 89, 90, 91, 92] rfl (by decide +kernel)
set_option maxRecDepth 20000 in
theorem gX4_left_X4_thinks : GoodIn wsX4_left (wsV RX4 131 RX4 yX4_thinks wsX4_thinks) := goodIn_app (goodIn_of _ (by decide +kernel)) ggX4_left_X4_thinks
set_option maxRecDepth 20000 in
theorem ggX4_left_X4_goesFor : GoodIn wsX4_left wsX4_goesFor := goodIn_r _ [27, 28, 29, 30, 5, 31, 32, 7, 33, 34, 35, 36, 37, 38, 39, 40, 41, 42, 43, 44, 45, 46, 47, 48, 49, 50, 51, 52, 53, 54, 55, 56, 57, 58, 59, 60, 61, 62, 63, 64, 65, 66, 67, 68, 69, 70, 71, 72, 77, 78, 79, 80, 81, 82, 83, 84, 85, 86, 87, 88, 89, 90, 91, 92] rfl (by decide +kernel)
set_option maxRecDepth 20000 in
theorem gX4_left_X4_goesFor : GoodIn wsX4_left (wsV RX4 114 RX4 yX4_goesFor wsX4_goesFor) := goodIn_app (goodIn_of _ (by decide +kernel)) ggX4_left_X4_goesFor
set_option maxRecDepth 20000 in
theorem ggX4_left_X4_about : GoodIn wsX4_left wsX4_about := goodIn_r _ [49, 7, 77, 78, 79, 80, 81, 82, 83, 84, 85, 86, 87, 88, 89, 90, 91, 92] rfl (by decide +kernel)
set_option maxRecDepth 20000 in
theorem gX4_left_X4_about : GoodIn wsX4_left (wsV RX4 45 RX4 yX4_about wsX4_about) := goodIn_app (goodIn_of _ (by decide +kernel)) ggX4_left_X4_about
set_option maxRecDepth 20000 in
theorem ggX4_left_X4_putsBack : GoodIn wsX4_left wsX4_putsBack := goodIn_r _ [76, 20, 7, 21, 22, 5, 23, 77, 78, 79, 80, 81, 82, 83, 84, 85, 86, 87, 88, 89, 90, 91, 92] rfl (by decide +kernel)
set_option maxRecDepth 20000 in
theorem gX4_left_X4_putsBack : GoodIn wsX4_left (wsV RX4 134 RX4 yX4_putsBack wsX4_putsBack) := goodIn_app (goodIn_of _ (by decide +kernel)) ggX4_left_X4_putsBack
theorem dX4_left_0 : decode cX4_left 0 = .ok (.aload_n 0, 1) := by decide +kernel
theorem dX4_left_1 : decode cX4_left 1 = .ok (.iload_n 1, 1) := by decide +kernel
theorem dX4_left_2 : decode cX4_left 2 = .ok (.invokevirtual 96, 3) := by decide +kernel
theorem dX4_left_5 : decode cX4_left 5 = .ok (.ifCond .eq 15, 3) := by decide +kernel
theorem dX4_left_8 : decode cX4_left 8 = .ok (.iload_n 2, 1) := by decide +kernel
theorem dX4_left_9 : decode cX4_left 9 = .ok (.i2l, 1) := by decide +kernel
theorem dX4_left_10 : decode cX4_left 10 = .ok (.iconst 0, 1) := by decide +kernel
theorem dX4_left_11 : decode cX4_left 11 = .ok (.sipush 200, 3) := by decide +kernel
theorem dX4_left_14 : decode cX4_left 14 = .ok (.invokestatic 41, 3) := by decide +kernel
theorem dX4_left_17 : decode cX4_left 17 = .ok (.ifCond .ne 10, 3) := by decide +kernel
theorem dX4_left_20 : decode cX4_left 20 = .ok (.aload_n 0, 1) := by decide +kernel
theorem dX4_left_21 : decode cX4_left 21 = .ok (.ldc 35, 2) := by decide +kernel
theorem dX4_left_23 : decode cX4_left 23 = .ok (.invokevirtual 37, 3) := by decide +kernel
theorem dX4_left_26 : decode cX4_left 26 = .ok (.ireturn, 1) := by decide +kernel
theorem dX4_left_27 : decode cX4_left 27 = .ok (.aload_n 0, 1) := by decide +kernel
theorem dX4_left_28 : decode cX4_left 28 = .ok (.invokevirtual 131, 3) := by decide +kernel
theorem dX4_left_31 : decode cX4_left 31 = .ok (.aload_n 0, 1) := by decide +kernel
theorem dX4_left_32 : decode cX4_left 32 = .ok (.iload_n 2, 1) := by decide +kernel
theorem dX4_left_33 : decode cX4_left 33 = .ok (.invokevirtual 114, 3) := by decide +kernel
theorem dX4_left_36 : decode cX4_left 36 = .ok (.aload_n 0, 1) := by decide +kernel
theorem dX4_left_37 : decode cX4_left 37 = .ok (.iload_n 1, 1) := by decide +kernel
theorem dX4_left_38 : decode cX4_left 38 = .ok (.iconst 3, 1) := by decide +kernel
theorem dX4_left_39 : decode cX4_left 39 = .ok (.invokevirtual 45, 3) := by decide +kernel
theorem dX4_left_42 : decode cX4_left 42 = .ok (.istore_n 3, 1) := by decide +kernel
theorem dX4_left_43 : decode cX4_left 43 = .ok (.aload_n 0, 1) := by decide +kernel
theorem dX4_left_44 : decode cX4_left 44 = .ok (.invokevirtual 134, 3) := by decide +kernel
theorem dX4_left_47 : decode cX4_left 47 = .ok (.iload_n 3, 1) := by decide +kernel
theorem dX4_left_48 : decode cX4_left 48 = .ok (.ireturn, 1) := by decide +kernel
set_option maxRecDepth 20000 in
theorem ggX4_weeps_X4_isThere : GoodIn wsX4_weeps wsX4_isThere := goodIn_r _ [8, 9, 10, 11, 7, 12, 74, 75, 76, 77, 78, 79, 80, 81, 82, 83, 84, 85, 86, 87, 88, 89] rfl (by decide +kernel)
set_option maxRecDepth 20000 in
theorem gX4_weeps_X4_isThere : GoodIn wsX4_weeps (wsV RX4 73 RX4 yX4_isThere wsX4_isThere) := goodIn_app (goodIn_of _ (by decide +kernel)) ggX4_weeps_X4_isThere
set_option maxRecDepth 20000 in
theorem ggX4_weeps_X4_finds : GoodIn wsX4_weeps wsX4_finds := goodIn_r _ [16, 17, 1, 74, 75, 76, 77, 78, 79, 80, 81, 82, 83, 84, 85, 86, 87, 88, 89] rfl (by decide +kernel)
set_option maxRecDepth 20000 in
theorem gX4_weeps_X4_finds : GoodIn wsX4_weeps (wsV RX4 37 RX4 yX4_finds wsX4_finds) := goodIn_app (goodIn_of _ (by decide +kernel)) ggX4_weeps_X4_finds
set_option maxRecDepth 20000 in
theorem ggX4_weeps_X4_thinks : GoodIn wsX4_weeps wsX4_thinks := goodIn_r _ [21, 9, 22, 23, 24, 7, 25, 74, 75, 76, 77, 78, 79, 80, 81, 82, 83, 84, 85, 86, 87, 88, 89] rfl (by decide +kernel)
set_option maxRecDepth 20000 in
theorem gX4_weeps_X4_thinks : GoodIn wsX4_weeps (wsV RX4 131 RX4 yX4_thinks wsX4_thinks) := goodIn_app (goodIn_of _ (by decide +kernel)) ggX4_weeps_X4_thinks
set_option maxRecDepth 20000 in
theorem ggX4_weeps_X4_goes : GoodIn wsX4_weeps wsX4_goes := goodIn_r _ [29, 2, 9, 30, 31, 32, 7, 33, 34, 35, 36, 37, 38, 39, 40, 41, 42, 43, 44, 45, 46, 47, 48, 49, 50, 51, 52, 53, 54, 55, 56, 57, 58, 59, 60, 61, 62, 63, 64, 65, 66, 67, 68, 69, 74, 75, 76, 77, 78, 79, 80, 81, 82, 83, 84, 85, 86, 87, 88, 89] rfl (by decide +kernel)
set_option maxRecDepth 20000 in
theorem gX4_weeps_X4_goes : GoodIn wsX4_weeps (wsV RX4 110 RX4 yX4_goes wsX4_goes) := goodIn_app (goodIn_of _ (by decide +kernel)) ggX4_weeps_X4_goes
set_option maxRecDepth 20000 in
theorem ggX4_weeps_X4_putsBack : GoodIn wsX4_weeps wsX4_putsBack := goodIn_r _ [73, 22, 9, 23, 24, 7, 25, 74, 75, 76, 77, 78, 79, 80, 81, 82, 83, 84, 85, 86, 87, 88, 89] rfl (by decide +kernel)
set_option maxRecDepth 20000 in
theorem gX4_weeps_X4_putsBack : GoodIn wsX4_weeps (wsV RX4 134 RX4 yX4_putsBack wsX4_putsBack) := goodIn_app (goodIn_of _ (by decide +kernel)) ggX4_weeps_X4_putsBack
theorem dX4_weeps_0 : decode cX4_weeps 0 = .ok (.aload_n 0, 1) := by decide +kernel
theorem dX4_weeps_1 : decode cX4_weeps 1 = .ok (.iload_n 1, 1) := by decide +kernel
theorem dX4_weeps_2 : decode cX4_weeps 2 = .ok (.invokevirtual 73, 3) := by decide +kernel
theorem dX4_weeps_5 : decode cX4_weeps 5 = .ok (.ifCond .ne 10, 3) := by decide +kernel
theorem dX4_weeps_8 : decode cX4_weeps 8 = .ok (.aload_n 0, 1) := by decide +kernel
theorem dX4_weeps_9 : decode cX4_weeps 9 = .ok (.ldc 35, 2) := by decide +kernel
theorem dX4_weeps_11 : decode cX4_weeps 11 = .ok (.invokevirtual 37, 3) := by decide +kernel
theorem dX4_weeps_14 : decode cX4_weeps 14 = .ok (.ireturn, 1) := by decide +kernel
theorem dX4_weeps_15 : decode cX4_weeps 15 = .ok (.aload_n 0, 1) := by decide +kernel
theorem dX4_weeps_16 : decode cX4_weeps 16 = .ok (.invokevirtual 131, 3) := by decide +kernel
theorem dX4_weeps_19 : decode cX4_weeps 19 = .ok (.iconst 1, 1) := by decide +kernel
theorem dX4_weeps_20 : decode cX4_weeps 20 = .ok (.istore_n 2, 1) := by decide +kernel
theorem dX4_weeps_21 : decode cX4_weeps 21 = .ok (.aload_n 0, 1) := by decide +kernel
theorem dX4_weeps_22 : decode cX4_weeps 22 = .ok (.invokevirtual 110, 3) := by decide +kernel
theorem dX4_weeps_25 : decode cX4_weeps 25 = .ok (.iload_n 2, 1) := by decide +kernel
theorem dX4_weeps_26 : decode cX4_weeps 26 = .ok (.sipush 200, 3) := by decide +kernel
theorem dX4_weeps_29 : decode cX4_weeps 29 = .ok (.if_icmp .gt 21, 3) := by decide +kernel
theorem dX4_weeps_32 : decode cX4_weeps 32 = .ok (.aload_n 0, 1) := by decide +kernel
theorem dX4_weeps_33 : decode cX4_weeps 33 = .ok (.getfield 102, 3) := by decide +kernel
theorem dX4_weeps_36 : decode cX4_weeps 36 = .ok (.iload_n 1, 1) := by decide +kernel
theorem dX4_weeps_37 : decode cX4_weeps 37 = .ok (.if_icmp .eq 13, 3) := by decide +kernel
theorem dX4_weeps_40 : decode cX4_weeps 40 = .ok (.aload_n 0, 1) := by decide +kernel
theorem dX4_weeps_41 : decode cX4_weeps 41 = .ok (.invokevirtual 110, 3) := by decide +kernel
theorem dX4_weeps_44 : decode cX4_weeps 44 = .ok (.iinc 2 1, 3) := by decide +kernel
theorem dX4_weeps_47 : decode cX4_weeps 47 = .ok (.goto (-22), 3) := by decide +kernel
theorem dX4_weeps_50 : decode cX4_weeps 50 = .ok (.aload_n 0, 1) := by decide +kernel
theorem dX4_weeps_51 : decode cX4_weeps 51 = .ok (.invokevirtual 134, 3) := by decide +kernel
theorem dX4_weeps_54 : decode cX4_weeps 54 = .ok (.iload_n 2, 1) := by decide +kernel
theorem dX4_weeps_55 : decode cX4_weeps 55 = .ok (.sipush 200, 3) := by decide +kernel
theorem dX4_weeps_58 : decode cX4_weeps 58 = .ok (.if_icmp .le 12, 3) := by decide +kernel
theorem dX4_weeps_61 : decode cX4_weeps 61 = .ok (.aload_n 0, 1) := by decide +kernel
theorem dX4_weeps_62 : decode cX4_weeps 62 = .ok (.ldc 36, 2) := by decide +kernel
theorem dX4_weeps_64 : decode cX4_weeps 64 = .ok (.invokevirtual 37, 3) := by decide +kernel
theorem dX4_weeps_67 : decode cX4_weeps 67 = .ok (.goto 4, 3) := by decide +kernel
theorem dX4_weeps_70 : decode cX4_weeps 70 = .ok (.iload_n 2, 1) := by decide +kernel
theorem dX4_weeps_71 : decode cX4_weeps 71 = .ok (.ireturn, 1) := by decide +kernel
set_option maxRecDepth 20000 in
theorem ggX4_when_X4_isThere : GoodIn wsX4_when wsX4_isThere := goodIn_r _ [8, 9, 10, 11, 7, 12, 74, 75, 76, 77, 78, 79, 80, 81, 82, 83, 84, 85, 86, 87, 88, 89] rfl (by decide +kernel)
set_option maxRecDepth 20000 in
theorem gX4_when_X4_isThere : GoodIn wsX4_when (wsV RX4 73 RX4 yX4_isThere wsX4_isThere) := goodIn_app (goodIn_of _ (by decide +kernel)) ggX4_when_X4_isThere
set_option maxRecDepth 20000 in
theorem ggX4_when_X4_in : GoodIn wsX4_when wsX4_in := goodIn_r _ [12] rfl (by decide +kernel)
set_option maxRecDepth 20000 in
theorem gX4_when_X4_in : GoodIn wsX4_when (va_wsS RX4 41 yX4_in wsX4_in) := goodIn_app (goodIn_of _ (by decide +kernel)) ggX4_when_X4_in
set_option maxRecDepth 20000 in
theorem ggX4_when_X4_finds : GoodIn wsX4_when wsX4_finds := goodIn_r _ [16, 17, 2, 74, 75, 76, 77, 78, 79, 80, 81, 82, 83, 84, 85, 86, 87, 88, 89] rfl (by decide +kernel)
set_option maxRecDepth 20000 in
theorem gX4_when_X4_finds : GoodIn wsX4_when (wsV RX4 37 RX4 yX4_finds wsX4_finds) := goodIn_app (goodIn_of _ (by decide +kernel)) ggX4_when_X4_finds
set_option maxRecDepth 20000 in
theorem ggX4_when_X4_thinks : GoodIn wsX4_when wsX4_thinks := goodIn_r _ [21, 9, 22, 23, 24, 7, 25, 74, 75, 76, 77, 78, 79, 80, 81, 82, 83, 84, 85, 86, 87, 88, 89] rfl (by decide +kernel)
set_option maxRecDepth 20000 in
theorem gX4_when_X4_thinks : GoodIn wsX4_when (wsV RX4 131 RX4 yX4_thinks wsX4_thinks) := goodIn_app (goodIn_of _ (by decide +kernel)) ggX4_when_X4_thinks
set_option maxRecDepth 20000 in
theorem ggX4_when_X4_it : GoodIn wsX4_when wsX4_it := goodIn_r _ [29, 9, 74, 75, 76, 77, 78, 79, 80, 81, 82, 83, 84, 85, 86, 87, 88, 89] rfl (by decide +kernel)
set_option maxRecDepth 20000 in
theorem gX4_when_X4_it : GoodIn wsX4_when (wsV RX4 49 RX4 yX4_it wsX4_it) := goodIn_app (goodIn_of _ (by decide +kernel)) ggX4_when_X4_it
set_option maxRecDepth 20000 in
theorem ggX4_when_X4_goes : GoodIn wsX4_when wsX4_goes := goodIn_r _ [33, 34, 9, 35, 36, 37, 7, 38, 1, 39, 40, 41, 42, 26, 27, 28, 29, 43, 44, 45, 46, 47, 48, 49, 50, 51, 52, 53, 54, 55, 56, 57, 58, 59, 60, 61, 62, 63, 64, 65, 66, 67, 68, 69, 74, 75, 76, 77, 78, 79, 80, 81, 82, 83, 84, 85, 86, 87, 88, 89] rfl (by decide +kernel)
set_option maxRecDepth 20000 in
theorem gX4_when_X4_goes : GoodIn wsX4_when (wsV RX4 110 RX4 yX4_goes wsX4_goes) := goodIn_app (goodIn_of _ (by decide +kernel)) ggX4_when_X4_goes
set_option maxRecDepth 20000 in
theorem ggX4_when_X4_putsBack : GoodIn wsX4_when wsX4_putsBack := goodIn_r _ [73, 22, 9, 23, 24, 7, 25, 74, 75, 76, 77, 78, 79, 80, 81, 82, 83, 84, 85, 86, 87, 88, 89] rfl (by decide +kernel)
set_option maxRecDepth 20000 in
theorem gX4_when_X4_putsBack : GoodIn wsX4_when (wsV RX4 134 RX4 yX4_putsBack wsX4_putsBack) := goodIn_app (goodIn_of _ (by decide +kernel)) ggX4_when_X4_putsBack
theorem dX4_when_0 : decode cX4_when 0 = .ok (.aload_n 0, 1) := by decide +kernel
theorem dX4_when_1 : decode cX4_when 1 = .ok (.iload_n 1, 1) := by decide +kernel
theorem dX4_when_2 : decode cX4_when 2 = .ok (.invokevirtual 73, 3) := by decide +kernel
theorem dX4_when_5 : decode cX4_when 5 = .ok (.ifCond .eq 14, 3) := by decide +kernel
theorem dX4_when_8 : decode cX4_when 8 = .ok (.iload_n 2, 1) := by decide +kernel
theorem dX4_when_9 : decode cX4_when 9 = .ok (.i2l, 1) := by decide +kernel
theorem dX4_when_10 : decode cX4_when 10 = .ok (.iconst 0, 1) := by decide +kernel
theorem dX4_when_11 : decode cX4_when 11 = .ok (.ldc 80, 2) := by decide +kernel
theorem dX4_when_13 : decode cX4_when 13 = .ok (.invokestatic 41, 3) := by decide +kernel
theorem dX4_when_16 : decode cX4_when 16 = .ok (.ifCond .ne 10, 3) := by decide +kernel
theorem dX4_when_19 : decode cX4_when 19 = .ok (.aload_n 0, 1) := by decide +kernel
theorem dX4_when_20 : decode cX4_when 20 = .ok (.ldc 35, 2) := by decide +kernel
theorem dX4_when_22 : decode cX4_when 22 = .ok (.invokevirtual 37, 3) := by decide +kernel
theorem dX4_when_25 : decode cX4_when 25 = .ok (.ireturn, 1) := by decide +kernel
theorem dX4_when_26 : decode cX4_when 26 = .ok (.aload_n 0, 1) := by decide +kernel
theorem dX4_when_27 : decode cX4_when 27 = .ok (.invokevirtual 131, 3) := by decide +kernel
theorem dX4_when_30 : decode cX4_when 30 = .ok (.iconst 0, 1) := by decide +kernel
theorem dX4_when_31 : decode cX4_when 31 = .ok (.istore_n 3, 1) := by decide +kernel
theorem dX4_when_32 : decode cX4_when 32 = .ok (.iload_n 3, 1) := by decide +kernel
theorem dX4_when_33 : decode cX4_when 33 = .ok (.sipush 200, 3) := by decide +kernel
theorem dX4_when_36 : decode cX4_when 36 = .ok (.if_icmp .gt 23, 3) := by decide +kernel
theorem dX4_when_39 : decode cX4_when 39 = .ok (.aload_n 0, 1) := by decide +kernel
theorem dX4_when_40 : decode cX4_when 40 = .ok (.iload_n 1, 1) := by decide +kernel
theorem dX4_when_41 : decode cX4_when 41 = .ok (.iconst 3, 1) := by decide +kernel
theorem dX4_when_42 : decode cX4_when 42 = .ok (.invokevirtual 49, 3) := by decide +kernel
theorem dX4_when_45 : decode cX4_when 45 = .ok (.iload_n 2, 1) := by decide +kernel
theorem dX4_when_46 : decode cX4_when 46 = .ok (.if_icmp .ge 13, 3) := by decide +kernel
theorem dX4_when_49 : decode cX4_when 49 = .ok (.aload_n 0, 1) := by decide +kernel
theorem dX4_when_50 : decode cX4_when 50 = .ok (.invokevirtual 110, 3) := by decide +kernel
theorem dX4_when_53 : decode cX4_when 53 = .ok (.iinc 3 1, 3) := by decide +kernel
theorem dX4_when_56 : decode cX4_when 56 = .ok (.goto (-24), 3) := by decide +kernel
theorem dX4_when_59 : decode cX4_when 59 = .ok (.aload_n 0, 1) := by decide +kernel
theorem dX4_when_60 : decode cX4_when 60 = .ok (.invokevirtual 134, 3) := by decide +kernel
theorem dX4_when_63 : decode cX4_when 63 = .ok (.iload_n 3, 1) := by decide +kernel
theorem dX4_when_64 : decode cX4_when 64 = .ok (.sipush 200, 3) := by decide +kernel
theorem dX4_when_67 : decode cX4_when 67 = .ok (.if_icmp .le 12, 3) := by decide +kernel
theorem dX4_when_70 : decode cX4_when 70 = .ok (.aload_n 0, 1) := by decide +kernel
theorem dX4_when_71 : decode cX4_when 71 = .ok (.ldc 36, 2) := by decide +kernel
theorem dX4_when_73 : decode cX4_when 73 = .ok (.invokevirtual 37, 3) := by decide +kernel
theorem dX4_when_76 : decode cX4_when 76 = .ok (.goto 4, 3) := by decide +kernel
theorem dX4_when_79 : decode cX4_when 79 = .ok (.iload_n 3, 1) := by decide +kernel
theorem dX4_when_80 : decode cX4_when 80 = .ok (.ireturn, 1) := by decide +kernel
set_option maxRecDepth 20000 in
theorem ggX4_hurtOn_X4_goesFor : GoodIn wsX4_hurtOn wsX4_goesFor := goodIn_r _ [5, 6, 7, 8, 4, 9, 10, 11, 12, 13, 14, 15, 16, 17, 18, 19, 20, 21, 22, 23, 24, 25, 26, 27, 28, 29, 30, 31, 32, 33, 34, 35, 36, 37, 38, 39, 40, 41, 42, 43, 44, 45, 46, 47, 48, 49, 50, 51, 64, 65, 66, 67, 68, 69, 70, 71, 72, 73, 74, 75, 76, 77, 78, 79] rfl (by decide +kernel)
set_option maxRecDepth 20000 in
theorem gX4_hurtOn_X4_goesFor : GoodIn wsX4_hurtOn (wsV RX4 114 RX4 yX4_goesFor wsX4_goesFor) := goodIn_app (goodIn_of _ (by decide +kernel)) ggX4_hurtOn_X4_goesFor
set_option maxRecDepth 20000 in
theorem ggX4_hurtOn_X4_allHurt : GoodIn wsX4_hurtOn wsX4_allHurt := goodIn_r _ [55, 11, 21, 22, 23, 4, 24, 64, 65, 66, 67, 68, 69, 70, 71, 72, 73, 74, 75, 76, 77, 78, 79] rfl (by decide +kernel)
set_option maxRecDepth 20000 in
theorem gX4_hurtOn_X4_allHurt : GoodIn wsX4_hurtOn (wsV RX4 117 RX4 yX4_allHurt wsX4_allHurt) := goodIn_app (goodIn_of _ (by decide +kernel)) ggX4_hurtOn_X4_allHurt
set_option maxRecDepth 20000 in
theorem ggX4_hurtOn_X4_it : GoodIn wsX4_hurtOn wsX4_it := goodIn_r _ [24, 11, 64, 65, 66, 67, 68, 69, 70, 71, 72, 73, 74, 75, 76, 77, 78, 79] rfl (by decide +kernel)
set_option maxRecDepth 20000 in
theorem gX4_hurtOn_X4_it : GoodIn wsX4_hurtOn (wsV RX4 49 RX4 yX4_it wsX4_it) := goodIn_app (goodIn_of _ (by decide +kernel)) ggX4_hurtOn_X4_it
set_option maxRecDepth 20000 in
theorem ggX4_hurtOn_X4_putsBack : GoodIn wsX4_hurtOn wsX4_putsBack := goodIn_r _ [59, 60, 11, 61, 62, 4, 63, 64, 65, 66, 67, 68, 69, 70, 71, 72, 73, 74, 75, 76, 77, 78, 79] rfl (by decide +kernel)
set_option maxRecDepth 20000 in
theorem gX4_hurtOn_X4_putsBack : GoodIn wsX4_hurtOn (wsV RX4 134 RX4 yX4_putsBack wsX4_putsBack) := goodIn_app (goodIn_of _ (by decide +kernel)) ggX4_hurtOn_X4_putsBack
theorem dX4_hurtOn_0 : decode cX4_hurtOn 0 = .ok (.aload_n 0, 1) := by decide +kernel
theorem dX4_hurtOn_1 : decode cX4_hurtOn 1 = .ok (.iload_n 2, 1) := by decide +kernel
theorem dX4_hurtOn_2 : decode cX4_hurtOn 2 = .ok (.invokevirtual 114, 3) := by decide +kernel
theorem dX4_hurtOn_5 : decode cX4_hurtOn 5 = .ok (.iload_n 1, 1) := by decide +kernel
theorem dX4_hurtOn_6 : decode cX4_hurtOn 6 = .ok (.ifCond .ge 10, 3) := by decide +kernel
theorem dX4_hurtOn_9 : decode cX4_hurtOn 9 = .ok (.aload_n 0, 1) := by decide +kernel
theorem dX4_hurtOn_10 : decode cX4_hurtOn 10 = .ok (.invokevirtual 117, 3) := by decide +kernel
theorem dX4_hurtOn_13 : decode cX4_hurtOn 13 = .ok (.goto 9, 3) := by decide +kernel
theorem dX4_hurtOn_16 : decode cX4_hurtOn 16 = .ok (.aload_n 0, 1) := by decide +kernel
theorem dX4_hurtOn_17 : decode cX4_hurtOn 17 = .ok (.iload_n 1, 1) := by decide +kernel
theorem dX4_hurtOn_18 : decode cX4_hurtOn 18 = .ok (.iconst 3, 1) := by decide +kernel
theorem dX4_hurtOn_19 : decode cX4_hurtOn 19 = .ok (.invokevirtual 49, 3) := by decide +kernel
theorem dX4_hurtOn_22 : decode cX4_hurtOn 22 = .ok (.istore_n 3, 1) := by decide +kernel
theorem dX4_hurtOn_23 : decode cX4_hurtOn 23 = .ok (.aload_n 0, 1) := by decide +kernel
theorem dX4_hurtOn_24 : decode cX4_hurtOn 24 = .ok (.invokevirtual 134, 3) := by decide +kernel
theorem dX4_hurtOn_27 : decode cX4_hurtOn 27 = .ok (.iload_n 3, 1) := by decide +kernel
theorem dX4_hurtOn_28 : decode cX4_hurtOn 28 = .ok (.ireturn, 1) := by decide +kernel
set_option maxRecDepth 20000 in
theorem ggX4_leastBy_X4_thinks : GoodIn wsX4_leastBy wsX4_thinks := goodIn_r _ [6, 1, 7, 8, 9, 5, 10, 72, 73, 74, 75, 76, 77, 78, 79, 80, 81, 82, 83, 84, 85, 86, 87] rfl (by decide +kernel)
set_option maxRecDepth 20000 in
theorem gX4_leastBy_X4_thinks : GoodIn wsX4_leastBy (wsV RX4 131 RX4 yX4_thinks wsX4_thinks) := goodIn_app (goodIn_of _ (by decide +kernel)) ggX4_leastBy_X4_thinks
set_option maxRecDepth 20000 in
theorem ggX4_leastBy_X4_hurtOn : GoodIn wsX4_leastBy wsX4_hurtOn := goodIn_r _ [14, 15, 16, 17, 5, 18, 19, 20, 21, 22, 23, 1, 24, 25, 26, 27, 28, 29, 30, 31, 32, 33, 34, 35, 36, 37, 38, 39, 40, 41, 42, 43, 44, 45, 46, 47, 48, 49, 50, 51, 52, 53, 54, 55, 56, 57, 58, 59, 60, 61, 62, 63, 64, 65, 66, 67, 68, 69, 70, 71, 7, 8, 9, 10, 72, 73, 74, 75, 76, 77, 78, 79, 80, 81, 82, 83, 84, 85, 86, 87] rfl (by decide +kernel)
set_option maxRecDepth 20000 in
theorem gX4_leastBy_X4_hurtOn : GoodIn wsX4_leastBy (wsV RX4 137 RX4 yX4_hurtOn wsX4_hurtOn) := goodIn_app (goodIn_of _ (by decide +kernel)) ggX4_leastBy_X4_hurtOn
theorem dX4_leastBy_0 : decode cX4_leastBy 0 = .ok (.aload_n 0, 1) := by decide +kernel
theorem dX4_leastBy_1 : decode cX4_leastBy 1 = .ok (.invokevirtual 131, 3) := by decide +kernel
theorem dX4_leastBy_4 : decode cX4_leastBy 4 = .ok (.iconst (-1), 1) := by decide +kernel
theorem dX4_leastBy_5 : decode cX4_leastBy 5 = .ok (.istore 5, 2) := by decide +kernel
theorem dX4_leastBy_7 : decode cX4_leastBy 7 = .ok (.iconst 0, 1) := by decide +kernel
theorem dX4_leastBy_8 : decode cX4_leastBy 8 = .ok (.istore 6, 2) := by decide +kernel
theorem dX4_leastBy_10 : decode cX4_leastBy 10 = .ok (.iconst 0, 1) := by decide +kernel
theorem dX4_leastBy_11 : decode cX4_leastBy 11 = .ok (.istore 7, 2) := by decide +kernel
theorem dX4_leastBy_13 : decode cX4_leastBy 13 = .ok (.iload 7, 2) := by decide +kernel
theorem dX4_leastBy_15 : decode cX4_leastBy 15 = .ok (.iload_n 2, 1) := by decide +kernel
theorem dX4_leastBy_16 : decode cX4_leastBy 16 = .ok (.if_icmp .ge 73, 3) := by decide +kernel
theorem dX4_leastBy_19 : decode cX4_leastBy 19 = .ok (.aload_n 0, 1) := by decide +kernel
theorem dX4_leastBy_20 : decode cX4_leastBy 20 = .ok (.getfield 9, 3) := by decide +kernel
theorem dX4_leastBy_23 : decode cX4_leastBy 23 = .ok (.iload_n 1, 1) := by decide +kernel
theorem dX4_leastBy_24 : decode cX4_leastBy 24 = .ok (.iload 7, 2) := by decide +kernel
theorem dX4_leastBy_26 : decode cX4_leastBy 26 = .ok (.iastore, 1) := by decide +kernel
theorem dX4_leastBy_27 : decode cX4_leastBy 27 = .ok (.aload_n 0, 1) := by decide +kernel
theorem dX4_leastBy_28 : decode cX4_leastBy 28 = .ok (.iload_n 3, 1) := by decide +kernel
theorem dX4_leastBy_29 : decode cX4_leastBy 29 = .ok (.iload 4, 2) := by decide +kernel
theorem dX4_leastBy_31 : decode cX4_leastBy 31 = .ok (.invokevirtual 137, 3) := by decide +kernel
theorem dX4_leastBy_34 : decode cX4_leastBy 34 = .ok (.istore 8, 2) := by decide +kernel
theorem dX4_leastBy_36 : decode cX4_leastBy 36 = .ok (.iload 5, 2) := by decide +kernel
theorem dX4_leastBy_38 : decode cX4_leastBy 38 = .ok (.ifCond .lt 10, 3) := by decide +kernel
theorem dX4_leastBy_41 : decode cX4_leastBy 41 = .ok (.iload 8, 2) := by decide +kernel
theorem dX4_leastBy_43 : decode cX4_leastBy 43 = .ok (.iload 6, 2) := by decide +kernel
theorem dX4_leastBy_45 : decode cX4_leastBy 45 = .ok (.if_icmp .ge 7, 3) := by decide +kernel
theorem dX4_leastBy_48 : decode cX4_leastBy 48 = .ok (.iconst 1, 1) := by decide +kernel
theorem dX4_leastBy_49 : decode cX4_leastBy 49 = .ok (.goto 4, 3) := by decide +kernel
theorem dX4_leastBy_52 : decode cX4_leastBy 52 = .ok (.iconst 0, 1) := by decide +kernel
theorem dX4_leastBy_53 : decode cX4_leastBy 53 = .ok (.istore 9, 2) := by decide +kernel
theorem dX4_leastBy_55 : decode cX4_leastBy 55 = .ok (.iload 9, 2) := by decide +kernel
theorem dX4_leastBy_57 : decode cX4_leastBy 57 = .ok (.ifCond .eq 8, 3) := by decide +kernel
theorem dX4_leastBy_60 : decode cX4_leastBy 60 = .ok (.iload 7, 2) := by decide +kernel
theorem dX4_leastBy_62 : decode cX4_leastBy 62 = .ok (.goto 5, 3) := by decide +kernel
theorem dX4_leastBy_65 : decode cX4_leastBy 65 = .ok (.iload 5, 2) := by decide +kernel
theorem dX4_leastBy_67 : decode cX4_leastBy 67 = .ok (.istore 5, 2) := by decide +kernel
theorem dX4_leastBy_69 : decode cX4_leastBy 69 = .ok (.iload 9, 2) := by decide +kernel
theorem dX4_leastBy_71 : decode cX4_leastBy 71 = .ok (.ifCond .eq 8, 3) := by decide +kernel
theorem dX4_leastBy_74 : decode cX4_leastBy 74 = .ok (.iload 8, 2) := by decide +kernel
theorem dX4_leastBy_76 : decode cX4_leastBy 76 = .ok (.goto 5, 3) := by decide +kernel
theorem dX4_leastBy_79 : decode cX4_leastBy 79 = .ok (.iload 6, 2) := by decide +kernel
theorem dX4_leastBy_81 : decode cX4_leastBy 81 = .ok (.istore 6, 2) := by decide +kernel
theorem dX4_leastBy_83 : decode cX4_leastBy 83 = .ok (.iinc 7 1, 3) := by decide +kernel
theorem dX4_leastBy_86 : decode cX4_leastBy 86 = .ok (.goto (-73), 3) := by decide +kernel
theorem dX4_leastBy_89 : decode cX4_leastBy 89 = .ok (.iload 5, 2) := by decide +kernel
theorem dX4_leastBy_91 : decode cX4_leastBy 91 = .ok (.ireturn, 1) := by decide +kernel
set_option maxRecDepth 20000 in
theorem ggX4_tongue_X4_isSpeech : GoodIn wsX4_tongue wsX4_isSpeech := goodIn_r _ [6, 7, 8, 9, 5, 10, 89, 90, 91, 92, 93, 94, 95, 96, 97, 98, 99, 100, 101, 102, 103, 104] rfl (by decide +kernel)
set_option maxRecDepth 20000 in
theorem gX4_tongue_X4_isSpeech : GoodIn wsX4_tongue (wsV RX4 96 RX4 yX4_isSpeech wsX4_isSpeech) := goodIn_app (goodIn_of _ (by decide +kernel)) ggX4_tongue_X4_isSpeech
set_option maxRecDepth 20000 in
theorem ggX4_tongue_X4_in : GoodIn wsX4_tongue wsX4_in := goodIn_r _ [10] rfl (by decide +kernel)
set_option maxRecDepth 20000 in
theorem gX4_tongue_X4_in : GoodIn wsX4_tongue (va_wsS RX4 41 yX4_in wsX4_in) := goodIn_app (goodIn_of _ (by decide +kernel)) ggX4_tongue_X4_in
set_option maxRecDepth 20000 in
theorem ggX4_tongue_X4_leastBy : GoodIn wsX4_tongue wsX4_leastBy := goodIn_r _ [14, 7, 15, 16, 17, 5, 18, 19, 20, 21, 22, 23, 24, 25, 26, 27, 28, 29, 30, 31, 32, 33, 34, 35, 36, 37, 38, 39, 40, 41, 42, 43, 44, 45, 46, 47, 48, 49, 50, 51, 52, 53, 54, 55, 56, 57, 58, 59, 60, 61, 62, 63, 64, 65, 66, 67, 68, 69, 70, 71, 72, 73, 74, 75, 76, 77, 78, 79, 80, 81, 82, 83, 89, 90, 91, 92, 93, 94, 95, 96, 97, 98, 99, 100, 101, 102, 103, 104] rfl (by decide +kernel)
set_option maxRecDepth 20000 in
theorem gX4_tongue_X4_leastBy : GoodIn wsX4_tongue (wsV RX4 140 RX4 yX4_leastBy wsX4_leastBy) := goodIn_app (goodIn_of _ (by decide +kernel)) ggX4_tongue_X4_leastBy
set_option maxRecDepth 20000 in
theorem ggX4_tongue_X4_finds : GoodIn wsX4_tongue wsX4_finds := goodIn_r _ [87, 88, 1, 89, 90, 91, 92, 93, 94, 95, 96, 97, 98, 99, 100, 101, 102, 103, 104] rfl (by decide +kernel)
set_option maxRecDepth 20000 in
theorem gX4_tongue_X4_finds : GoodIn wsX4_tongue (wsV RX4 37 RX4 yX4_finds wsX4_finds) := goodIn_app (goodIn_of _ (by decide +kernel)) ggX4_tongue_X4_finds
theorem dX4_tongue_0 : decode cX4_tongue 0 = .ok (.aload_n 0, 1) := by decide +kernel
theorem dX4_tongue_1 : decode cX4_tongue 1 = .ok (.iload_n 1, 1) := by decide +kernel
theorem dX4_tongue_2 : decode cX4_tongue 2 = .ok (.invokevirtual 96, 3) := by decide +kernel
theorem dX4_tongue_5 : decode cX4_tongue 5 = .ok (.ifCond .eq 32, 3) := by decide +kernel
theorem dX4_tongue_8 : decode cX4_tongue 8 = .ok (.iload_n 2, 1) := by decide +kernel
theorem dX4_tongue_9 : decode cX4_tongue 9 = .ok (.i2l, 1) := by decide +kernel
theorem dX4_tongue_10 : decode cX4_tongue 10 = .ok (.iconst 1, 1) := by decide +kernel
theorem dX4_tongue_11 : decode cX4_tongue 11 = .ok (.bipush 60, 2) := by decide +kernel
theorem dX4_tongue_13 : decode cX4_tongue 13 = .ok (.invokestatic 41, 3) := by decide +kernel
theorem dX4_tongue_16 : decode cX4_tongue 16 = .ok (.ifCond .eq 21, 3) := by decide +kernel
theorem dX4_tongue_19 : decode cX4_tongue 19 = .ok (.aload_n 0, 1) := by decide +kernel
theorem dX4_tongue_20 : decode cX4_tongue 20 = .ok (.bipush 43, 2) := by decide +kernel
theorem dX4_tongue_22 : decode cX4_tongue 22 = .ok (.iconst 4, 1) := by decide +kernel
theorem dX4_tongue_23 : decode cX4_tongue 23 = .ok (.iload_n 1, 1) := by decide +kernel
theorem dX4_tongue_24 : decode cX4_tongue 24 = .ok (.imul, 1) := by decide +kernel
theorem dX4_tongue_25 : decode cX4_tongue 25 = .ok (.iadd, 1) := by decide +kernel
theorem dX4_tongue_26 : decode cX4_tongue 26 = .ok (.iconst 1, 1) := by decide +kernel
theorem dX4_tongue_27 : decode cX4_tongue 27 = .ok (.iadd, 1) := by decide +kernel
theorem dX4_tongue_28 : decode cX4_tongue 28 = .ok (.iconst 4, 1) := by decide +kernel
theorem dX4_tongue_29 : decode cX4_tongue 29 = .ok (.iconst (-1), 1) := by decide +kernel
theorem dX4_tongue_30 : decode cX4_tongue 30 = .ok (.iload_n 2, 1) := by decide +kernel
theorem dX4_tongue_31 : decode cX4_tongue 31 = .ok (.invokevirtual 140, 3) := by decide +kernel
theorem dX4_tongue_34 : decode cX4_tongue 34 = .ok (.goto 9, 3) := by decide +kernel
theorem dX4_tongue_37 : decode cX4_tongue 37 = .ok (.aload_n 0, 1) := by decide +kernel
theorem dX4_tongue_38 : decode cX4_tongue 38 = .ok (.ldc 35, 2) := by decide +kernel
theorem dX4_tongue_40 : decode cX4_tongue 40 = .ok (.invokevirtual 37, 3) := by decide +kernel
theorem dX4_tongue_43 : decode cX4_tongue 43 = .ok (.ireturn, 1) := by decide +kernel
set_option maxRecDepth 20000 in
theorem ggX4_aim_X4_isSpeech : GoodIn wsX4_aim wsX4_isSpeech := goodIn_r _ [7, 2, 8, 9, 6, 10, 89, 90, 91, 92, 93, 94, 95, 96, 97, 98, 99, 100, 101, 102, 103, 104] rfl (by decide +kernel)
set_option maxRecDepth 20000 in
theorem gX4_aim_X4_isSpeech : GoodIn wsX4_aim (wsV RX4 96 RX4 yX4_isSpeech wsX4_isSpeech) := goodIn_app (goodIn_of _ (by decide +kernel)) ggX4_aim_X4_isSpeech
set_option maxRecDepth 20000 in
theorem ggX4_aim_X4_isThere : GoodIn wsX4_aim wsX4_isThere := goodIn_r _ [14, 2, 8, 9, 6, 10, 89, 90, 91, 92, 93, 94, 95, 96, 97, 98, 99, 100, 101, 102, 103, 104] rfl (by decide +kernel)
set_option maxRecDepth 20000 in
theorem gX4_aim_X4_isThere : GoodIn wsX4_aim (wsV RX4 73 RX4 yX4_isThere wsX4_isThere) := goodIn_app (goodIn_of _ (by decide +kernel)) ggX4_aim_X4_isThere
set_option maxRecDepth 20000 in
theorem ggX4_aim_X4_in : GoodIn wsX4_aim wsX4_in := goodIn_r _ [10] rfl (by decide +kernel)
set_option maxRecDepth 20000 in
theorem gX4_aim_X4_in : GoodIn wsX4_aim (va_wsS RX4 41 yX4_in wsX4_in) := goodIn_app (goodIn_of _ (by decide +kernel)) ggX4_aim_X4_in
set_option maxRecDepth 20000 in
theorem ggX4_aim_X4_finds : GoodIn wsX4_aim wsX4_finds := goodIn_r _ [18, 19, 1, 89, 90, 91, 92, 93, 94, 95, 96, 97, 98, 99, 100, 101, 102, 103, 104] rfl (by decide +kernel)
set_option maxRecDepth 20000 in
theorem gX4_aim_X4_finds : GoodIn wsX4_aim (wsV RX4 37 RX4 yX4_finds wsX4_finds) := goodIn_app (goodIn_of _ (by decide +kernel)) ggX4_aim_X4_finds
set_option maxRecDepth 20000 in
theorem ggX4_aim_X4_thinks : GoodIn wsX4_aim wsX4_thinks := goodIn_r _ [23, 2, 24, 25, 26, 6, 27, 89, 90, 91, 92, 93, 94, 95, 96, 97, 98, 99, 100, 101, 102, 103, 104] rfl (by decide +kernel)
set_option maxRecDepth 20000 in
theorem gX4_aim_X4_thinks : GoodIn wsX4_aim (wsV RX4 131 RX4 yX4_thinks wsX4_thinks) := goodIn_app (goodIn_of _ (by decide +kernel)) ggX4_aim_X4_thinks
set_option maxRecDepth 20000 in
theorem ggX4_aim_X4_hurtOn : GoodIn wsX4_aim wsX4_hurtOn := goodIn_r _ [31, 32, 33, 34, 6, 35, 36, 37, 38, 39, 40, 2, 41, 42, 43, 44, 45, 46, 47, 48, 49, 50, 51, 52, 53, 54, 55, 56, 57, 58, 59, 60, 61, 62, 63, 64, 65, 66, 67, 68, 69, 70, 71, 72, 73, 74, 75, 76, 77, 78, 79, 80, 81, 82, 83, 84, 85, 86, 87, 88, 24, 25, 26, 27, 89, 90, 91, 92, 93, 94, 95, 96, 97, 98, 99, 100, 101, 102, 103, 104] rfl (by decide +kernel)
set_option maxRecDepth 20000 in
theorem gX4_aim_X4_hurtOn : GoodIn wsX4_aim (wsV RX4 137 RX4 yX4_hurtOn wsX4_hurtOn) := goodIn_app (goodIn_of _ (by decide +kernel)) ggX4_aim_X4_hurtOn
theorem dX4_aim_0 : decode cX4_aim 0 = .ok (.aload_n 0, 1) := by decide +kernel
theorem dX4_aim_1 : decode cX4_aim 1 = .ok (.iload_n 1, 1) := by decide +kernel
theorem dX4_aim_2 : decode cX4_aim 2 = .ok (.invokevirtual 96, 3) := by decide +kernel
theorem dX4_aim_5 : decode cX4_aim 5 = .ok (.ifCond .eq 22, 3) := by decide +kernel
theorem dX4_aim_8 : decode cX4_aim 8 = .ok (.aload_n 0, 1) := by decide +kernel
theorem dX4_aim_9 : decode cX4_aim 9 = .ok (.iload_n 2, 1) := by decide +kernel
theorem dX4_aim_10 : decode cX4_aim 10 = .ok (.invokevirtual 73, 3) := by decide +kernel
theorem dX4_aim_13 : decode cX4_aim 13 = .ok (.ifCond .eq 14, 3) := by decide +kernel
theorem dX4_aim_16 : decode cX4_aim 16 = .ok (.iload_n 3, 1) := by decide +kernel
theorem dX4_aim_17 : decode cX4_aim 17 = .ok (.i2l, 1) := by decide +kernel
theorem dX4_aim_18 : decode cX4_aim 18 = .ok (.iconst 1, 1) := by decide +kernel
theorem dX4_aim_19 : decode cX4_aim 19 = .ok (.bipush 60, 2) := by decide +kernel
theorem dX4_aim_21 : decode cX4_aim 21 = .ok (.invokestatic 41, 3) := by decide +kernel
theorem dX4_aim_24 : decode cX4_aim 24 = .ok (.ifCond .ne 10, 3) := by decide +kernel
theorem dX4_aim_27 : decode cX4_aim 27 = .ok (.aload_n 0, 1) := by decide +kernel
theorem dX4_aim_28 : decode cX4_aim 28 = .ok (.ldc 35, 2) := by decide +kernel
theorem dX4_aim_30 : decode cX4_aim 30 = .ok (.invokevirtual 37, 3) := by decide +kernel
theorem dX4_aim_33 : decode cX4_aim 33 = .ok (.ireturn, 1) := by decide +kernel
theorem dX4_aim_34 : decode cX4_aim 34 = .ok (.aload_n 0, 1) := by decide +kernel
theorem dX4_aim_35 : decode cX4_aim 35 = .ok (.invokevirtual 131, 3) := by decide +kernel
theorem dX4_aim_38 : decode cX4_aim 38 = .ok (.iconst 0, 1) := by decide +kernel
theorem dX4_aim_39 : decode cX4_aim 39 = .ok (.istore 4, 2) := by decide +kernel
theorem dX4_aim_41 : decode cX4_aim 41 = .ok (.iconst (-1), 1) := by decide +kernel
theorem dX4_aim_42 : decode cX4_aim 42 = .ok (.istore 5, 2) := by decide +kernel
theorem dX4_aim_44 : decode cX4_aim 44 = .ok (.iconst (-1), 1) := by decide +kernel
theorem dX4_aim_45 : decode cX4_aim 45 = .ok (.istore 6, 2) := by decide +kernel
theorem dX4_aim_47 : decode cX4_aim 47 = .ok (.iload 6, 2) := by decide +kernel
theorem dX4_aim_49 : decode cX4_aim 49 = .ok (.aload_n 0, 1) := by decide +kernel
theorem dX4_aim_50 : decode cX4_aim 50 = .ok (.getfield 9, 3) := by decide +kernel
theorem dX4_aim_53 : decode cX4_aim 53 = .ok (.iconst 1, 1) := by decide +kernel
theorem dX4_aim_54 : decode cX4_aim 54 = .ok (.iaload, 1) := by decide +kernel
theorem dX4_aim_55 : decode cX4_aim 55 = .ok (.if_icmp .ge 66, 3) := by decide +kernel
theorem dX4_aim_58 : decode cX4_aim 58 = .ok (.aload_n 0, 1) := by decide +kernel
theorem dX4_aim_59 : decode cX4_aim 59 = .ok (.getfield 9, 3) := by decide +kernel
theorem dX4_aim_62 : decode cX4_aim 62 = .ok (.bipush 43, 2) := by decide +kernel
theorem dX4_aim_64 : decode cX4_aim 64 = .ok (.iconst 4, 1) := by decide +kernel
theorem dX4_aim_65 : decode cX4_aim 65 = .ok (.iload_n 1, 1) := by decide +kernel
theorem dX4_aim_66 : decode cX4_aim 66 = .ok (.imul, 1) := by decide +kernel
theorem dX4_aim_67 : decode cX4_aim 67 = .ok (.iadd, 1) := by decide +kernel
theorem dX4_aim_68 : decode cX4_aim 68 = .ok (.iconst 2, 1) := by decide +kernel
theorem dX4_aim_69 : decode cX4_aim 69 = .ok (.iadd, 1) := by decide +kernel
theorem dX4_aim_70 : decode cX4_aim 70 = .ok (.iload 6, 2) := by decide +kernel
theorem dX4_aim_72 : decode cX4_aim 72 = .ok (.iastore, 1) := by decide +kernel
theorem dX4_aim_73 : decode cX4_aim 73 = .ok (.aload_n 0, 1) := by decide +kernel
theorem dX4_aim_74 : decode cX4_aim 74 = .ok (.iload_n 2, 1) := by decide +kernel
theorem dX4_aim_75 : decode cX4_aim 75 = .ok (.iload_n 3, 1) := by decide +kernel
theorem dX4_aim_76 : decode cX4_aim 76 = .ok (.invokevirtual 137, 3) := by decide +kernel
theorem dX4_aim_79 : decode cX4_aim 79 = .ok (.istore 7, 2) := by decide +kernel
theorem dX4_aim_81 : decode cX4_aim 81 = .ok (.iload 7, 2) := by decide +kernel
theorem dX4_aim_83 : decode cX4_aim 83 = .ok (.iload 5, 2) := by decide +kernel
theorem dX4_aim_85 : decode cX4_aim 85 = .ok (.if_icmp .le 10, 3) := by decide +kernel
theorem dX4_aim_88 : decode cX4_aim 88 = .ok (.iload 6, 2) := by decide +kernel
theorem dX4_aim_90 : decode cX4_aim 90 = .ok (.iconst 1, 1) := by decide +kernel
theorem dX4_aim_91 : decode cX4_aim 91 = .ok (.iadd, 1) := by decide +kernel
theorem dX4_aim_92 : decode cX4_aim 92 = .ok (.goto 5, 3) := by decide +kernel
theorem dX4_aim_95 : decode cX4_aim 95 = .ok (.iload 4, 2) := by decide +kernel
theorem dX4_aim_97 : decode cX4_aim 97 = .ok (.istore 4, 2) := by decide +kernel
theorem dX4_aim_99 : decode cX4_aim 99 = .ok (.iload 7, 2) := by decide +kernel
theorem dX4_aim_101 : decode cX4_aim 101 = .ok (.iload 5, 2) := by decide +kernel
theorem dX4_aim_103 : decode cX4_aim 103 = .ok (.if_icmp .le 8, 3) := by decide +kernel
theorem dX4_aim_106 : decode cX4_aim 106 = .ok (.iload 7, 2) := by decide +kernel
theorem dX4_aim_108 : decode cX4_aim 108 = .ok (.goto 5, 3) := by decide +kernel
theorem dX4_aim_111 : decode cX4_aim 111 = .ok (.iload 5, 2) := by decide +kernel
theorem dX4_aim_113 : decode cX4_aim 113 = .ok (.istore 5, 2) := by decide +kernel
theorem dX4_aim_115 : decode cX4_aim 115 = .ok (.iinc 6 1, 3) := by decide +kernel
theorem dX4_aim_118 : decode cX4_aim 118 = .ok (.goto (-71), 3) := by decide +kernel
theorem dX4_aim_121 : decode cX4_aim 121 = .ok (.iload 4, 2) := by decide +kernel
theorem dX4_aim_123 : decode cX4_aim 123 = .ok (.ireturn, 1) := by decide +kernel
set_option maxRecDepth 20000 in
theorem ggX4_kind_X4_isThere : GoodIn wsX4_kind wsX4_isThere := goodIn_r _ [6, 7, 8, 9, 5, 10, 89, 90, 91, 92, 93, 94, 95, 96, 97, 98, 99, 100, 101, 102, 103, 104] rfl (by decide +kernel)
set_option maxRecDepth 20000 in
theorem gX4_kind_X4_isThere : GoodIn wsX4_kind (wsV RX4 73 RX4 yX4_isThere wsX4_isThere) := goodIn_app (goodIn_of _ (by decide +kernel)) ggX4_kind_X4_isThere
set_option maxRecDepth 20000 in
theorem ggX4_kind_X4_in : GoodIn wsX4_kind wsX4_in := goodIn_r _ [10] rfl (by decide +kernel)
set_option maxRecDepth 20000 in
theorem gX4_kind_X4_in : GoodIn wsX4_kind (va_wsS RX4 41 yX4_in wsX4_in) := goodIn_app (goodIn_of _ (by decide +kernel)) ggX4_kind_X4_in
set_option maxRecDepth 20000 in
theorem ggX4_kind_X4_leastBy : GoodIn wsX4_kind wsX4_leastBy := goodIn_r _ [14, 7, 15, 16, 17, 5, 18, 19, 20, 21, 22, 23, 24, 25, 26, 27, 28, 29, 30, 31, 32, 33, 34, 35, 36, 37, 38, 39, 40, 41, 42, 43, 44, 45, 46, 47, 48, 49, 50, 51, 52, 53, 54, 55, 56, 57, 58, 59, 60, 61, 62, 63, 64, 65, 66, 67, 68, 69, 70, 71, 72, 73, 74, 75, 76, 77, 78, 79, 80, 81, 82, 83, 89, 90, 91, 92, 93, 94, 95, 96, 97, 98, 99, 100, 101, 102, 103, 104] rfl (by decide +kernel)
set_option maxRecDepth 20000 in
theorem gX4_kind_X4_leastBy : GoodIn wsX4_kind (wsV RX4 140 RX4 yX4_leastBy wsX4_leastBy) := goodIn_app (goodIn_of _ (by decide +kernel)) ggX4_kind_X4_leastBy
set_option maxRecDepth 20000 in
theorem ggX4_kind_X4_finds : GoodIn wsX4_kind wsX4_finds := goodIn_r _ [87, 88, 1, 89, 90, 91, 92, 93, 94, 95, 96, 97, 98, 99, 100, 101, 102, 103, 104] rfl (by decide +kernel)
set_option maxRecDepth 20000 in
theorem gX4_kind_X4_finds : GoodIn wsX4_kind (wsV RX4 37 RX4 yX4_finds wsX4_finds) := goodIn_app (goodIn_of _ (by decide +kernel)) ggX4_kind_X4_finds
theorem dX4_kind_0 : decode cX4_kind 0 = .ok (.aload_n 0, 1) := by decide +kernel
theorem dX4_kind_1 : decode cX4_kind 1 = .ok (.iload_n 1, 1) := by decide +kernel
theorem dX4_kind_2 : decode cX4_kind 2 = .ok (.invokevirtual 73, 3) := by decide +kernel
theorem dX4_kind_5 : decode cX4_kind 5 = .ok (.ifCond .eq 30, 3) := by decide +kernel
theorem dX4_kind_8 : decode cX4_kind 8 = .ok (.iload_n 2, 1) := by decide +kernel
theorem dX4_kind_9 : decode cX4_kind 9 = .ok (.i2l, 1) := by decide +kernel
theorem dX4_kind_10 : decode cX4_kind 10 = .ok (.iconst 1, 1) := by decide +kernel
theorem dX4_kind_11 : decode cX4_kind 11 = .ok (.bipush 60, 2) := by decide +kernel
theorem dX4_kind_13 : decode cX4_kind 13 = .ok (.invokestatic 41, 3) := by decide +kernel
theorem dX4_kind_16 : decode cX4_kind 16 = .ok (.ifCond .eq 19, 3) := by decide +kernel
theorem dX4_kind_19 : decode cX4_kind 19 = .ok (.aload_n 0, 1) := by decide +kernel
theorem dX4_kind_20 : decode cX4_kind 20 = .ok (.iconst 3, 1) := by decide +kernel
theorem dX4_kind_21 : decode cX4_kind 21 = .ok (.iconst 5, 1) := by decide +kernel
theorem dX4_kind_22 : decode cX4_kind 22 = .ok (.iload_n 1, 1) := by decide +kernel
theorem dX4_kind_23 : decode cX4_kind 23 = .ok (.imul, 1) := by decide +kernel
theorem dX4_kind_24 : decode cX4_kind 24 = .ok (.iadd, 1) := by decide +kernel
theorem dX4_kind_25 : decode cX4_kind 25 = .ok (.bipush 6, 2) := by decide +kernel
theorem dX4_kind_27 : decode cX4_kind 27 = .ok (.iload_n 1, 1) := by decide +kernel
theorem dX4_kind_28 : decode cX4_kind 28 = .ok (.iload_n 2, 1) := by decide +kernel
theorem dX4_kind_29 : decode cX4_kind 29 = .ok (.invokevirtual 140, 3) := by decide +kernel
theorem dX4_kind_32 : decode cX4_kind 32 = .ok (.goto 9, 3) := by decide +kernel
theorem dX4_kind_35 : decode cX4_kind 35 = .ok (.aload_n 0, 1) := by decide +kernel
theorem dX4_kind_36 : decode cX4_kind 36 = .ok (.ldc 35, 2) := by decide +kernel
theorem dX4_kind_38 : decode cX4_kind 38 = .ok (.invokevirtual 37, 3) := by decide +kernel
theorem dX4_kind_41 : decode cX4_kind 41 = .ok (.ireturn, 1) := by decide +kernel
set_option maxRecDepth 20000 in
theorem ggX4_pride_X4_isThere : GoodIn wsX4_pride wsX4_isThere := goodIn_r _ [7, 8, 9, 10, 6, 11, 90, 91, 92, 93, 94, 95, 96, 97, 98, 99, 100, 101, 102, 103, 104, 105] rfl (by decide +kernel)
set_option maxRecDepth 20000 in
theorem gX4_pride_X4_isThere : GoodIn wsX4_pride (wsV RX4 73 RX4 yX4_isThere wsX4_isThere) := goodIn_app (goodIn_of _ (by decide +kernel)) ggX4_pride_X4_isThere
set_option maxRecDepth 20000 in
theorem ggX4_pride_X4_in : GoodIn wsX4_pride wsX4_in := goodIn_r _ [11] rfl (by decide +kernel)
set_option maxRecDepth 20000 in
theorem gX4_pride_X4_in : GoodIn wsX4_pride (va_wsS RX4 41 yX4_in wsX4_in) := goodIn_app (goodIn_of _ (by decide +kernel)) ggX4_pride_X4_in
set_option maxRecDepth 20000 in
theorem ggX4_pride_X4_finds : GoodIn wsX4_pride wsX4_finds := goodIn_r _ [15, 16, 2, 90, 91, 92, 93, 94, 95, 96, 97, 98, 99, 100, 101, 102, 103, 104, 105] rfl (by decide +kernel)
set_option maxRecDepth 20000 in
theorem gX4_pride_X4_finds : GoodIn wsX4_pride (wsV RX4 37 RX4 yX4_finds wsX4_finds) := goodIn_app (goodIn_of _ (by decide +kernel)) ggX4_pride_X4_finds
set_option maxRecDepth 20000 in
theorem ggX4_pride_X4_thinks : GoodIn wsX4_pride wsX4_thinks := goodIn_r _ [20, 8, 21, 22, 23, 6, 24, 90, 91, 92, 93, 94, 95, 96, 97, 98, 99, 100, 101, 102, 103, 104, 105] rfl (by decide +kernel)
set_option maxRecDepth 20000 in
theorem gX4_pride_X4_thinks : GoodIn wsX4_pride (wsV RX4 131 RX4 yX4_thinks wsX4_thinks) := goodIn_app (goodIn_of _ (by decide +kernel)) ggX4_pride_X4_thinks
set_option maxRecDepth 20000 in
theorem ggX4_pride_X4_put : GoodIn wsX4_pride wsX4_put := goodIn_r _ [28, 8, 90, 91, 92, 93, 94, 95, 96, 97, 98, 99, 100, 101, 102, 103, 104, 105] rfl (by decide +kernel)
set_option maxRecDepth 20000 in
theorem gX4_pride_X4_put : GoodIn wsX4_pride (wsV RX4 65 RX4 yX4_put wsX4_put) := goodIn_app (goodIn_of _ (by decide +kernel)) ggX4_pride_X4_put
set_option maxRecDepth 20000 in
theorem ggX4_pride_X4_hurtOn : GoodIn wsX4_pride wsX4_hurtOn := goodIn_r _ [32, 33, 34, 35, 6, 36, 37, 38, 39, 40, 41, 8, 42, 43, 44, 45, 1, 46, 47, 48, 49, 50, 51, 52, 53, 54, 55, 56, 57, 58, 59, 60, 61, 62, 63, 64, 65, 66, 67, 68, 69, 70, 71, 72, 25, 26, 27, 28, 73, 74, 75, 76, 77, 78, 79, 80, 81, 82, 83, 84, 21, 22, 23, 24, 90, 91, 92, 93, 94, 95, 96, 97, 98, 99, 100, 101, 102, 103, 104, 105] rfl (by decide +kernel)
set_option maxRecDepth 20000 in
theorem gX4_pride_X4_hurtOn : GoodIn wsX4_pride (wsV RX4 137 RX4 yX4_hurtOn wsX4_hurtOn) := goodIn_app (goodIn_of _ (by decide +kernel)) ggX4_pride_X4_hurtOn
set_option maxRecDepth 20000 in
theorem ggX4_pride_X4_orNone : GoodIn wsX4_pride wsX4_orNone := goodIn_r _ [88, 89, 12, 13, 14, 6, 15, 16, 2, 90, 91, 92, 93, 94, 95, 96, 97, 98, 99, 100, 101, 102, 103, 104, 105] rfl (by decide +kernel)
set_option maxRecDepth 20000 in
theorem gX4_pride_X4_orNone : GoodIn wsX4_pride (wsV RX4 143 RX4 yX4_orNone wsX4_orNone) := goodIn_app (goodIn_of _ (by decide +kernel)) ggX4_pride_X4_orNone
theorem dX4_pride_0 : decode cX4_pride 0 = .ok (.aload_n 0, 1) := by decide +kernel
theorem dX4_pride_1 : decode cX4_pride 1 = .ok (.iload_n 1, 1) := by decide +kernel
theorem dX4_pride_2 : decode cX4_pride 2 = .ok (.invokevirtual 73, 3) := by decide +kernel
theorem dX4_pride_5 : decode cX4_pride 5 = .ok (.ifCond .eq 25, 3) := by decide +kernel
theorem dX4_pride_8 : decode cX4_pride 8 = .ok (.iload_n 2, 1) := by decide +kernel
theorem dX4_pride_9 : decode cX4_pride 9 = .ok (.i2l, 1) := by decide +kernel
theorem dX4_pride_10 : decode cX4_pride 10 = .ok (.iconst 1, 1) := by decide +kernel
theorem dX4_pride_11 : decode cX4_pride 11 = .ok (.bipush 60, 2) := by decide +kernel
theorem dX4_pride_13 : decode cX4_pride 13 = .ok (.invokestatic 41, 3) := by decide +kernel
theorem dX4_pride_16 : decode cX4_pride 16 = .ok (.ifCond .eq 14, 3) := by decide +kernel
theorem dX4_pride_19 : decode cX4_pride 19 = .ok (.iload_n 3, 1) := by decide +kernel
theorem dX4_pride_20 : decode cX4_pride 20 = .ok (.i2l, 1) := by decide +kernel
theorem dX4_pride_21 : decode cX4_pride 21 = .ok (.iconst 0, 1) := by decide +kernel
theorem dX4_pride_22 : decode cX4_pride 22 = .ok (.ldc 80, 2) := by decide +kernel
theorem dX4_pride_24 : decode cX4_pride 24 = .ok (.invokestatic 41, 3) := by decide +kernel
theorem dX4_pride_27 : decode cX4_pride 27 = .ok (.ifCond .ne 10, 3) := by decide +kernel
theorem dX4_pride_30 : decode cX4_pride 30 = .ok (.aload_n 0, 1) := by decide +kernel
theorem dX4_pride_31 : decode cX4_pride 31 = .ok (.ldc 35, 2) := by decide +kernel
theorem dX4_pride_33 : decode cX4_pride 33 = .ok (.invokevirtual 37, 3) := by decide +kernel
theorem dX4_pride_36 : decode cX4_pride 36 = .ok (.ireturn, 1) := by decide +kernel
theorem dX4_pride_37 : decode cX4_pride 37 = .ok (.aload_n 0, 1) := by decide +kernel
theorem dX4_pride_38 : decode cX4_pride 38 = .ok (.invokevirtual 131, 3) := by decide +kernel
theorem dX4_pride_41 : decode cX4_pride 41 = .ok (.iconst (-1), 1) := by decide +kernel
theorem dX4_pride_42 : decode cX4_pride 42 = .ok (.istore 4, 2) := by decide +kernel
theorem dX4_pride_44 : decode cX4_pride 44 = .ok (.iconst 0, 1) := by decide +kernel
theorem dX4_pride_45 : decode cX4_pride 45 = .ok (.istore 5, 2) := by decide +kernel
theorem dX4_pride_47 : decode cX4_pride 47 = .ok (.iload 5, 2) := by decide +kernel
theorem dX4_pride_49 : decode cX4_pride 49 = .ok (.bipush 20, 2) := by decide +kernel
theorem dX4_pride_51 : decode cX4_pride 51 = .ok (.if_icmp .gt 40, 3) := by decide +kernel
theorem dX4_pride_54 : decode cX4_pride 54 = .ok (.iload 4, 2) := by decide +kernel
theorem dX4_pride_56 : decode cX4_pride 56 = .ok (.ifCond .ge 35, 3) := by decide +kernel
theorem dX4_pride_59 : decode cX4_pride 59 = .ok (.aload_n 0, 1) := by decide +kernel
theorem dX4_pride_60 : decode cX4_pride 60 = .ok (.iload_n 1, 1) := by decide +kernel
theorem dX4_pride_61 : decode cX4_pride 61 = .ok (.iconst 1, 1) := by decide +kernel
theorem dX4_pride_62 : decode cX4_pride 62 = .ok (.iload 5, 2) := by decide +kernel
theorem dX4_pride_64 : decode cX4_pride 64 = .ok (.invokevirtual 65, 3) := by decide +kernel
theorem dX4_pride_67 : decode cX4_pride 67 = .ok (.aload_n 0, 1) := by decide +kernel
theorem dX4_pride_68 : decode cX4_pride 68 = .ok (.iconst (-1), 1) := by decide +kernel
theorem dX4_pride_69 : decode cX4_pride 69 = .ok (.iload_n 2, 1) := by decide +kernel
theorem dX4_pride_70 : decode cX4_pride 70 = .ok (.invokevirtual 137, 3) := by decide +kernel
theorem dX4_pride_73 : decode cX4_pride 73 = .ok (.iload_n 3, 1) := by decide +kernel
theorem dX4_pride_74 : decode cX4_pride 74 = .ok (.if_icmp .gt 8, 3) := by decide +kernel
theorem dX4_pride_77 : decode cX4_pride 77 = .ok (.iload 5, 2) := by decide +kernel
theorem dX4_pride_79 : decode cX4_pride 79 = .ok (.goto 4, 3) := by decide +kernel
theorem dX4_pride_82 : decode cX4_pride 82 = .ok (.iconst (-1), 1) := by decide +kernel
theorem dX4_pride_83 : decode cX4_pride 83 = .ok (.istore 4, 2) := by decide +kernel
theorem dX4_pride_85 : decode cX4_pride 85 = .ok (.iinc 5 1, 3) := by decide +kernel
theorem dX4_pride_88 : decode cX4_pride 88 = .ok (.goto (-41), 3) := by decide +kernel
theorem dX4_pride_91 : decode cX4_pride 91 = .ok (.aload_n 0, 1) := by decide +kernel
theorem dX4_pride_92 : decode cX4_pride 92 = .ok (.iload 4, 2) := by decide +kernel
theorem dX4_pride_94 : decode cX4_pride 94 = .ok (.invokevirtual 143, 3) := by decide +kernel
theorem dX4_pride_97 : decode cX4_pride 97 = .ok (.ireturn, 1) := by decide +kernel
set_option maxRecDepth 20000 in
theorem ggX4_learn_X4_isThere : GoodIn wsX4_learn wsX4_isThere := goodIn_r _ [6, 7, 8, 9, 5, 10, 89, 90, 91, 92, 93, 94, 95, 96, 97, 98, 99, 100, 101, 102, 103, 104] rfl (by decide +kernel)
set_option maxRecDepth 20000 in
theorem gX4_learn_X4_isThere : GoodIn wsX4_learn (wsV RX4 73 RX4 yX4_isThere wsX4_isThere) := goodIn_app (goodIn_of _ (by decide +kernel)) ggX4_learn_X4_isThere
set_option maxRecDepth 20000 in
theorem ggX4_learn_X4_in : GoodIn wsX4_learn wsX4_in := goodIn_r _ [10] rfl (by decide +kernel)
set_option maxRecDepth 20000 in
theorem gX4_learn_X4_in : GoodIn wsX4_learn (va_wsS RX4 41 yX4_in wsX4_in) := goodIn_app (goodIn_of _ (by decide +kernel)) ggX4_learn_X4_in
set_option maxRecDepth 20000 in
theorem ggX4_learn_X4_leastBy : GoodIn wsX4_learn wsX4_leastBy := goodIn_r _ [14, 7, 15, 16, 17, 5, 18, 19, 20, 21, 22, 23, 24, 25, 26, 27, 28, 29, 30, 31, 32, 33, 34, 35, 36, 37, 38, 39, 40, 41, 42, 43, 44, 45, 46, 47, 48, 49, 50, 51, 52, 53, 54, 55, 56, 57, 58, 59, 60, 61, 62, 63, 64, 65, 66, 67, 68, 69, 70, 71, 72, 73, 74, 75, 76, 77, 78, 79, 80, 81, 82, 83, 89, 90, 91, 92, 93, 94, 95, 96, 97, 98, 99, 100, 101, 102, 103, 104] rfl (by decide +kernel)
set_option maxRecDepth 20000 in
theorem gX4_learn_X4_leastBy : GoodIn wsX4_learn (wsV RX4 140 RX4 yX4_leastBy wsX4_leastBy) := goodIn_app (goodIn_of _ (by decide +kernel)) ggX4_learn_X4_leastBy
set_option maxRecDepth 20000 in
theorem ggX4_learn_X4_finds : GoodIn wsX4_learn wsX4_finds := goodIn_r _ [87, 88, 1, 89, 90, 91, 92, 93, 94, 95, 96, 97, 98, 99, 100, 101, 102, 103, 104] rfl (by decide +kernel)
set_option maxRecDepth 20000 in
theorem gX4_learn_X4_finds : GoodIn wsX4_learn (wsV RX4 37 RX4 yX4_finds wsX4_finds) := goodIn_app (goodIn_of _ (by decide +kernel)) ggX4_learn_X4_finds
theorem dX4_learn_0 : decode cX4_learn 0 = .ok (.aload_n 0, 1) := by decide +kernel
theorem dX4_learn_1 : decode cX4_learn 1 = .ok (.iload_n 1, 1) := by decide +kernel
theorem dX4_learn_2 : decode cX4_learn 2 = .ok (.invokevirtual 73, 3) := by decide +kernel
theorem dX4_learn_5 : decode cX4_learn 5 = .ok (.ifCond .eq 32, 3) := by decide +kernel
theorem dX4_learn_8 : decode cX4_learn 8 = .ok (.iload_n 2, 1) := by decide +kernel
theorem dX4_learn_9 : decode cX4_learn 9 = .ok (.i2l, 1) := by decide +kernel
theorem dX4_learn_10 : decode cX4_learn 10 = .ok (.iconst 1, 1) := by decide +kernel
theorem dX4_learn_11 : decode cX4_learn 11 = .ok (.bipush 60, 2) := by decide +kernel
theorem dX4_learn_13 : decode cX4_learn 13 = .ok (.invokestatic 41, 3) := by decide +kernel
theorem dX4_learn_16 : decode cX4_learn 16 = .ok (.ifCond .eq 21, 3) := by decide +kernel
theorem dX4_learn_19 : decode cX4_learn 19 = .ok (.aload_n 0, 1) := by decide +kernel
theorem dX4_learn_20 : decode cX4_learn 20 = .ok (.iconst 3, 1) := by decide +kernel
theorem dX4_learn_21 : decode cX4_learn 21 = .ok (.iconst 5, 1) := by decide +kernel
theorem dX4_learn_22 : decode cX4_learn 22 = .ok (.iload_n 1, 1) := by decide +kernel
theorem dX4_learn_23 : decode cX4_learn 23 = .ok (.imul, 1) := by decide +kernel
theorem dX4_learn_24 : decode cX4_learn 24 = .ok (.iadd, 1) := by decide +kernel
theorem dX4_learn_25 : decode cX4_learn 25 = .ok (.iconst 2, 1) := by decide +kernel
theorem dX4_learn_26 : decode cX4_learn 26 = .ok (.iadd, 1) := by decide +kernel
theorem dX4_learn_27 : decode cX4_learn 27 = .ok (.bipush 16, 2) := by decide +kernel
theorem dX4_learn_29 : decode cX4_learn 29 = .ok (.iload_n 1, 1) := by decide +kernel
theorem dX4_learn_30 : decode cX4_learn 30 = .ok (.iload_n 2, 1) := by decide +kernel
theorem dX4_learn_31 : decode cX4_learn 31 = .ok (.invokevirtual 140, 3) := by decide +kernel
theorem dX4_learn_34 : decode cX4_learn 34 = .ok (.goto 9, 3) := by decide +kernel
theorem dX4_learn_37 : decode cX4_learn 37 = .ok (.aload_n 0, 1) := by decide +kernel
theorem dX4_learn_38 : decode cX4_learn 38 = .ok (.ldc 35, 2) := by decide +kernel
theorem dX4_learn_40 : decode cX4_learn 40 = .ok (.invokevirtual 37, 3) := by decide +kernel
theorem dX4_learn_43 : decode cX4_learn 43 = .ok (.ireturn, 1) := by decide +kernel
set_option maxRecDepth 20000 in
theorem ggX4_withdraw_X4_in : GoodIn wsX4_withdraw wsX4_in := goodIn_r _ [6] rfl (by decide +kernel)
set_option maxRecDepth 20000 in
theorem gX4_withdraw_X4_in : GoodIn wsX4_withdraw (va_wsS RX4 41 yX4_in wsX4_in) := goodIn_app (goodIn_of _ (by decide +kernel)) ggX4_withdraw_X4_in
set_option maxRecDepth 20000 in
theorem ggX4_withdraw_X4_finds : GoodIn wsX4_withdraw wsX4_finds := goodIn_r _ [10, 11, 1, 86, 87, 88, 89, 90, 91, 92, 93, 94, 95, 96, 97, 98, 99, 100, 101] rfl (by decide +kernel)
set_option maxRecDepth 20000 in
theorem gX4_withdraw_X4_finds : GoodIn wsX4_withdraw (wsV RX4 37 RX4 yX4_finds wsX4_finds) := goodIn_app (goodIn_of _ (by decide +kernel)) ggX4_withdraw_X4_finds
set_option maxRecDepth 20000 in
theorem ggX4_withdraw_X4_thinks : GoodIn wsX4_withdraw wsX4_thinks := goodIn_r _ [15, 2, 16, 17, 18, 5, 19, 86, 87, 88, 89, 90, 91, 92, 93, 94, 95, 96, 97, 98, 99, 100, 101] rfl (by decide +kernel)
set_option maxRecDepth 20000 in
theorem gX4_withdraw_X4_thinks : GoodIn wsX4_withdraw (wsV RX4 131 RX4 yX4_thinks wsX4_thinks) := goodIn_app (goodIn_of _ (by decide +kernel)) ggX4_withdraw_X4_thinks
set_option maxRecDepth 20000 in
theorem ggX4_withdraw_X4_hurtOn : GoodIn wsX4_withdraw wsX4_hurtOn := goodIn_r _ [23, 24, 25, 26, 5, 27, 28, 29, 30, 31, 32, 2, 33, 34, 35, 36, 37, 38, 39, 40, 41, 42, 43, 44, 45, 46, 47, 48, 49, 50, 51, 52, 53, 54, 55, 56, 57, 58, 59, 60, 61, 62, 63, 64, 65, 66, 67, 68, 69, 70, 71, 72, 73, 74, 75, 76, 77, 78, 79, 80, 16, 17, 18, 19, 86, 87, 88, 89, 90, 91, 92, 93, 94, 95, 96, 97, 98, 99, 100, 101] rfl (by decide +kernel)
set_option maxRecDepth 20000 in
theorem gX4_withdraw_X4_hurtOn : GoodIn wsX4_withdraw (wsV RX4 137 RX4 yX4_hurtOn wsX4_hurtOn) := goodIn_app (goodIn_of _ (by decide +kernel)) ggX4_withdraw_X4_hurtOn
set_option maxRecDepth 20000 in
theorem ggX4_withdraw_X4_orNone : GoodIn wsX4_withdraw wsX4_orNone := goodIn_r _ [84, 85, 7, 8, 9, 5, 10, 11, 1, 86, 87, 88, 89, 90, 91, 92, 93, 94, 95, 96, 97, 98, 99, 100, 101] rfl (by decide +kernel)
set_option maxRecDepth 20000 in
theorem gX4_withdraw_X4_orNone : GoodIn wsX4_withdraw (wsV RX4 143 RX4 yX4_orNone wsX4_orNone) := goodIn_app (goodIn_of _ (by decide +kernel)) ggX4_withdraw_X4_orNone
theorem dX4_withdraw_0 : decode cX4_withdraw 0 = .ok (.iload_n 1, 1) := by decide +kernel
theorem dX4_withdraw_1 : decode cX4_withdraw 1 = .ok (.i2l, 1) := by decide +kernel
theorem dX4_withdraw_2 : decode cX4_withdraw 2 = .ok (.iconst 1, 1) := by decide +kernel
theorem dX4_withdraw_3 : decode cX4_withdraw 3 = .ok (.bipush 60, 2) := by decide +kernel
theorem dX4_withdraw_5 : decode cX4_withdraw 5 = .ok (.invokestatic 41, 3) := by decide +kernel
theorem dX4_withdraw_8 : decode cX4_withdraw 8 = .ok (.ifCond .ne 10, 3) := by decide +kernel
theorem dX4_withdraw_11 : decode cX4_withdraw 11 = .ok (.aload_n 0, 1) := by decide +kernel
theorem dX4_withdraw_12 : decode cX4_withdraw 12 = .ok (.ldc 35, 2) := by decide +kernel
theorem dX4_withdraw_14 : decode cX4_withdraw 14 = .ok (.invokevirtual 37, 3) := by decide +kernel
theorem dX4_withdraw_17 : decode cX4_withdraw 17 = .ok (.ireturn, 1) := by decide +kernel
theorem dX4_withdraw_18 : decode cX4_withdraw 18 = .ok (.aload_n 0, 1) := by decide +kernel
theorem dX4_withdraw_19 : decode cX4_withdraw 19 = .ok (.invokevirtual 131, 3) := by decide +kernel
theorem dX4_withdraw_22 : decode cX4_withdraw 22 = .ok (.iconst (-1), 1) := by decide +kernel
theorem dX4_withdraw_23 : decode cX4_withdraw 23 = .ok (.istore_n 2, 1) := by decide +kernel
theorem dX4_withdraw_24 : decode cX4_withdraw 24 = .ok (.iconst 0, 1) := by decide +kernel
theorem dX4_withdraw_25 : decode cX4_withdraw 25 = .ok (.istore_n 3, 1) := by decide +kernel
theorem dX4_withdraw_26 : decode cX4_withdraw 26 = .ok (.iconst 0, 1) := by decide +kernel
theorem dX4_withdraw_27 : decode cX4_withdraw 27 = .ok (.istore 4, 2) := by decide +kernel
theorem dX4_withdraw_29 : decode cX4_withdraw 29 = .ok (.iload 4, 2) := by decide +kernel
theorem dX4_withdraw_31 : decode cX4_withdraw 31 = .ok (.aload_n 0, 1) := by decide +kernel
theorem dX4_withdraw_32 : decode cX4_withdraw 32 = .ok (.getfield 9, 3) := by decide +kernel
theorem dX4_withdraw_35 : decode cX4_withdraw 35 = .ok (.iconst 2, 1) := by decide +kernel
theorem dX4_withdraw_36 : decode cX4_withdraw 36 = .ok (.iaload, 1) := by decide +kernel
theorem dX4_withdraw_37 : decode cX4_withdraw 37 = .ok (.if_icmp .ge 73, 3) := by decide +kernel
theorem dX4_withdraw_40 : decode cX4_withdraw 40 = .ok (.aload_n 0, 1) := by decide +kernel
theorem dX4_withdraw_41 : decode cX4_withdraw 41 = .ok (.getfield 9, 3) := by decide +kernel
theorem dX4_withdraw_44 : decode cX4_withdraw 44 = .ok (.bipush 43, 2) := by decide +kernel
theorem dX4_withdraw_46 : decode cX4_withdraw 46 = .ok (.iconst 4, 1) := by decide +kernel
theorem dX4_withdraw_47 : decode cX4_withdraw 47 = .ok (.iload 4, 2) := by decide +kernel
theorem dX4_withdraw_49 : decode cX4_withdraw 49 = .ok (.imul, 1) := by decide +kernel
theorem dX4_withdraw_50 : decode cX4_withdraw 50 = .ok (.iadd, 1) := by decide +kernel
theorem dX4_withdraw_51 : decode cX4_withdraw 51 = .ok (.iconst 3, 1) := by decide +kernel
theorem dX4_withdraw_52 : decode cX4_withdraw 52 = .ok (.iadd, 1) := by decide +kernel
theorem dX4_withdraw_53 : decode cX4_withdraw 53 = .ok (.iconst 0, 1) := by decide +kernel
theorem dX4_withdraw_54 : decode cX4_withdraw 54 = .ok (.iastore, 1) := by decide +kernel
theorem dX4_withdraw_55 : decode cX4_withdraw 55 = .ok (.aload_n 0, 1) := by decide +kernel
theorem dX4_withdraw_56 : decode cX4_withdraw 56 = .ok (.iconst (-1), 1) := by decide +kernel
theorem dX4_withdraw_57 : decode cX4_withdraw 57 = .ok (.iload_n 1, 1) := by decide +kernel
theorem dX4_withdraw_58 : decode cX4_withdraw 58 = .ok (.invokevirtual 137, 3) := by decide +kernel
theorem dX4_withdraw_61 : decode cX4_withdraw 61 = .ok (.istore 5, 2) := by decide +kernel
theorem dX4_withdraw_63 : decode cX4_withdraw 63 = .ok (.iload_n 2, 1) := by decide +kernel
theorem dX4_withdraw_64 : decode cX4_withdraw 64 = .ok (.ifCond .lt 9, 3) := by decide +kernel
theorem dX4_withdraw_67 : decode cX4_withdraw 67 = .ok (.iload 5, 2) := by decide +kernel
theorem dX4_withdraw_69 : decode cX4_withdraw 69 = .ok (.iload_n 3, 1) := by decide +kernel
theorem dX4_withdraw_70 : decode cX4_withdraw 70 = .ok (.if_icmp .ge 7, 3) := by decide +kernel
theorem dX4_withdraw_73 : decode cX4_withdraw 73 = .ok (.iconst 1, 1) := by decide +kernel
theorem dX4_withdraw_74 : decode cX4_withdraw 74 = .ok (.goto 4, 3) := by decide +kernel
theorem dX4_withdraw_77 : decode cX4_withdraw 77 = .ok (.iconst 0, 1) := by decide +kernel
theorem dX4_withdraw_78 : decode cX4_withdraw 78 = .ok (.istore 6, 2) := by decide +kernel
theorem dX4_withdraw_80 : decode cX4_withdraw 80 = .ok (.iload 6, 2) := by decide +kernel
theorem dX4_withdraw_82 : decode cX4_withdraw 82 = .ok (.ifCond .eq 8, 3) := by decide +kernel
theorem dX4_withdraw_85 : decode cX4_withdraw 85 = .ok (.iload 4, 2) := by decide +kernel
theorem dX4_withdraw_87 : decode cX4_withdraw 87 = .ok (.goto 4, 3) := by decide +kernel
theorem dX4_withdraw_90 : decode cX4_withdraw 90 = .ok (.iload_n 2, 1) := by decide +kernel
theorem dX4_withdraw_91 : decode cX4_withdraw 91 = .ok (.istore_n 2, 1) := by decide +kernel
theorem dX4_withdraw_92 : decode cX4_withdraw 92 = .ok (.iload 6, 2) := by decide +kernel
theorem dX4_withdraw_94 : decode cX4_withdraw 94 = .ok (.ifCond .eq 8, 3) := by decide +kernel
theorem dX4_withdraw_97 : decode cX4_withdraw 97 = .ok (.iload 5, 2) := by decide +kernel
theorem dX4_withdraw_99 : decode cX4_withdraw 99 = .ok (.goto 4, 3) := by decide +kernel
theorem dX4_withdraw_102 : decode cX4_withdraw 102 = .ok (.iload_n 3, 1) := by decide +kernel
theorem dX4_withdraw_103 : decode cX4_withdraw 103 = .ok (.istore_n 3, 1) := by decide +kernel
theorem dX4_withdraw_104 : decode cX4_withdraw 104 = .ok (.iinc 4 1, 3) := by decide +kernel
theorem dX4_withdraw_107 : decode cX4_withdraw 107 = .ok (.goto (-78), 3) := by decide +kernel
theorem dX4_withdraw_110 : decode cX4_withdraw 110 = .ok (.aload_n 0, 1) := by decide +kernel
theorem dX4_withdraw_111 : decode cX4_withdraw 111 = .ok (.iload_n 2, 1) := by decide +kernel
theorem dX4_withdraw_112 : decode cX4_withdraw 112 = .ok (.invokevirtual 143, 3) := by decide +kernel
theorem dX4_withdraw_115 : decode cX4_withdraw 115 = .ok (.ireturn, 1) := by decide +kernel
set_option maxRecDepth 20000 in
theorem ggX4_saddest_X4_in : GoodIn wsX4_saddest wsX4_in := goodIn_r _ [6] rfl (by decide +kernel)
set_option maxRecDepth 20000 in
theorem gX4_saddest_X4_in : GoodIn wsX4_saddest (va_wsS RX4 41 yX4_in wsX4_in) := goodIn_app (goodIn_of _ (by decide +kernel)) ggX4_saddest_X4_in
set_option maxRecDepth 20000 in
theorem ggX4_saddest_X4_finds : GoodIn wsX4_saddest wsX4_finds := goodIn_r _ [10, 11, 1, 78, 79, 80, 81, 82, 83, 84, 85, 86, 87, 88, 89, 90, 91, 92, 93] rfl (by decide +kernel)
set_option maxRecDepth 20000 in
theorem gX4_saddest_X4_finds : GoodIn wsX4_saddest (wsV RX4 37 RX4 yX4_finds wsX4_finds) := goodIn_app (goodIn_of _ (by decide +kernel)) ggX4_saddest_X4_finds
set_option maxRecDepth 20000 in
theorem ggX4_saddest_X4_thinks : GoodIn wsX4_saddest wsX4_thinks := goodIn_r _ [15, 2, 16, 17, 18, 5, 19, 78, 79, 80, 81, 82, 83, 84, 85, 86, 87, 88, 89, 90, 91, 92, 93] rfl (by decide +kernel)
set_option maxRecDepth 20000 in
theorem gX4_saddest_X4_thinks : GoodIn wsX4_saddest (wsV RX4 131 RX4 yX4_thinks wsX4_thinks) := goodIn_app (goodIn_of _ (by decide +kernel)) ggX4_saddest_X4_thinks
set_option maxRecDepth 20000 in
theorem ggX4_saddest_X4_goesFor : GoodIn wsX4_saddest wsX4_goesFor := goodIn_r _ [23, 24, 25, 26, 5, 27, 28, 2, 29, 30, 31, 32, 33, 34, 35, 36, 37, 38, 39, 40, 41, 42, 43, 44, 45, 46, 47, 48, 49, 50, 51, 52, 53, 54, 55, 56, 57, 58, 59, 60, 61, 62, 63, 64, 65, 66, 67, 68, 78, 79, 80, 81, 82, 83, 84, 85, 86, 87, 88, 89, 90, 91, 92, 93] rfl (by decide +kernel)
set_option maxRecDepth 20000 in
theorem gX4_saddest_X4_goesFor : GoodIn wsX4_saddest (wsV RX4 114 RX4 yX4_goesFor wsX4_goesFor) := goodIn_app (goodIn_of _ (by decide +kernel)) ggX4_saddest_X4_goesFor
set_option maxRecDepth 20000 in
theorem ggX4_saddest_X4_it : GoodIn wsX4_saddest wsX4_it := goodIn_r _ [41, 2, 78, 79, 80, 81, 82, 83, 84, 85, 86, 87, 88, 89, 90, 91, 92, 93] rfl (by decide +kernel)
set_option maxRecDepth 20000 in
theorem gX4_saddest_X4_it : GoodIn wsX4_saddest (wsV RX4 49 RX4 yX4_it wsX4_it) := goodIn_app (goodIn_of _ (by decide +kernel)) ggX4_saddest_X4_it
set_option maxRecDepth 20000 in
theorem ggX4_saddest_X4_putsBack : GoodIn wsX4_saddest wsX4_putsBack := goodIn_r _ [72, 16, 2, 17, 18, 5, 19, 78, 79, 80, 81, 82, 83, 84, 85, 86, 87, 88, 89, 90, 91, 92, 93] rfl (by decide +kernel)
set_option maxRecDepth 20000 in
theorem gX4_saddest_X4_putsBack : GoodIn wsX4_saddest (wsV RX4 134 RX4 yX4_putsBack wsX4_putsBack) := goodIn_app (goodIn_of _ (by decide +kernel)) ggX4_saddest_X4_putsBack
set_option maxRecDepth 20000 in
theorem ggX4_saddest_X4_orNone : GoodIn wsX4_saddest wsX4_orNone := goodIn_r _ [76, 77, 7, 8, 9, 5, 10, 11, 1, 78, 79, 80, 81, 82, 83, 84, 85, 86, 87, 88, 89, 90, 91, 92, 93] rfl (by decide +kernel)
set_option maxRecDepth 20000 in
theorem gX4_saddest_X4_orNone : GoodIn wsX4_saddest (wsV RX4 143 RX4 yX4_orNone wsX4_orNone) := goodIn_app (goodIn_of _ (by decide +kernel)) ggX4_saddest_X4_orNone
theorem dX4_saddest_0 : decode cX4_saddest 0 = .ok (.iload_n 1, 1) := by decide +kernel
theorem dX4_saddest_1 : decode cX4_saddest 1 = .ok (.i2l, 1) := by decide +kernel
theorem dX4_saddest_2 : decode cX4_saddest 2 = .ok (.iconst 0, 1) := by decide +kernel
theorem dX4_saddest_3 : decode cX4_saddest 3 = .ok (.sipush 200, 3) := by decide +kernel
theorem dX4_saddest_6 : decode cX4_saddest 6 = .ok (.invokestatic 41, 3) := by decide +kernel
theorem dX4_saddest_9 : decode cX4_saddest 9 = .ok (.ifCond .ne 10, 3) := by decide +kernel
theorem dX4_saddest_12 : decode cX4_saddest 12 = .ok (.aload_n 0, 1) := by decide +kernel
theorem dX4_saddest_13 : decode cX4_saddest 13 = .ok (.ldc 35, 2) := by decide +kernel
theorem dX4_saddest_15 : decode cX4_saddest 15 = .ok (.invokevirtual 37, 3) := by decide +kernel
theorem dX4_saddest_18 : decode cX4_saddest 18 = .ok (.ireturn, 1) := by decide +kernel
theorem dX4_saddest_19 : decode cX4_saddest 19 = .ok (.aload_n 0, 1) := by decide +kernel
theorem dX4_saddest_20 : decode cX4_saddest 20 = .ok (.invokevirtual 131, 3) := by decide +kernel
theorem dX4_saddest_23 : decode cX4_saddest 23 = .ok (.aload_n 0, 1) := by decide +kernel
theorem dX4_saddest_24 : decode cX4_saddest 24 = .ok (.iload_n 1, 1) := by decide +kernel
theorem dX4_saddest_25 : decode cX4_saddest 25 = .ok (.invokevirtual 114, 3) := by decide +kernel
theorem dX4_saddest_28 : decode cX4_saddest 28 = .ok (.iconst (-1), 1) := by decide +kernel
theorem dX4_saddest_29 : decode cX4_saddest 29 = .ok (.istore_n 2, 1) := by decide +kernel
theorem dX4_saddest_30 : decode cX4_saddest 30 = .ok (.iconst 0, 1) := by decide +kernel
theorem dX4_saddest_31 : decode cX4_saddest 31 = .ok (.istore_n 3, 1) := by decide +kernel
theorem dX4_saddest_32 : decode cX4_saddest 32 = .ok (.iload_n 3, 1) := by decide +kernel
theorem dX4_saddest_33 : decode cX4_saddest 33 = .ok (.aload_n 0, 1) := by decide +kernel
theorem dX4_saddest_34 : decode cX4_saddest 34 = .ok (.getfield 9, 3) := by decide +kernel
theorem dX4_saddest_37 : decode cX4_saddest 37 = .ok (.iconst 1, 1) := by decide +kernel
theorem dX4_saddest_38 : decode cX4_saddest 38 = .ok (.iaload, 1) := by decide +kernel
theorem dX4_saddest_39 : decode cX4_saddest 39 = .ok (.if_icmp .ge 34, 3) := by decide +kernel
theorem dX4_saddest_42 : decode cX4_saddest 42 = .ok (.iload_n 2, 1) := by decide +kernel
theorem dX4_saddest_43 : decode cX4_saddest 43 = .ok (.ifCond .lt 18, 3) := by decide +kernel
theorem dX4_saddest_46 : decode cX4_saddest 46 = .ok (.aload_n 0, 1) := by decide +kernel
theorem dX4_saddest_47 : decode cX4_saddest 47 = .ok (.iload_n 3, 1) := by decide +kernel
theorem dX4_saddest_48 : decode cX4_saddest 48 = .ok (.iconst 3, 1) := by decide +kernel
theorem dX4_saddest_49 : decode cX4_saddest 49 = .ok (.invokevirtual 49, 3) := by decide +kernel
theorem dX4_saddest_52 : decode cX4_saddest 52 = .ok (.aload_n 0, 1) := by decide +kernel
theorem dX4_saddest_53 : decode cX4_saddest 53 = .ok (.iload_n 2, 1) := by decide +kernel
theorem dX4_saddest_54 : decode cX4_saddest 54 = .ok (.iconst 3, 1) := by decide +kernel
theorem dX4_saddest_55 : decode cX4_saddest 55 = .ok (.invokevirtual 49, 3) := by decide +kernel
theorem dX4_saddest_58 : decode cX4_saddest 58 = .ok (.if_icmp .le 7, 3) := by decide +kernel
theorem dX4_saddest_61 : decode cX4_saddest 61 = .ok (.iload_n 3, 1) := by decide +kernel
theorem dX4_saddest_62 : decode cX4_saddest 62 = .ok (.goto 4, 3) := by decide +kernel
theorem dX4_saddest_65 : decode cX4_saddest 65 = .ok (.iload_n 2, 1) := by decide +kernel
theorem dX4_saddest_66 : decode cX4_saddest 66 = .ok (.istore_n 2, 1) := by decide +kernel
theorem dX4_saddest_67 : decode cX4_saddest 67 = .ok (.iinc 3 1, 3) := by decide +kernel
theorem dX4_saddest_70 : decode cX4_saddest 70 = .ok (.goto (-38), 3) := by decide +kernel
theorem dX4_saddest_73 : decode cX4_saddest 73 = .ok (.aload_n 0, 1) := by decide +kernel
theorem dX4_saddest_74 : decode cX4_saddest 74 = .ok (.invokevirtual 134, 3) := by decide +kernel
theorem dX4_saddest_77 : decode cX4_saddest 77 = .ok (.aload_n 0, 1) := by decide +kernel
theorem dX4_saddest_78 : decode cX4_saddest 78 = .ok (.iload_n 2, 1) := by decide +kernel
theorem dX4_saddest_79 : decode cX4_saddest 79 = .ok (.invokevirtual 143, 3) := by decide +kernel
theorem dX4_saddest_82 : decode cX4_saddest 82 = .ok (.ireturn, 1) := by decide +kernel
set_option maxRecDepth 20000 in
theorem ggX4_feed_X4_in : GoodIn wsX4_feed wsX4_in := goodIn_r _ [8] rfl (by decide +kernel)
set_option maxRecDepth 20000 in
theorem gX4_feed_X4_in : GoodIn wsX4_feed (va_wsS RX4 41 yX4_in wsX4_in) := goodIn_app (goodIn_of _ (by decide +kernel)) ggX4_feed_X4_in
set_option maxRecDepth 20000 in
theorem ggX4_feed_X4_finds : GoodIn wsX4_feed wsX4_finds := goodIn_r _ [12, 13, 1, 14, 15, 16, 17, 18, 19, 20, 21, 22, 23, 24, 25, 26, 27, 28, 29] rfl (by decide +kernel)
set_option maxRecDepth 20000 in
theorem gX4_feed_X4_finds : GoodIn wsX4_feed (wsV RX4 37 RX4 yX4_finds wsX4_finds) := goodIn_app (goodIn_of _ (by decide +kernel)) ggX4_feed_X4_finds
theorem dX4_feed_0 : decode cX4_feed 0 = .ok (.iload_n 2, 1) := by decide +kernel
theorem dX4_feed_1 : decode cX4_feed 1 = .ok (.i2l, 1) := by decide +kernel
theorem dX4_feed_2 : decode cX4_feed 2 = .ok (.iconst 1, 1) := by decide +kernel
theorem dX4_feed_3 : decode cX4_feed 3 = .ok (.iconst 4, 1) := by decide +kernel
theorem dX4_feed_4 : decode cX4_feed 4 = .ok (.invokestatic 41, 3) := by decide +kernel
theorem dX4_feed_7 : decode cX4_feed 7 = .ok (.ifCond .ne 10, 3) := by decide +kernel
theorem dX4_feed_10 : decode cX4_feed 10 = .ok (.aload_n 0, 1) := by decide +kernel
theorem dX4_feed_11 : decode cX4_feed 11 = .ok (.ldc 35, 2) := by decide +kernel
theorem dX4_feed_13 : decode cX4_feed 13 = .ok (.invokevirtual 37, 3) := by decide +kernel
theorem dX4_feed_16 : decode cX4_feed 16 = .ok (.ireturn, 1) := by decide +kernel
theorem dX4_feed_17 : decode cX4_feed 17 = .ok (.aload_n 0, 1) := by decide +kernel
theorem dX4_feed_18 : decode cX4_feed 18 = .ok (.getfield 146, 3) := by decide +kernel
theorem dX4_feed_21 : decode cX4_feed 21 = .ok (.iload_n 2, 1) := by decide +kernel
theorem dX4_feed_22 : decode cX4_feed 22 = .ok (.iadd, 1) := by decide +kernel
theorem dX4_feed_23 : decode cX4_feed 23 = .ok (.bipush 120, 2) := by decide +kernel
theorem dX4_feed_25 : decode cX4_feed 25 = .ok (.if_icmp .le 10, 3) := by decide +kernel
theorem dX4_feed_28 : decode cX4_feed 28 = .ok (.aload_n 0, 1) := by decide +kernel
theorem dX4_feed_29 : decode cX4_feed 29 = .ok (.ldc 69, 2) := by decide +kernel
theorem dX4_feed_31 : decode cX4_feed 31 = .ok (.invokevirtual 37, 3) := by decide +kernel
theorem dX4_feed_34 : decode cX4_feed 34 = .ok (.ireturn, 1) := by decide +kernel
theorem dX4_feed_35 : decode cX4_feed 35 = .ok (.iload_n 2, 1) := by decide +kernel
theorem dX4_feed_36 : decode cX4_feed 36 = .ok (.iconst 1, 1) := by decide +kernel
theorem dX4_feed_37 : decode cX4_feed 37 = .ok (.isub, 1) := by decide +kernel
theorem dX4_feed_38 : decode cX4_feed 38 = .ok (.istore_n 3, 1) := by decide +kernel
theorem dX4_feed_39 : decode cX4_feed 39 = .ok (.iload_n 3, 1) := by decide +kernel
theorem dX4_feed_40 : decode cX4_feed 40 = .ok (.ifCond .lt 38, 3) := by decide +kernel
theorem dX4_feed_43 : decode cX4_feed 43 = .ok (.aload_n 0, 1) := by decide +kernel
theorem dX4_feed_44 : decode cX4_feed 44 = .ok (.getfield 22, 3) := by decide +kernel
theorem dX4_feed_47 : decode cX4_feed 47 = .ok (.aload_n 0, 1) := by decide +kernel
theorem dX4_feed_48 : decode cX4_feed 48 = .ok (.getfield 146, 3) := by decide +kernel
theorem dX4_feed_51 : decode cX4_feed 51 = .ok (.iload_n 1, 1) := by decide +kernel
theorem dX4_feed_52 : decode cX4_feed 52 = .ok (.bipush 8, 2) := by decide +kernel
theorem dX4_feed_54 : decode cX4_feed 54 = .ok (.iload_n 3, 1) := by decide +kernel
theorem dX4_feed_55 : decode cX4_feed 55 = .ok (.imul, 1) := by decide +kernel
theorem dX4_feed_56 : decode cX4_feed 56 = .ok (.ishr, 1) := by decide +kernel
theorem dX4_feed_57 : decode cX4_feed 57 = .ok (.sipush 255, 3) := by decide +kernel
theorem dX4_feed_60 : decode cX4_feed 60 = .ok (.iand, 1) := by decide +kernel
theorem dX4_feed_61 : decode cX4_feed 61 = .ok (.iastore, 1) := by decide +kernel
theorem dX4_feed_62 : decode cX4_feed 62 = .ok (.aload_n 0, 1) := by decide +kernel
theorem dX4_feed_63 : decode cX4_feed 63 = .ok (.dup, 1) := by decide +kernel
theorem dX4_feed_64 : decode cX4_feed 64 = .ok (.getfield 146, 3) := by decide +kernel
theorem dX4_feed_67 : decode cX4_feed 67 = .ok (.iconst 1, 1) := by decide +kernel
theorem dX4_feed_68 : decode cX4_feed 68 = .ok (.iadd, 1) := by decide +kernel
theorem dX4_feed_69 : decode cX4_feed 69 = .ok (.putfield 146, 3) := by decide +kernel
theorem dX4_feed_72 : decode cX4_feed 72 = .ok (.iinc 3 (-1), 3) := by decide +kernel
theorem dX4_feed_75 : decode cX4_feed 75 = .ok (.goto (-36), 3) := by decide +kernel
theorem dX4_feed_78 : decode cX4_feed 78 = .ok (.aload_n 0, 1) := by decide +kernel
theorem dX4_feed_79 : decode cX4_feed 79 = .ok (.getfield 146, 3) := by decide +kernel
theorem dX4_feed_82 : decode cX4_feed 82 = .ok (.ireturn, 1) := by decide +kernel
theorem dX4_wipe_0 : decode cX4_wipe 0 = .ok (.aload_n 0, 1) := by decide +kernel
theorem dX4_wipe_1 : decode cX4_wipe 1 = .ok (.getfield 146, 3) := by decide +kernel
theorem dX4_wipe_4 : decode cX4_wipe 4 = .ok (.istore_n 1, 1) := by decide +kernel
theorem dX4_wipe_5 : decode cX4_wipe 5 = .ok (.aload_n 0, 1) := by decide +kernel
theorem dX4_wipe_6 : decode cX4_wipe 6 = .ok (.iconst 0, 1) := by decide +kernel
theorem dX4_wipe_7 : decode cX4_wipe 7 = .ok (.putfield 146, 3) := by decide +kernel
theorem dX4_wipe_10 : decode cX4_wipe 10 = .ok (.iload_n 1, 1) := by decide +kernel
theorem dX4_wipe_11 : decode cX4_wipe 11 = .ok (.ireturn, 1) := by decide +kernel
set_option maxRecDepth 20000 in
theorem ggX4_isByte_X4_in : GoodIn wsX4_isByte wsX4_in := goodIn_r _ [6] rfl (by decide +kernel)
set_option maxRecDepth 20000 in
theorem gX4_isByte_X4_in : GoodIn wsX4_isByte (va_wsS RX4 41 yX4_in wsX4_in) := goodIn_app (goodIn_of _ (by decide +kernel)) ggX4_isByte_X4_in
theorem dX4_isByte_0 : decode cX4_isByte 0 = .ok (.iload_n 1, 1) := by decide +kernel
theorem dX4_isByte_1 : decode cX4_isByte 1 = .ok (.aload_n 0, 1) := by decide +kernel
theorem dX4_isByte_2 : decode cX4_isByte 2 = .ok (.getfield 146, 3) := by decide +kernel
theorem dX4_isByte_5 : decode cX4_isByte 5 = .ok (.if_icmp .ge 22, 3) := by decide +kernel
theorem dX4_isByte_8 : decode cX4_isByte 8 = .ok (.aload_n 0, 1) := by decide +kernel
theorem dX4_isByte_9 : decode cX4_isByte 9 = .ok (.getfield 22, 3) := by decide +kernel
theorem dX4_isByte_12 : decode cX4_isByte 12 = .ok (.iload_n 1, 1) := by decide +kernel
theorem dX4_isByte_13 : decode cX4_isByte 13 = .ok (.iaload, 1) := by decide +kernel
theorem dX4_isByte_14 : decode cX4_isByte 14 = .ok (.i2l, 1) := by decide +kernel
theorem dX4_isByte_15 : decode cX4_isByte 15 = .ok (.iload_n 2, 1) := by decide +kernel
theorem dX4_isByte_16 : decode cX4_isByte 16 = .ok (.iload_n 3, 1) := by decide +kernel
theorem dX4_isByte_17 : decode cX4_isByte 17 = .ok (.invokestatic 41, 3) := by decide +kernel
theorem dX4_isByte_20 : decode cX4_isByte 20 = .ok (.ifCond .eq 7, 3) := by decide +kernel
theorem dX4_isByte_23 : decode cX4_isByte 23 = .ok (.iconst 1, 1) := by decide +kernel
theorem dX4_isByte_24 : decode cX4_isByte 24 = .ok (.goto 4, 3) := by decide +kernel
theorem dX4_isByte_27 : decode cX4_isByte 27 = .ok (.iconst 0, 1) := by decide +kernel
theorem dX4_isByte_28 : decode cX4_isByte 28 = .ok (.ireturn, 1) := by decide +kernel
theorem dX4_isName_0 : decode cX4_isName 0 = .ok (.iload_n 2, 1) := by decide +kernel
theorem dX4_isName_1 : decode cX4_isName 1 = .ok (.bipush 8, 2) := by decide +kernel
theorem dX4_isName_3 : decode cX4_isName 3 = .ok (.if_icmp .gt 26, 3) := by decide +kernel
theorem dX4_isName_6 : decode cX4_isName 6 = .ok (.iload_n 2, 1) := by decide +kernel
theorem dX4_isName_7 : decode cX4_isName 7 = .ok (.bipush 8, 2) := by decide +kernel
theorem dX4_isName_9 : decode cX4_isName 9 = .ok (.if_icmp .eq 16, 3) := by decide +kernel
theorem dX4_isName_12 : decode cX4_isName 12 = .ok (.getstatic 149, 3) := by decide +kernel
theorem dX4_isName_15 : decode cX4_isName 15 = .ok (.bipush 8, 2) := by decide +kernel
theorem dX4_isName_17 : decode cX4_isName 17 = .ok (.iload_n 1, 1) := by decide +kernel
theorem dX4_isName_18 : decode cX4_isName 18 = .ok (.imul, 1) := by decide +kernel
theorem dX4_isName_19 : decode cX4_isName 19 = .ok (.iload_n 2, 1) := by decide +kernel
theorem dX4_isName_20 : decode cX4_isName 20 = .ok (.iadd, 1) := by decide +kernel
theorem dX4_isName_21 : decode cX4_isName 21 = .ok (.iaload, 1) := by decide +kernel
theorem dX4_isName_22 : decode cX4_isName 22 = .ok (.ifCond .ne 7, 3) := by decide +kernel
theorem dX4_isName_25 : decode cX4_isName 25 = .ok (.iconst 1, 1) := by decide +kernel
theorem dX4_isName_26 : decode cX4_isName 26 = .ok (.goto 4, 3) := by decide +kernel
theorem dX4_isName_29 : decode cX4_isName 29 = .ok (.iconst 0, 1) := by decide +kernel
theorem dX4_isName_30 : decode cX4_isName 30 = .ok (.istore_n 3, 1) := by decide +kernel
theorem dX4_isName_31 : decode cX4_isName 31 = .ok (.iconst 0, 1) := by decide +kernel
theorem dX4_isName_32 : decode cX4_isName 32 = .ok (.istore 4, 2) := by decide +kernel
theorem dX4_isName_34 : decode cX4_isName 34 = .ok (.iload 4, 2) := by decide +kernel
theorem dX4_isName_36 : decode cX4_isName 36 = .ok (.iload_n 2, 1) := by decide +kernel
theorem dX4_isName_37 : decode cX4_isName 37 = .ok (.if_icmp .ge 45, 3) := by decide +kernel
theorem dX4_isName_40 : decode cX4_isName 40 = .ok (.iload_n 3, 1) := by decide +kernel
theorem dX4_isName_41 : decode cX4_isName 41 = .ok (.ifCond .eq 41, 3) := by decide +kernel
theorem dX4_isName_44 : decode cX4_isName 44 = .ok (.getstatic 149, 3) := by decide +kernel
theorem dX4_isName_47 : decode cX4_isName 47 = .ok (.bipush 8, 2) := by decide +kernel
theorem dX4_isName_49 : decode cX4_isName 49 = .ok (.iload_n 1, 1) := by decide +kernel
theorem dX4_isName_50 : decode cX4_isName 50 = .ok (.imul, 1) := by decide +kernel
theorem dX4_isName_51 : decode cX4_isName 51 = .ok (.iload 4, 2) := by decide +kernel
theorem dX4_isName_53 : decode cX4_isName 53 = .ok (.iadd, 1) := by decide +kernel
theorem dX4_isName_54 : decode cX4_isName 54 = .ok (.iaload, 1) := by decide +kernel
theorem dX4_isName_55 : decode cX4_isName 55 = .ok (.aload_n 0, 1) := by decide +kernel
theorem dX4_isName_56 : decode cX4_isName 56 = .ok (.getfield 22, 3) := by decide +kernel
theorem dX4_isName_59 : decode cX4_isName 59 = .ok (.aload_n 0, 1) := by decide +kernel
theorem dX4_isName_60 : decode cX4_isName 60 = .ok (.getfield 152, 3) := by decide +kernel
theorem dX4_isName_63 : decode cX4_isName 63 = .ok (.iload 4, 2) := by decide +kernel
theorem dX4_isName_65 : decode cX4_isName 65 = .ok (.iadd, 1) := by decide +kernel
theorem dX4_isName_66 : decode cX4_isName 66 = .ok (.iaload, 1) := by decide +kernel
theorem dX4_isName_67 : decode cX4_isName 67 = .ok (.if_icmp .ne 7, 3) := by decide +kernel
theorem dX4_isName_70 : decode cX4_isName 70 = .ok (.iconst 1, 1) := by decide +kernel
theorem dX4_isName_71 : decode cX4_isName 71 = .ok (.goto 4, 3) := by decide +kernel
theorem dX4_isName_74 : decode cX4_isName 74 = .ok (.iconst 0, 1) := by decide +kernel
theorem dX4_isName_75 : decode cX4_isName 75 = .ok (.istore_n 3, 1) := by decide +kernel
theorem dX4_isName_76 : decode cX4_isName 76 = .ok (.iinc 4 1, 3) := by decide +kernel
theorem dX4_isName_79 : decode cX4_isName 79 = .ok (.goto (-45), 3) := by decide +kernel
theorem dX4_isName_82 : decode cX4_isName 82 = .ok (.iload_n 3, 1) := by decide +kernel
theorem dX4_isName_83 : decode cX4_isName 83 = .ok (.ireturn, 1) := by decide +kernel
set_option maxRecDepth 20000 in
theorem ggX4_wordHere_X4_isName : GoodIn wsX4_wordHere wsX4_isName := goodIn_r _ [7, 8, 9, 2, 10, 11, 12, 13, 14, 15, 16, 17, 18, 19, 20, 21, 22, 23, 24, 25] rfl (by decide +kernel)
set_option maxRecDepth 20000 in
theorem gX4_wordHere_X4_isName : GoodIn wsX4_wordHere (wsV RX4 158 RX4 yX4_isName wsX4_isName) := goodIn_app (goodIn_of _ (by decide +kernel)) ggX4_wordHere_X4_isName
theorem dX4_wordHere_0 : decode cX4_wordHere 0 = .ok (.iconst 0, 1) := by decide +kernel
theorem dX4_wordHere_1 : decode cX4_wordHere 1 = .ok (.istore_n 1, 1) := by decide +kernel
theorem dX4_wordHere_2 : decode cX4_wordHere 2 = .ok (.iload_n 1, 1) := by decide +kernel
theorem dX4_wordHere_3 : decode cX4_wordHere 3 = .ok (.bipush 10, 2) := by decide +kernel
theorem dX4_wordHere_5 : decode cX4_wordHere 5 = .ok (.if_icmp .ge 26, 3) := by decide +kernel
theorem dX4_wordHere_8 : decode cX4_wordHere 8 = .ok (.aload_n 0, 1) := by decide +kernel
theorem dX4_wordHere_9 : decode cX4_wordHere 9 = .ok (.iload_n 1, 1) := by decide +kernel
theorem dX4_wordHere_10 : decode cX4_wordHere 10 = .ok (.aload_n 0, 1) := by decide +kernel
theorem dX4_wordHere_11 : decode cX4_wordHere 11 = .ok (.getfield 155, 3) := by decide +kernel
theorem dX4_wordHere_14 : decode cX4_wordHere 14 = .ok (.aload_n 0, 1) := by decide +kernel
theorem dX4_wordHere_15 : decode cX4_wordHere 15 = .ok (.getfield 152, 3) := by decide +kernel
theorem dX4_wordHere_18 : decode cX4_wordHere 18 = .ok (.isub, 1) := by decide +kernel
theorem dX4_wordHere_19 : decode cX4_wordHere 19 = .ok (.invokevirtual 158, 3) := by decide +kernel
theorem dX4_wordHere_22 : decode cX4_wordHere 22 = .ok (.ifCond .ne 9, 3) := by decide +kernel
theorem dX4_wordHere_25 : decode cX4_wordHere 25 = .ok (.iinc 1 1, 3) := by decide +kernel
theorem dX4_wordHere_28 : decode cX4_wordHere 28 = .ok (.goto (-26), 3) := by decide +kernel
theorem dX4_wordHere_31 : decode cX4_wordHere 31 = .ok (.iload_n 1, 1) := by decide +kernel
theorem dX4_wordHere_32 : decode cX4_wordHere 32 = .ok (.bipush 10, 2) := by decide +kernel
theorem dX4_wordHere_34 : decode cX4_wordHere 34 = .ok (.if_icmp .ge 7, 3) := by decide +kernel
theorem dX4_wordHere_37 : decode cX4_wordHere 37 = .ok (.iload_n 1, 1) := by decide +kernel
theorem dX4_wordHere_38 : decode cX4_wordHere 38 = .ok (.goto 5, 3) := by decide +kernel
theorem dX4_wordHere_41 : decode cX4_wordHere 41 = .ok (.bipush 23, 2) := by decide +kernel
theorem dX4_wordHere_43 : decode cX4_wordHere 43 = .ok (.ireturn, 1) := by decide +kernel
set_option maxRecDepth 20000 in
theorem ggX4_reads_X4_isByte : GoodIn wsX4_reads wsX4_isByte := goodIn_r _ [11, 4, 6, 12, 13, 10, 14, 24, 25, 26, 27, 28, 29, 30, 31, 32, 33, 34, 35, 36, 37, 38, 39] rfl (by decide +kernel)
set_option maxRecDepth 20000 in
theorem gX4_reads_X4_isByte : GoodIn wsX4_reads (wsV RX4 161 RX4 yX4_isByte wsX4_isByte) := goodIn_app (goodIn_of _ (by decide +kernel)) ggX4_reads_X4_isByte
set_option maxRecDepth 20000 in
theorem ggX4_reads_X4_wordHere : GoodIn wsX4_reads wsX4_wordHere := goodIn_r _ [18, 1, 2, 19, 20, 21, 10, 22, 23, 6, 24, 25, 26, 27, 28, 29, 30, 31, 32, 33, 34, 35, 36, 37, 38, 39] rfl (by decide +kernel)
set_option maxRecDepth 20000 in
theorem gX4_reads_X4_wordHere : GoodIn wsX4_reads (wsV RX4 171 RX4 yX4_wordHere wsX4_wordHere) := goodIn_app (goodIn_of _ (by decide +kernel)) ggX4_reads_X4_wordHere
theorem dX4_reads_0 : decode cX4_reads 0 = .ok (.aload_n 0, 1) := by decide +kernel
theorem dX4_reads_1 : decode cX4_reads 1 = .ok (.aload_n 0, 1) := by decide +kernel
theorem dX4_reads_2 : decode cX4_reads 2 = .ok (.getfield 155, 3) := by decide +kernel
theorem dX4_reads_5 : decode cX4_reads 5 = .ok (.bipush 32, 2) := by decide +kernel
theorem dX4_reads_7 : decode cX4_reads 7 = .ok (.bipush 32, 2) := by decide +kernel
theorem dX4_reads_9 : decode cX4_reads 9 = .ok (.invokevirtual 161, 3) := by decide +kernel
theorem dX4_reads_12 : decode cX4_reads 12 = .ok (.ifCond .eq 16, 3) := by decide +kernel
theorem dX4_reads_15 : decode cX4_reads 15 = .ok (.aload_n 0, 1) := by decide +kernel
theorem dX4_reads_16 : decode cX4_reads 16 = .ok (.dup, 1) := by decide +kernel
theorem dX4_reads_17 : decode cX4_reads 17 = .ok (.getfield 155, 3) := by decide +kernel
theorem dX4_reads_20 : decode cX4_reads 20 = .ok (.iconst 1, 1) := by decide +kernel
theorem dX4_reads_21 : decode cX4_reads 21 = .ok (.iadd, 1) := by decide +kernel
theorem dX4_reads_22 : decode cX4_reads 22 = .ok (.putfield 155, 3) := by decide +kernel
theorem dX4_reads_25 : decode cX4_reads 25 = .ok (.goto (-25), 3) := by decide +kernel
theorem dX4_reads_28 : decode cX4_reads 28 = .ok (.aload_n 0, 1) := by decide +kernel
theorem dX4_reads_29 : decode cX4_reads 29 = .ok (.aload_n 0, 1) := by decide +kernel
theorem dX4_reads_30 : decode cX4_reads 30 = .ok (.getfield 155, 3) := by decide +kernel
theorem dX4_reads_33 : decode cX4_reads 33 = .ok (.putfield 152, 3) := by decide +kernel
theorem dX4_reads_36 : decode cX4_reads 36 = .ok (.aload_n 0, 1) := by decide +kernel
theorem dX4_reads_37 : decode cX4_reads 37 = .ok (.iconst 0, 1) := by decide +kernel
theorem dX4_reads_38 : decode cX4_reads 38 = .ok (.putfield 165, 3) := by decide +kernel
theorem dX4_reads_41 : decode cX4_reads 41 = .ok (.aload_n 0, 1) := by decide +kernel
theorem dX4_reads_42 : decode cX4_reads 42 = .ok (.getfield 155, 3) := by decide +kernel
theorem dX4_reads_45 : decode cX4_reads 45 = .ok (.aload_n 0, 1) := by decide +kernel
theorem dX4_reads_46 : decode cX4_reads 46 = .ok (.getfield 146, 3) := by decide +kernel
theorem dX4_reads_49 : decode cX4_reads 49 = .ok (.if_icmp .ne 12, 3) := by decide +kernel
theorem dX4_reads_52 : decode cX4_reads 52 = .ok (.aload_n 0, 1) := by decide +kernel
theorem dX4_reads_53 : decode cX4_reads 53 = .ok (.bipush 22, 2) := by decide +kernel
theorem dX4_reads_55 : decode cX4_reads 55 = .ok (.putfield 168, 3) := by decide +kernel
theorem dX4_reads_58 : decode cX4_reads 58 = .ok (.goto 186, 3) := by decide +kernel
theorem dX4_reads_61 : decode cX4_reads 61 = .ok (.aload_n 0, 1) := by decide +kernel
theorem dX4_reads_62 : decode cX4_reads 62 = .ok (.aload_n 0, 1) := by decide +kernel
theorem dX4_reads_63 : decode cX4_reads 63 = .ok (.getfield 155, 3) := by decide +kernel
theorem dX4_reads_66 : decode cX4_reads 66 = .ok (.bipush 97, 2) := by decide +kernel
theorem dX4_reads_68 : decode cX4_reads 68 = .ok (.bipush 122, 2) := by decide +kernel
theorem dX4_reads_70 : decode cX4_reads 70 = .ok (.invokevirtual 161, 3) := by decide +kernel
theorem dX4_reads_73 : decode cX4_reads 73 = .ok (.ifCond .eq 42, 3) := by decide +kernel
theorem dX4_reads_76 : decode cX4_reads 76 = .ok (.aload_n 0, 1) := by decide +kernel
theorem dX4_reads_77 : decode cX4_reads 77 = .ok (.aload_n 0, 1) := by decide +kernel
theorem dX4_reads_78 : decode cX4_reads 78 = .ok (.getfield 155, 3) := by decide +kernel
theorem dX4_reads_81 : decode cX4_reads 81 = .ok (.bipush 97, 2) := by decide +kernel
theorem dX4_reads_83 : decode cX4_reads 83 = .ok (.bipush 122, 2) := by decide +kernel
theorem dX4_reads_85 : decode cX4_reads 85 = .ok (.invokevirtual 161, 3) := by decide +kernel
theorem dX4_reads_88 : decode cX4_reads 88 = .ok (.ifCond .eq 16, 3) := by decide +kernel
theorem dX4_reads_91 : decode cX4_reads 91 = .ok (.aload_n 0, 1) := by decide +kernel
theorem dX4_reads_92 : decode cX4_reads 92 = .ok (.dup, 1) := by decide +kernel
theorem dX4_reads_93 : decode cX4_reads 93 = .ok (.getfield 155, 3) := by decide +kernel
theorem dX4_reads_96 : decode cX4_reads 96 = .ok (.iconst 1, 1) := by decide +kernel
theorem dX4_reads_97 : decode cX4_reads 97 = .ok (.iadd, 1) := by decide +kernel
theorem dX4_reads_98 : decode cX4_reads 98 = .ok (.putfield 155, 3) := by decide +kernel
theorem dX4_reads_101 : decode cX4_reads 101 = .ok (.goto (-25), 3) := by decide +kernel
theorem dX4_reads_104 : decode cX4_reads 104 = .ok (.aload_n 0, 1) := by decide +kernel
theorem dX4_reads_105 : decode cX4_reads 105 = .ok (.aload_n 0, 1) := by decide +kernel
theorem dX4_reads_106 : decode cX4_reads 106 = .ok (.invokevirtual 171, 3) := by decide +kernel
theorem dX4_reads_109 : decode cX4_reads 109 = .ok (.putfield 168, 3) := by decide +kernel
theorem dX4_reads_112 : decode cX4_reads 112 = .ok (.goto 132, 3) := by decide +kernel
theorem dX4_reads_115 : decode cX4_reads 115 = .ok (.aload_n 0, 1) := by decide +kernel
theorem dX4_reads_116 : decode cX4_reads 116 = .ok (.aload_n 0, 1) := by decide +kernel
theorem dX4_reads_117 : decode cX4_reads 117 = .ok (.getfield 155, 3) := by decide +kernel
theorem dX4_reads_120 : decode cX4_reads 120 = .ok (.bipush 48, 2) := by decide +kernel
theorem dX4_reads_122 : decode cX4_reads 122 = .ok (.bipush 57, 2) := by decide +kernel
theorem dX4_reads_124 : decode cX4_reads 124 = .ok (.invokevirtual 161, 3) := by decide +kernel
theorem dX4_reads_127 : decode cX4_reads 127 = .ok (.ifCond .eq 81, 3) := by decide +kernel
theorem dX4_reads_130 : decode cX4_reads 130 = .ok (.aload_n 0, 1) := by decide +kernel
theorem dX4_reads_131 : decode cX4_reads 131 = .ok (.aload_n 0, 1) := by decide +kernel
theorem dX4_reads_132 : decode cX4_reads 132 = .ok (.getfield 155, 3) := by decide +kernel
theorem dX4_reads_135 : decode cX4_reads 135 = .ok (.bipush 48, 2) := by decide +kernel
theorem dX4_reads_137 : decode cX4_reads 137 = .ok (.bipush 57, 2) := by decide +kernel
theorem dX4_reads_139 : decode cX4_reads 139 = .ok (.invokevirtual 161, 3) := by decide +kernel
theorem dX4_reads_142 : decode cX4_reads 142 = .ok (.ifCond .eq 57, 3) := by decide +kernel
theorem dX4_reads_145 : decode cX4_reads 145 = .ok (.aload_n 0, 1) := by decide +kernel
theorem dX4_reads_146 : decode cX4_reads 146 = .ok (.aload_n 0, 1) := by decide +kernel
theorem dX4_reads_147 : decode cX4_reads 147 = .ok (.getfield 165, 3) := by decide +kernel
theorem dX4_reads_150 : decode cX4_reads 150 = .ok (.sipush 999, 3) := by decide +kernel
theorem dX4_reads_153 : decode cX4_reads 153 = .ok (.if_icmp .le 10, 3) := by decide +kernel
theorem dX4_reads_156 : decode cX4_reads 156 = .ok (.aload_n 0, 1) := by decide +kernel
theorem dX4_reads_157 : decode cX4_reads 157 = .ok (.getfield 165, 3) := by decide +kernel
theorem dX4_reads_160 : decode cX4_reads 160 = .ok (.goto 23, 3) := by decide +kernel
theorem dX4_reads_163 : decode cX4_reads 163 = .ok (.bipush 10, 2) := by decide +kernel
theorem dX4_reads_165 : decode cX4_reads 165 = .ok (.aload_n 0, 1) := by decide +kernel
theorem dX4_reads_166 : decode cX4_reads 166 = .ok (.getfield 165, 3) := by decide +kernel
theorem dX4_reads_169 : decode cX4_reads 169 = .ok (.imul, 1) := by decide +kernel
theorem dX4_reads_170 : decode cX4_reads 170 = .ok (.aload_n 0, 1) := by decide +kernel
theorem dX4_reads_171 : decode cX4_reads 171 = .ok (.getfield 22, 3) := by decide +kernel
theorem dX4_reads_174 : decode cX4_reads 174 = .ok (.aload_n 0, 1) := by decide +kernel
theorem dX4_reads_175 : decode cX4_reads 175 = .ok (.getfield 155, 3) := by decide +kernel
theorem dX4_reads_178 : decode cX4_reads 178 = .ok (.iaload, 1) := by decide +kernel
theorem dX4_reads_179 : decode cX4_reads 179 = .ok (.iadd, 1) := by decide +kernel
theorem dX4_reads_180 : decode cX4_reads 180 = .ok (.bipush 48, 2) := by decide +kernel
theorem dX4_reads_182 : decode cX4_reads 182 = .ok (.isub, 1) := by decide +kernel
theorem dX4_reads_183 : decode cX4_reads 183 = .ok (.putfield 165, 3) := by decide +kernel
theorem dX4_reads_186 : decode cX4_reads 186 = .ok (.aload_n 0, 1) := by decide +kernel
theorem dX4_reads_187 : decode cX4_reads 187 = .ok (.dup, 1) := by decide +kernel
theorem dX4_reads_188 : decode cX4_reads 188 = .ok (.getfield 155, 3) := by decide +kernel
theorem dX4_reads_191 : decode cX4_reads 191 = .ok (.iconst 1, 1) := by decide +kernel
theorem dX4_reads_192 : decode cX4_reads 192 = .ok (.iadd, 1) := by decide +kernel
theorem dX4_reads_193 : decode cX4_reads 193 = .ok (.putfield 155, 3) := by decide +kernel
theorem dX4_reads_196 : decode cX4_reads 196 = .ok (.goto (-66), 3) := by decide +kernel
theorem dX4_reads_199 : decode cX4_reads 199 = .ok (.aload_n 0, 1) := by decide +kernel
theorem dX4_reads_200 : decode cX4_reads 200 = .ok (.bipush 20, 2) := by decide +kernel
theorem dX4_reads_202 : decode cX4_reads 202 = .ok (.putfield 168, 3) := by decide +kernel
theorem dX4_reads_205 : decode cX4_reads 205 = .ok (.goto 39, 3) := by decide +kernel
theorem dX4_reads_208 : decode cX4_reads 208 = .ok (.aload_n 0, 1) := by decide +kernel
theorem dX4_reads_209 : decode cX4_reads 209 = .ok (.aload_n 0, 1) := by decide +kernel
theorem dX4_reads_210 : decode cX4_reads 210 = .ok (.aload_n 0, 1) := by decide +kernel
theorem dX4_reads_211 : decode cX4_reads 211 = .ok (.getfield 155, 3) := by decide +kernel
theorem dX4_reads_214 : decode cX4_reads 214 = .ok (.bipush 59, 2) := by decide +kernel
theorem dX4_reads_216 : decode cX4_reads 216 = .ok (.bipush 59, 2) := by decide +kernel
theorem dX4_reads_218 : decode cX4_reads 218 = .ok (.invokevirtual 161, 3) := by decide +kernel
theorem dX4_reads_221 : decode cX4_reads 221 = .ok (.ifCond .eq 8, 3) := by decide +kernel
theorem dX4_reads_224 : decode cX4_reads 224 = .ok (.bipush 21, 2) := by decide +kernel
theorem dX4_reads_226 : decode cX4_reads 226 = .ok (.goto 5, 3) := by decide +kernel
theorem dX4_reads_229 : decode cX4_reads 229 = .ok (.bipush 23, 2) := by decide +kernel
theorem dX4_reads_231 : decode cX4_reads 231 = .ok (.putfield 168, 3) := by decide +kernel
theorem dX4_reads_234 : decode cX4_reads 234 = .ok (.aload_n 0, 1) := by decide +kernel
theorem dX4_reads_235 : decode cX4_reads 235 = .ok (.dup, 1) := by decide +kernel
theorem dX4_reads_236 : decode cX4_reads 236 = .ok (.getfield 155, 3) := by decide +kernel
theorem dX4_reads_239 : decode cX4_reads 239 = .ok (.iconst 1, 1) := by decide +kernel
theorem dX4_reads_240 : decode cX4_reads 240 = .ok (.iadd, 1) := by decide +kernel
theorem dX4_reads_241 : decode cX4_reads 241 = .ok (.putfield 155, 3) := by decide +kernel
theorem dX4_reads_244 : decode cX4_reads 244 = .ok (.return_, 1) := by decide +kernel
set_option maxRecDepth 20000 in
theorem ggX4_passes_X4_reads : GoodIn wsX4_passes wsX4_reads := goodIn_r _ [7, 8, 9, 10, 11, 2, 12, 13, 14, 15, 6, 16, 17, 18, 19, 20, 21, 22, 23, 24, 25, 26, 27, 28, 29, 30, 31, 32, 33, 34, 35, 36, 37, 38, 39, 40, 41, 42, 43, 44] rfl (by decide +kernel)
set_option maxRecDepth 20000 in
theorem gX4_passes_X4_reads : GoodIn wsX4_passes (wsV RX4 178 RX4 yX4_reads wsX4_reads) := goodIn_app (goodIn_of _ (by decide +kernel)) ggX4_passes_X4_reads
theorem dX4_passes_0 : decode cX4_passes 0 = .ok (.aload_n 0, 1) := by decide +kernel
theorem dX4_passes_1 : decode cX4_passes 1 = .ok (.getfield 174, 3) := by decide +kernel
theorem dX4_passes_4 : decode cX4_passes 4 = .ok (.ifCond .ne 11, 3) := by decide +kernel
theorem dX4_passes_7 : decode cX4_passes 7 = .ok (.aload_n 0, 1) := by decide +kernel
theorem dX4_passes_8 : decode cX4_passes 8 = .ok (.getfield 168, 3) := by decide +kernel
theorem dX4_passes_11 : decode cX4_passes 11 = .ok (.iload_n 1, 1) := by decide +kernel
theorem dX4_passes_12 : decode cX4_passes 12 = .ok (.if_icmp .eq 5, 3) := by decide +kernel
theorem dX4_passes_15 : decode cX4_passes 15 = .ok (.iconst 0, 1) := by decide +kernel
theorem dX4_passes_16 : decode cX4_passes 16 = .ok (.ireturn, 1) := by decide +kernel
theorem dX4_passes_17 : decode cX4_passes 17 = .ok (.aload_n 0, 1) := by decide +kernel
theorem dX4_passes_18 : decode cX4_passes 18 = .ok (.invokevirtual 178, 3) := by decide +kernel
theorem dX4_passes_21 : decode cX4_passes 21 = .ok (.iconst 1, 1) := by decide +kernel
theorem dX4_passes_22 : decode cX4_passes 22 = .ok (.ireturn, 1) := by decide +kernel
set_option maxRecDepth 20000 in
theorem ggX4_number_X4_in : GoodIn wsX4_number wsX4_in := goodIn_r _ [7] rfl (by decide +kernel)
set_option maxRecDepth 20000 in
theorem gX4_number_X4_in : GoodIn wsX4_number (va_wsS RX4 41 yX4_in wsX4_in) := goodIn_app (goodIn_of _ (by decide +kernel)) ggX4_number_X4_in
set_option maxRecDepth 20000 in
theorem ggX4_number_X4_reads : GoodIn wsX4_number wsX4_reads := goodIn_r _ [11, 12, 13, 1, 14, 3, 15, 16, 17, 18, 6, 19, 4, 5, 7, 20, 21, 22, 23, 24, 25, 26, 27, 28, 29, 30, 31, 32, 33, 34, 35, 36, 37, 38, 39, 40, 41, 42, 43, 44] rfl (by decide +kernel)
set_option maxRecDepth 20000 in
theorem gX4_number_X4_reads : GoodIn wsX4_number (wsV RX4 178 RX4 yX4_reads wsX4_reads) := goodIn_app (goodIn_of _ (by decide +kernel)) ggX4_number_X4_reads
theorem dX4_number_0 : decode cX4_number 0 = .ok (.aload_n 0, 1) := by decide +kernel
theorem dX4_number_1 : decode cX4_number 1 = .ok (.getfield 165, 3) := by decide +kernel
theorem dX4_number_4 : decode cX4_number 4 = .ok (.istore_n 3, 1) := by decide +kernel
theorem dX4_number_5 : decode cX4_number 5 = .ok (.aload_n 0, 1) := by decide +kernel
theorem dX4_number_6 : decode cX4_number 6 = .ok (.aload_n 0, 1) := by decide +kernel
theorem dX4_number_7 : decode cX4_number 7 = .ok (.getfield 174, 3) := by decide +kernel
theorem dX4_number_10 : decode cX4_number 10 = .ok (.ifCond .ne 22, 3) := by decide +kernel
theorem dX4_number_13 : decode cX4_number 13 = .ok (.aload_n 0, 1) := by decide +kernel
theorem dX4_number_14 : decode cX4_number 14 = .ok (.getfield 168, 3) := by decide +kernel
theorem dX4_number_17 : decode cX4_number 17 = .ok (.bipush 20, 2) := by decide +kernel
theorem dX4_number_19 : decode cX4_number 19 = .ok (.if_icmp .ne 13, 3) := by decide +kernel
theorem dX4_number_22 : decode cX4_number 22 = .ok (.iload_n 3, 1) := by decide +kernel
theorem dX4_number_23 : decode cX4_number 23 = .ok (.i2l, 1) := by decide +kernel
theorem dX4_number_24 : decode cX4_number 24 = .ok (.iload_n 1, 1) := by decide +kernel
theorem dX4_number_25 : decode cX4_number 25 = .ok (.iload_n 2, 1) := by decide +kernel
theorem dX4_number_26 : decode cX4_number 26 = .ok (.invokestatic 41, 3) := by decide +kernel
theorem dX4_number_29 : decode cX4_number 29 = .ok (.ifCond .ne 7, 3) := by decide +kernel
theorem dX4_number_32 : decode cX4_number 32 = .ok (.iconst 1, 1) := by decide +kernel
theorem dX4_number_33 : decode cX4_number 33 = .ok (.goto 4, 3) := by decide +kernel
theorem dX4_number_36 : decode cX4_number 36 = .ok (.iconst 0, 1) := by decide +kernel
theorem dX4_number_37 : decode cX4_number 37 = .ok (.putfield 174, 3) := by decide +kernel
theorem dX4_number_40 : decode cX4_number 40 = .ok (.aload_n 0, 1) := by decide +kernel
theorem dX4_number_41 : decode cX4_number 41 = .ok (.getfield 174, 3) := by decide +kernel
theorem dX4_number_44 : decode cX4_number 44 = .ok (.ifCond .ne 7, 3) := by decide +kernel
theorem dX4_number_47 : decode cX4_number 47 = .ok (.aload_n 0, 1) := by decide +kernel
theorem dX4_number_48 : decode cX4_number 48 = .ok (.invokevirtual 178, 3) := by decide +kernel
theorem dX4_number_51 : decode cX4_number 51 = .ok (.iload_n 3, 1) := by decide +kernel
theorem dX4_number_52 : decode cX4_number 52 = .ok (.ireturn, 1) := by decide +kernel
set_option maxRecDepth 20000 in
theorem ggX4_perhaps_X4_passes : GoodIn wsX4_perhaps wsX4_passes := goodIn_r _ [5, 6, 7, 8, 9, 10, 4, 11, 12, 13, 14, 15, 16, 17, 18, 19, 20, 21, 22, 23, 24, 25, 26, 27, 28, 29, 30, 31, 32, 37, 38, 39, 40, 41, 42, 43, 44, 45, 46, 47, 48, 49, 50, 51, 52] rfl (by decide +kernel)
set_option maxRecDepth 20000 in
theorem gX4_perhaps_X4_passes : GoodIn wsX4_perhaps (wsV RX4 181 RX4 yX4_passes wsX4_passes) := goodIn_app (goodIn_of _ (by decide +kernel)) ggX4_perhaps_X4_passes
set_option maxRecDepth 20000 in
theorem ggX4_perhaps_X4_number : GoodIn wsX4_perhaps wsX4_number := goodIn_r _ [36, 14, 6, 7, 21, 22, 4, 23, 8, 9, 10, 11, 12, 13, 15, 16, 17, 18, 19, 20, 24, 25, 26, 27, 28, 29, 30, 31, 32, 37, 38, 39, 40, 41, 42, 43, 44, 45, 46, 47, 48, 49, 50, 51, 52] rfl (by decide +kernel)
set_option maxRecDepth 20000 in
theorem gX4_perhaps_X4_number : GoodIn wsX4_perhaps (wsV RX4 184 RX4 yX4_number wsX4_number) := goodIn_app (goodIn_of _ (by decide +kernel)) ggX4_perhaps_X4_number
theorem dX4_perhaps_0 : decode cX4_perhaps 0 = .ok (.aload_n 0, 1) := by decide +kernel
theorem dX4_perhaps_1 : decode cX4_perhaps 1 = .ok (.iload_n 1, 1) := by decide +kernel
theorem dX4_perhaps_2 : decode cX4_perhaps 2 = .ok (.invokevirtual 181, 3) := by decide +kernel
theorem dX4_perhaps_5 : decode cX4_perhaps 5 = .ok (.ifCond .eq 12, 3) := by decide +kernel
theorem dX4_perhaps_8 : decode cX4_perhaps 8 = .ok (.aload_n 0, 1) := by decide +kernel
theorem dX4_perhaps_9 : decode cX4_perhaps 9 = .ok (.iload_n 2, 1) := by decide +kernel
theorem dX4_perhaps_10 : decode cX4_perhaps 10 = .ok (.iload_n 3, 1) := by decide +kernel
theorem dX4_perhaps_11 : decode cX4_perhaps 11 = .ok (.invokevirtual 184, 3) := by decide +kernel
theorem dX4_perhaps_14 : decode cX4_perhaps 14 = .ok (.goto 5, 3) := by decide +kernel
theorem dX4_perhaps_17 : decode cX4_perhaps 17 = .ok (.iload 4, 2) := by decide +kernel
theorem dX4_perhaps_19 : decode cX4_perhaps 19 = .ok (.ireturn, 1) := by decide +kernel
set_option maxRecDepth 20000 in
theorem ggX4_tonguesTold_X4_number : GoodIn wsX4_tonguesTold wsX4_number := goodIn_r _ [7, 8, 1, 2, 9, 10, 6, 11, 12, 13, 14, 15, 16, 17, 18, 19, 20, 21, 22, 23, 24, 25, 26, 27, 28, 29, 30, 31, 32, 33, 34, 35, 36, 37, 38, 39, 40, 41, 42, 43, 44, 45, 46, 47, 48] rfl (by decide +kernel)
set_option maxRecDepth 20000 in
theorem gX4_tonguesTold_X4_number : GoodIn wsX4_tonguesTold (wsV RX4 184 RX4 yX4_number wsX4_number) := goodIn_app (goodIn_of _ (by decide +kernel)) ggX4_tonguesTold_X4_number
theorem dX4_tonguesTold_0 : decode cX4_tonguesTold 0 = .ok (.iconst 0, 1) := by decide +kernel
theorem dX4_tonguesTold_1 : decode cX4_tonguesTold 1 = .ok (.istore_n 1, 1) := by decide +kernel
theorem dX4_tonguesTold_2 : decode cX4_tonguesTold 2 = .ok (.iconst 0, 1) := by decide +kernel
theorem dX4_tonguesTold_3 : decode cX4_tonguesTold 3 = .ok (.istore_n 2, 1) := by decide +kernel
theorem dX4_tonguesTold_4 : decode cX4_tonguesTold 4 = .ok (.aload_n 0, 1) := by decide +kernel
theorem dX4_tonguesTold_5 : decode cX4_tonguesTold 5 = .ok (.getfield 174, 3) := by decide +kernel
theorem dX4_tonguesTold_8 : decode cX4_tonguesTold 8 = .ok (.ifCond .ne 38, 3) := by decide +kernel
theorem dX4_tonguesTold_11 : decode cX4_tonguesTold 11 = .ok (.iload_n 2, 1) := by decide +kernel
theorem dX4_tonguesTold_12 : decode cX4_tonguesTold 12 = .ok (.iconst 4, 1) := by decide +kernel
theorem dX4_tonguesTold_13 : decode cX4_tonguesTold 13 = .ok (.if_icmp .ge 33, 3) := by decide +kernel
theorem dX4_tonguesTold_16 : decode cX4_tonguesTold 16 = .ok (.iload_n 2, 1) := by decide +kernel
theorem dX4_tonguesTold_17 : decode cX4_tonguesTold 17 = .ok (.ifCond .eq 12, 3) := by decide +kernel
theorem dX4_tonguesTold_20 : decode cX4_tonguesTold 20 = .ok (.aload_n 0, 1) := by decide +kernel
theorem dX4_tonguesTold_21 : decode cX4_tonguesTold 21 = .ok (.getfield 168, 3) := by decide +kernel
theorem dX4_tonguesTold_24 : decode cX4_tonguesTold 24 = .ok (.bipush 20, 2) := by decide +kernel
theorem dX4_tonguesTold_26 : decode cX4_tonguesTold 26 = .ok (.if_icmp .ne 20, 3) := by decide +kernel
theorem dX4_tonguesTold_29 : decode cX4_tonguesTold 29 = .ok (.iload_n 1, 1) := by decide +kernel
theorem dX4_tonguesTold_30 : decode cX4_tonguesTold 30 = .ok (.iconst 1, 1) := by decide +kernel
theorem dX4_tonguesTold_31 : decode cX4_tonguesTold 31 = .ok (.aload_n 0, 1) := by decide +kernel
theorem dX4_tonguesTold_32 : decode cX4_tonguesTold 32 = .ok (.iconst 0, 1) := by decide +kernel
theorem dX4_tonguesTold_33 : decode cX4_tonguesTold 33 = .ok (.iconst 3, 1) := by decide +kernel
theorem dX4_tonguesTold_34 : decode cX4_tonguesTold 34 = .ok (.invokevirtual 184, 3) := by decide +kernel
theorem dX4_tonguesTold_37 : decode cX4_tonguesTold 37 = .ok (.ishl, 1) := by decide +kernel
theorem dX4_tonguesTold_38 : decode cX4_tonguesTold 38 = .ok (.ior, 1) := by decide +kernel
theorem dX4_tonguesTold_39 : decode cX4_tonguesTold 39 = .ok (.istore_n 1, 1) := by decide +kernel
theorem dX4_tonguesTold_40 : decode cX4_tonguesTold 40 = .ok (.iinc 2 1, 3) := by decide +kernel
theorem dX4_tonguesTold_43 : decode cX4_tonguesTold 43 = .ok (.goto (-39), 3) := by decide +kernel
theorem dX4_tonguesTold_46 : decode cX4_tonguesTold 46 = .ok (.iload_n 1, 1) := by decide +kernel
theorem dX4_tonguesTold_47 : decode cX4_tonguesTold 47 = .ok (.ireturn, 1) := by decide +kernel
set_option maxRecDepth 20000 in
theorem ggX4_delegateItem_X4_reads : GoodIn wsX4_delegateItem wsX4_reads := goodIn_r _ [8, 9, 10, 11, 12, 1, 13, 14, 15, 16, 7, 17, 18, 19, 20, 21, 22, 23, 24, 25, 26, 27, 28, 29, 54, 55, 56, 57, 58, 59, 60, 61, 62, 63, 64, 65, 66, 67, 68, 69] rfl (by decide +kernel)
set_option maxRecDepth 20000 in
theorem gX4_delegateItem_X4_reads : GoodIn wsX4_delegateItem (wsV RX4 178 RX4 yX4_reads wsX4_reads) := goodIn_app (goodIn_of _ (by decide +kernel)) ggX4_delegateItem_X4_reads
set_option maxRecDepth 20000 in
theorem ggX4_delegateItem_X4_perhaps : GoodIn wsX4_delegateItem wsX4_perhaps := goodIn_r _ [33, 34, 35, 36, 7, 37, 3, 1, 4, 5, 6, 8, 9, 10, 11, 12, 13, 14, 15, 16, 17, 18, 19, 20, 21, 22, 23, 24, 25, 26, 27, 28, 29, 38, 39, 40, 41, 54, 55, 56, 57, 58, 59, 60, 61, 62, 63, 64, 65, 66, 67, 68, 69] rfl (by decide +kernel)
set_option maxRecDepth 20000 in
theorem gX4_delegateItem_X4_perhaps : GoodIn wsX4_delegateItem (wsV RX4 187 RX4 yX4_perhaps wsX4_perhaps) := goodIn_app (goodIn_of _ (by decide +kernel)) ggX4_delegateItem_X4_perhaps
set_option maxRecDepth 20000 in
theorem ggX4_delegateItem_X4_passes : GoodIn wsX4_delegateItem wsX4_passes := goodIn_r _ [37, 3, 1, 4, 5, 6, 7, 8, 9, 10, 11, 12, 13, 14, 15, 16, 17, 18, 19, 20, 21, 22, 23, 24, 25, 26, 27, 28, 29, 54, 55, 56, 57, 58, 59, 60, 61, 62, 63, 64, 65, 66, 67, 68, 69] rfl (by decide +kernel)
set_option maxRecDepth 20000 in
theorem gX4_delegateItem_X4_passes : GoodIn wsX4_delegateItem (wsV RX4 181 RX4 yX4_passes wsX4_passes) := goodIn_app (goodIn_of _ (by decide +kernel)) ggX4_delegateItem_X4_passes
set_option maxRecDepth 20000 in
theorem ggX4_delegateItem_X4_tonguesTold : GoodIn wsX4_delegateItem wsX4_tonguesTold := goodIn_r _ [45, 3, 1, 38, 39, 40, 7, 41, 11, 18, 19, 20, 4, 5, 6, 8, 9, 10, 12, 13, 14, 15, 16, 17, 21, 22, 23, 24, 25, 26, 27, 28, 29, 54, 55, 56, 57, 58, 59, 60, 61, 62, 63, 64, 65, 66, 67, 68, 69] rfl (by decide +kernel)
set_option maxRecDepth 20000 in
theorem gX4_delegateItem_X4_tonguesTold : GoodIn wsX4_delegateItem (wsV RX4 190 RX4 yX4_tonguesTold wsX4_tonguesTold) := goodIn_app (goodIn_of _ (by decide +kernel)) ggX4_delegateItem_X4_tonguesTold
set_option maxRecDepth 20000 in
theorem ggX4_delegateItem_X4_comesAs : GoodIn wsX4_delegateItem wsX4_comesAs := goodIn_r _ [49, 2, 50, 51, 52, 7, 53, 54, 55, 56, 57, 58, 59, 60, 61, 62, 63, 64, 65, 66, 67, 68, 69] rfl (by decide +kernel)
set_option maxRecDepth 20000 in
theorem gX4_delegateItem_X4_comesAs : GoodIn wsX4_delegateItem (wsV RX4 70 RX4 yX4_comesAs wsX4_comesAs) := goodIn_app (goodIn_of _ (by decide +kernel)) ggX4_delegateItem_X4_comesAs
theorem dX4_delegateItem_0 : decode cX4_delegateItem 0 = .ok (.aload_n 0, 1) := by decide +kernel
theorem dX4_delegateItem_1 : decode cX4_delegateItem 1 = .ok (.getfield 168, 3) := by decide +kernel
theorem dX4_delegateItem_4 : decode cX4_delegateItem 4 = .ok (.istore_n 1, 1) := by decide +kernel
theorem dX4_delegateItem_5 : decode cX4_delegateItem 5 = .ok (.aload_n 0, 1) := by decide +kernel
theorem dX4_delegateItem_6 : decode cX4_delegateItem 6 = .ok (.aload_n 0, 1) := by decide +kernel
theorem dX4_delegateItem_7 : decode cX4_delegateItem 7 = .ok (.getfield 9, 3) := by decide +kernel
theorem dX4_delegateItem_10 : decode cX4_delegateItem 10 = .ok (.iconst 1, 1) := by decide +kernel
theorem dX4_delegateItem_11 : decode cX4_delegateItem 11 = .ok (.iaload, 1) := by decide +kernel
theorem dX4_delegateItem_12 : decode cX4_delegateItem 12 = .ok (.bipush 8, 2) := by decide +kernel
theorem dX4_delegateItem_14 : decode cX4_delegateItem 14 = .ok (.if_icmp .ne 7, 3) := by decide +kernel
theorem dX4_delegateItem_17 : decode cX4_delegateItem 17 = .ok (.iconst 1, 1) := by decide +kernel
theorem dX4_delegateItem_18 : decode cX4_delegateItem 18 = .ok (.goto 4, 3) := by decide +kernel
theorem dX4_delegateItem_21 : decode cX4_delegateItem 21 = .ok (.iconst 0, 1) := by decide +kernel
theorem dX4_delegateItem_22 : decode cX4_delegateItem 22 = .ok (.putfield 174, 3) := by decide +kernel
theorem dX4_delegateItem_25 : decode cX4_delegateItem 25 = .ok (.aload_n 0, 1) := by decide +kernel
theorem dX4_delegateItem_26 : decode cX4_delegateItem 26 = .ok (.getfield 174, 3) := by decide +kernel
theorem dX4_delegateItem_29 : decode cX4_delegateItem 29 = .ok (.ifCond .eq 4, 3) := by decide +kernel
theorem dX4_delegateItem_32 : decode cX4_delegateItem 32 = .ok (.return_, 1) := by decide +kernel
theorem dX4_delegateItem_33 : decode cX4_delegateItem 33 = .ok (.aload_n 0, 1) := by decide +kernel
theorem dX4_delegateItem_34 : decode cX4_delegateItem 34 = .ok (.invokevirtual 178, 3) := by decide +kernel
theorem dX4_delegateItem_37 : decode cX4_delegateItem 37 = .ok (.aload_n 0, 1) := by decide +kernel
theorem dX4_delegateItem_38 : decode cX4_delegateItem 38 = .ok (.bipush 6, 2) := by decide +kernel
theorem dX4_delegateItem_40 : decode cX4_delegateItem 40 = .ok (.iconst 0, 1) := by decide +kernel
theorem dX4_delegateItem_41 : decode cX4_delegateItem 41 = .ok (.bipush 20, 2) := by decide +kernel
theorem dX4_delegateItem_43 : decode cX4_delegateItem 43 = .ok (.iconst 5, 1) := by decide +kernel
theorem dX4_delegateItem_44 : decode cX4_delegateItem 44 = .ok (.invokevirtual 187, 3) := by decide +kernel
theorem dX4_delegateItem_47 : decode cX4_delegateItem 47 = .ok (.istore_n 2, 1) := by decide +kernel
theorem dX4_delegateItem_48 : decode cX4_delegateItem 48 = .ok (.aload_n 0, 1) := by decide +kernel
theorem dX4_delegateItem_49 : decode cX4_delegateItem 49 = .ok (.bipush 7, 2) := by decide +kernel
theorem dX4_delegateItem_51 : decode cX4_delegateItem 51 = .ok (.invokevirtual 181, 3) := by decide +kernel
theorem dX4_delegateItem_54 : decode cX4_delegateItem 54 = .ok (.ifCond .eq 10, 3) := by decide +kernel
theorem dX4_delegateItem_57 : decode cX4_delegateItem 57 = .ok (.aload_n 0, 1) := by decide +kernel
theorem dX4_delegateItem_58 : decode cX4_delegateItem 58 = .ok (.invokevirtual 190, 3) := by decide +kernel
theorem dX4_delegateItem_61 : decode cX4_delegateItem 61 = .ok (.goto 4, 3) := by decide +kernel
theorem dX4_delegateItem_64 : decode cX4_delegateItem 64 = .ok (.iconst 1, 1) := by decide +kernel
theorem dX4_delegateItem_65 : decode cX4_delegateItem 65 = .ok (.istore_n 3, 1) := by decide +kernel
theorem dX4_delegateItem_66 : decode cX4_delegateItem 66 = .ok (.aload_n 0, 1) := by decide +kernel
theorem dX4_delegateItem_67 : decode cX4_delegateItem 67 = .ok (.getfield 174, 3) := by decide +kernel
theorem dX4_delegateItem_70 : decode cX4_delegateItem 70 = .ok (.ifCond .ne 12, 3) := by decide +kernel
theorem dX4_delegateItem_73 : decode cX4_delegateItem 73 = .ok (.aload_n 0, 1) := by decide +kernel
theorem dX4_delegateItem_74 : decode cX4_delegateItem 74 = .ok (.iload_n 1, 1) := by decide +kernel
theorem dX4_delegateItem_75 : decode cX4_delegateItem 75 = .ok (.iload_n 2, 1) := by decide +kernel
theorem dX4_delegateItem_76 : decode cX4_delegateItem 76 = .ok (.iload_n 3, 1) := by decide +kernel
theorem dX4_delegateItem_77 : decode cX4_delegateItem 77 = .ok (.invokevirtual 70, 3) := by decide +kernel
theorem dX4_delegateItem_80 : decode cX4_delegateItem 80 = .ok (.istore 4, 2) := by decide +kernel
theorem dX4_delegateItem_82 : decode cX4_delegateItem 82 = .ok (.return_, 1) := by decide +kernel
set_option maxRecDepth 20000 in
theorem ggX4_speechItem_X4_reads : GoodIn wsX4_speechItem wsX4_reads := goodIn_r _ [7, 8, 9, 10, 11, 12, 13, 14, 15, 16, 6, 17, 18, 19, 20, 21, 22, 23, 24, 25, 26, 27, 28, 29, 46, 47, 48, 49, 50, 51, 52, 53, 54, 55, 56, 57, 58, 59, 60, 61] rfl (by decide +kernel)
set_option maxRecDepth 20000 in
theorem gX4_speechItem_X4_reads : GoodIn wsX4_speechItem (wsV RX4 178 RX4 yX4_reads wsX4_reads) := goodIn_app (goodIn_of _ (by decide +kernel)) ggX4_speechItem_X4_reads
set_option maxRecDepth 20000 in
theorem ggX4_speechItem_X4_number : GoodIn wsX4_speechItem wsX4_number := goodIn_r _ [33, 10, 2, 12, 18, 19, 6, 20, 3, 4, 5, 7, 8, 9, 11, 13, 14, 15, 16, 17, 21, 22, 23, 24, 25, 26, 27, 28, 29, 46, 47, 48, 49, 50, 51, 52, 53, 54, 55, 56, 57, 58, 59, 60, 61] rfl (by decide +kernel)
set_option maxRecDepth 20000 in
theorem gX4_speechItem_X4_number : GoodIn wsX4_speechItem (wsV RX4 184 RX4 yX4_number wsX4_number) := goodIn_app (goodIn_of _ (by decide +kernel)) ggX4_speechItem_X4_number
set_option maxRecDepth 20000 in
theorem ggX4_speechItem_X4_perhaps : GoodIn wsX4_speechItem wsX4_perhaps := goodIn_r _ [37, 38, 39, 40, 6, 41, 2, 12, 3, 4, 5, 7, 8, 9, 10, 11, 13, 14, 15, 16, 17, 18, 19, 20, 21, 22, 23, 24, 25, 26, 27, 28, 29, 30, 31, 32, 33, 46, 47, 48, 49, 50, 51, 52, 53, 54, 55, 56, 57, 58, 59, 60, 61] rfl (by decide +kernel)
set_option maxRecDepth 20000 in
theorem gX4_speechItem_X4_perhaps : GoodIn wsX4_speechItem (wsV RX4 187 RX4 yX4_perhaps wsX4_perhaps) := goodIn_app (goodIn_of _ (by decide +kernel)) ggX4_speechItem_X4_perhaps
set_option maxRecDepth 20000 in
theorem ggX4_speechItem_X4_isHeld : GoodIn wsX4_speechItem wsX4_isHeld := goodIn_r _ [45, 1, 46, 47, 48, 49, 50, 51, 52, 53, 54, 55, 56, 57, 58, 59, 60, 61] rfl (by decide +kernel)
set_option maxRecDepth 20000 in
theorem gX4_speechItem_X4_isHeld : GoodIn wsX4_speechItem (wsV RX4 92 RX4 yX4_isHeld wsX4_isHeld) := goodIn_app (goodIn_of _ (by decide +kernel)) ggX4_speechItem_X4_isHeld
theorem dX4_speechItem_0 : decode cX4_speechItem 0 = .ok (.aload_n 0, 1) := by decide +kernel
theorem dX4_speechItem_1 : decode cX4_speechItem 1 = .ok (.aload_n 0, 1) := by decide +kernel
theorem dX4_speechItem_2 : decode cX4_speechItem 2 = .ok (.getfield 9, 3) := by decide +kernel
theorem dX4_speechItem_5 : decode cX4_speechItem 5 = .ok (.iconst 2, 1) := by decide +kernel
theorem dX4_speechItem_6 : decode cX4_speechItem 6 = .ok (.iaload, 1) := by decide +kernel
theorem dX4_speechItem_7 : decode cX4_speechItem 7 = .ok (.bipush 8, 2) := by decide +kernel
theorem dX4_speechItem_9 : decode cX4_speechItem 9 = .ok (.if_icmp .ne 7, 3) := by decide +kernel
theorem dX4_speechItem_12 : decode cX4_speechItem 12 = .ok (.iconst 1, 1) := by decide +kernel
theorem dX4_speechItem_13 : decode cX4_speechItem 13 = .ok (.goto 4, 3) := by decide +kernel
theorem dX4_speechItem_16 : decode cX4_speechItem 16 = .ok (.iconst 0, 1) := by decide +kernel
theorem dX4_speechItem_17 : decode cX4_speechItem 17 = .ok (.putfield 174, 3) := by decide +kernel
theorem dX4_speechItem_20 : decode cX4_speechItem 20 = .ok (.aload_n 0, 1) := by decide +kernel
theorem dX4_speechItem_21 : decode cX4_speechItem 21 = .ok (.getfield 174, 3) := by decide +kernel
theorem dX4_speechItem_24 : decode cX4_speechItem 24 = .ok (.ifCond .eq 4, 3) := by decide +kernel
theorem dX4_speechItem_27 : decode cX4_speechItem 27 = .ok (.return_, 1) := by decide +kernel
theorem dX4_speechItem_28 : decode cX4_speechItem 28 = .ok (.aload_n 0, 1) := by decide +kernel
theorem dX4_speechItem_29 : decode cX4_speechItem 29 = .ok (.invokevirtual 178, 3) := by decide +kernel
theorem dX4_speechItem_32 : decode cX4_speechItem 32 = .ok (.aload_n 0, 1) := by decide +kernel
theorem dX4_speechItem_33 : decode cX4_speechItem 33 = .ok (.iconst 0, 1) := by decide +kernel
theorem dX4_speechItem_34 : decode cX4_speechItem 34 = .ok (.aload_n 0, 1) := by decide +kernel
theorem dX4_speechItem_35 : decode cX4_speechItem 35 = .ok (.getfield 9, 3) := by decide +kernel
theorem dX4_speechItem_38 : decode cX4_speechItem 38 = .ok (.iconst 1, 1) := by decide +kernel
theorem dX4_speechItem_39 : decode cX4_speechItem 39 = .ok (.iaload, 1) := by decide +kernel
theorem dX4_speechItem_40 : decode cX4_speechItem 40 = .ok (.iconst 1, 1) := by decide +kernel
theorem dX4_speechItem_41 : decode cX4_speechItem 41 = .ok (.isub, 1) := by decide +kernel
theorem dX4_speechItem_42 : decode cX4_speechItem 42 = .ok (.invokevirtual 184, 3) := by decide +kernel
theorem dX4_speechItem_45 : decode cX4_speechItem 45 = .ok (.istore_n 1, 1) := by decide +kernel
theorem dX4_speechItem_46 : decode cX4_speechItem 46 = .ok (.aload_n 0, 1) := by decide +kernel
theorem dX4_speechItem_47 : decode cX4_speechItem 47 = .ok (.iconst 0, 1) := by decide +kernel
theorem dX4_speechItem_48 : decode cX4_speechItem 48 = .ok (.iconst 3, 1) := by decide +kernel
theorem dX4_speechItem_49 : decode cX4_speechItem 49 = .ok (.invokevirtual 184, 3) := by decide +kernel
theorem dX4_speechItem_52 : decode cX4_speechItem 52 = .ok (.istore_n 2, 1) := by decide +kernel
theorem dX4_speechItem_53 : decode cX4_speechItem 53 = .ok (.aload_n 0, 1) := by decide +kernel
theorem dX4_speechItem_54 : decode cX4_speechItem 54 = .ok (.iconst 0, 1) := by decide +kernel
theorem dX4_speechItem_55 : decode cX4_speechItem 55 = .ok (.bipush 99, 2) := by decide +kernel
theorem dX4_speechItem_57 : decode cX4_speechItem 57 = .ok (.invokevirtual 184, 3) := by decide +kernel
theorem dX4_speechItem_60 : decode cX4_speechItem 60 = .ok (.istore_n 3, 1) := by decide +kernel
theorem dX4_speechItem_61 : decode cX4_speechItem 61 = .ok (.aload_n 0, 1) := by decide +kernel
theorem dX4_speechItem_62 : decode cX4_speechItem 62 = .ok (.bipush 9, 2) := by decide +kernel
theorem dX4_speechItem_64 : decode cX4_speechItem 64 = .ok (.iconst 0, 1) := by decide +kernel
theorem dX4_speechItem_65 : decode cX4_speechItem 65 = .ok (.aload_n 0, 1) := by decide +kernel
theorem dX4_speechItem_66 : decode cX4_speechItem 66 = .ok (.getfield 9, 3) := by decide +kernel
theorem dX4_speechItem_69 : decode cX4_speechItem 69 = .ok (.iconst 1, 1) := by decide +kernel
theorem dX4_speechItem_70 : decode cX4_speechItem 70 = .ok (.iaload, 1) := by decide +kernel
theorem dX4_speechItem_71 : decode cX4_speechItem 71 = .ok (.iconst 1, 1) := by decide +kernel
theorem dX4_speechItem_72 : decode cX4_speechItem 72 = .ok (.isub, 1) := by decide +kernel
theorem dX4_speechItem_73 : decode cX4_speechItem 73 = .ok (.iconst (-1), 1) := by decide +kernel
theorem dX4_speechItem_74 : decode cX4_speechItem 74 = .ok (.invokevirtual 187, 3) := by decide +kernel
theorem dX4_speechItem_77 : decode cX4_speechItem 77 = .ok (.istore 4, 2) := by decide +kernel
theorem dX4_speechItem_79 : decode cX4_speechItem 79 = .ok (.aload_n 0, 1) := by decide +kernel
theorem dX4_speechItem_80 : decode cX4_speechItem 80 = .ok (.getfield 174, 3) := by decide +kernel
theorem dX4_speechItem_83 : decode cX4_speechItem 83 = .ok (.ifCond .ne 14, 3) := by decide +kernel
theorem dX4_speechItem_86 : decode cX4_speechItem 86 = .ok (.aload_n 0, 1) := by decide +kernel
theorem dX4_speechItem_87 : decode cX4_speechItem 87 = .ok (.iload_n 1, 1) := by decide +kernel
theorem dX4_speechItem_88 : decode cX4_speechItem 88 = .ok (.iload_n 2, 1) := by decide +kernel
theorem dX4_speechItem_89 : decode cX4_speechItem 89 = .ok (.iload 4, 2) := by decide +kernel
theorem dX4_speechItem_91 : decode cX4_speechItem 91 = .ok (.iload_n 3, 1) := by decide +kernel
theorem dX4_speechItem_92 : decode cX4_speechItem 92 = .ok (.invokevirtual 92, 3) := by decide +kernel
theorem dX4_speechItem_95 : decode cX4_speechItem 95 = .ok (.istore 5, 2) := by decide +kernel
theorem dX4_speechItem_97 : decode cX4_speechItem 97 = .ok (.return_, 1) := by decide +kernel
set_option maxRecDepth 20000 in
theorem ggX4_item_X4_delegateItem : GoodIn wsX4_item wsX4_delegateItem := goodIn_r _ [7, 1, 8, 2, 9, 10, 11, 6, 12, 13, 14, 15, 16, 17, 18, 19, 20, 21, 22, 23, 24, 25, 26, 27, 28, 29, 30, 31, 32, 33, 34, 35, 36, 37, 38, 39, 40, 41, 42, 43, 44, 45, 46, 47, 48, 49, 50, 51, 52, 53, 54, 55, 56, 57, 66, 67, 68, 69, 70, 71, 72, 73, 74, 75, 76, 77, 78, 79, 80, 81] rfl (by decide +kernel)
set_option maxRecDepth 20000 in
theorem gX4_item_X4_delegateItem : GoodIn wsX4_item (wsV RX4 193 RX4 yX4_delegateItem wsX4_delegateItem) := goodIn_app (goodIn_of _ (by decide +kernel)) ggX4_item_X4_delegateItem
set_option maxRecDepth 20000 in
theorem ggX4_item_X4_speechItem : GoodIn wsX4_item wsX4_speechItem := goodIn_r _ [61, 8, 2, 9, 10, 11, 6, 12, 13, 14, 15, 16, 1, 17, 18, 19, 20, 21, 22, 23, 24, 25, 26, 27, 28, 29, 30, 31, 32, 33, 42, 43, 44, 45, 34, 35, 36, 37, 38, 39, 40, 41, 62, 63, 64, 65, 66, 67, 68, 69, 70, 71, 72, 73, 74, 75, 76, 77, 78, 79, 80, 81] rfl (by decide +kernel)
set_option maxRecDepth 20000 in
theorem gX4_item_X4_speechItem : GoodIn wsX4_item (wsV RX4 196 RX4 yX4_speechItem wsX4_speechItem) := goodIn_app (goodIn_of _ (by decide +kernel)) ggX4_item_X4_speechItem
theorem dX4_item_0 : decode cX4_item 0 = .ok (.aload_n 0, 1) := by decide +kernel
theorem dX4_item_1 : decode cX4_item 1 = .ok (.getfield 168, 3) := by decide +kernel
theorem dX4_item_4 : decode cX4_item 4 = .ok (.iconst 5, 1) := by decide +kernel
theorem dX4_item_5 : decode cX4_item 5 = .ok (.if_icmp .gt 10, 3) := by decide +kernel
theorem dX4_item_8 : decode cX4_item 8 = .ok (.aload_n 0, 1) := by decide +kernel
theorem dX4_item_9 : decode cX4_item 9 = .ok (.invokevirtual 193, 3) := by decide +kernel
theorem dX4_item_12 : decode cX4_item 12 = .ok (.goto 24, 3) := by decide +kernel
theorem dX4_item_15 : decode cX4_item 15 = .ok (.aload_n 0, 1) := by decide +kernel
theorem dX4_item_16 : decode cX4_item 16 = .ok (.getfield 168, 3) := by decide +kernel
theorem dX4_item_19 : decode cX4_item 19 = .ok (.bipush 8, 2) := by decide +kernel
theorem dX4_item_21 : decode cX4_item 21 = .ok (.if_icmp .ne 10, 3) := by decide +kernel
theorem dX4_item_24 : decode cX4_item 24 = .ok (.aload_n 0, 1) := by decide +kernel
theorem dX4_item_25 : decode cX4_item 25 = .ok (.invokevirtual 196, 3) := by decide +kernel
theorem dX4_item_28 : decode cX4_item 28 = .ok (.goto 8, 3) := by decide +kernel
theorem dX4_item_31 : decode cX4_item 31 = .ok (.aload_n 0, 1) := by decide +kernel
theorem dX4_item_32 : decode cX4_item 32 = .ok (.iconst 1, 1) := by decide +kernel
theorem dX4_item_33 : decode cX4_item 33 = .ok (.putfield 174, 3) := by decide +kernel
theorem dX4_item_36 : decode cX4_item 36 = .ok (.return_, 1) := by decide +kernel
set_option maxRecDepth 20000 in
theorem ggX4_congress_X4_thinks : GoodIn wsX4_congress wsX4_thinks := goodIn_r _ [10, 11, 12, 13, 14, 9, 15, 82, 83, 84, 85, 86, 87, 88, 89, 90, 91, 92, 93, 94, 95, 96, 97] rfl (by decide +kernel)
set_option maxRecDepth 20000 in
theorem gX4_congress_X4_thinks : GoodIn wsX4_congress (wsV RX4 131 RX4 yX4_thinks wsX4_thinks) := goodIn_app (goodIn_of _ (by decide +kernel)) ggX4_congress_X4_thinks
set_option maxRecDepth 20000 in
theorem ggX4_congress_X4_reads : GoodIn wsX4_congress wsX4_reads := goodIn_r _ [19, 1, 5, 20, 4, 3, 21, 22, 23, 24, 9, 25, 26, 27, 28, 29, 30, 31, 32, 33, 34, 35, 36, 37, 82, 83, 84, 85, 86, 87, 88, 89, 90, 91, 92, 93, 94, 95, 96, 97] rfl (by decide +kernel)
set_option maxRecDepth 20000 in
theorem gX4_congress_X4_reads : GoodIn wsX4_congress (wsV RX4 178 RX4 yX4_reads wsX4_reads) := goodIn_app (goodIn_of _ (by decide +kernel)) ggX4_congress_X4_reads
set_option maxRecDepth 20000 in
theorem ggX4_congress_X4_item : GoodIn wsX4_congress wsX4_item := goodIn_r _ [41, 3, 2, 42, 43, 44, 9, 45, 11, 16, 17, 18, 19, 1, 5, 20, 4, 21, 22, 23, 24, 25, 26, 27, 28, 29, 30, 31, 32, 33, 34, 35, 36, 37, 46, 47, 48, 49, 50, 51, 52, 53, 54, 55, 56, 57, 58, 59, 60, 61, 62, 63, 64, 65, 66, 67, 68, 69, 70, 71, 72, 73, 74, 75, 76, 77, 82, 83, 84, 85, 86, 87, 88, 89, 90, 91, 92, 93, 94, 95, 96, 97] rfl (by decide +kernel)
set_option maxRecDepth 20000 in
theorem gX4_congress_X4_item : GoodIn wsX4_congress (wsV RX4 199 RX4 yX4_item wsX4_item) := goodIn_app (goodIn_of _ (by decide +kernel)) ggX4_congress_X4_item
set_option maxRecDepth 20000 in
theorem ggX4_congress_X4_passes : GoodIn wsX4_congress wsX4_passes := goodIn_r _ [53, 2, 3, 16, 17, 18, 9, 19, 1, 5, 20, 4, 21, 22, 23, 24, 25, 26, 27, 28, 29, 30, 31, 32, 33, 34, 35, 36, 37, 82, 83, 84, 85, 86, 87, 88, 89, 90, 91, 92, 93, 94, 95, 96, 97] rfl (by decide +kernel)
set_option maxRecDepth 20000 in
theorem gX4_congress_X4_passes : GoodIn wsX4_congress (wsV RX4 181 RX4 yX4_passes wsX4_passes) := goodIn_app (goodIn_of _ (by decide +kernel)) ggX4_congress_X4_passes
set_option maxRecDepth 20000 in
theorem ggX4_congress_X4_putsBack : GoodIn wsX4_congress wsX4_putsBack := goodIn_r _ [81, 12, 11, 13, 14, 9, 15, 82, 83, 84, 85, 86, 87, 88, 89, 90, 91, 92, 93, 94, 95, 96, 97] rfl (by decide +kernel)
set_option maxRecDepth 20000 in
theorem gX4_congress_X4_putsBack : GoodIn wsX4_congress (wsV RX4 134 RX4 yX4_putsBack wsX4_putsBack) := goodIn_app (goodIn_of _ (by decide +kernel)) ggX4_congress_X4_putsBack
theorem dX4_congress_0 : decode cX4_congress 0 = .ok (.aload_n 0, 1) := by decide +kernel
theorem dX4_congress_1 : decode cX4_congress 1 = .ok (.invokevirtual 131, 3) := by decide +kernel
theorem dX4_congress_4 : decode cX4_congress 4 = .ok (.aload_n 0, 1) := by decide +kernel
theorem dX4_congress_5 : decode cX4_congress 5 = .ok (.iconst 0, 1) := by decide +kernel
theorem dX4_congress_6 : decode cX4_congress 6 = .ok (.putfield 155, 3) := by decide +kernel
theorem dX4_congress_9 : decode cX4_congress 9 = .ok (.aload_n 0, 1) := by decide +kernel
theorem dX4_congress_10 : decode cX4_congress 10 = .ok (.iconst 0, 1) := by decide +kernel
theorem dX4_congress_11 : decode cX4_congress 11 = .ok (.putfield 174, 3) := by decide +kernel
theorem dX4_congress_14 : decode cX4_congress 14 = .ok (.aload_n 0, 1) := by decide +kernel
theorem dX4_congress_15 : decode cX4_congress 15 = .ok (.invokevirtual 178, 3) := by decide +kernel
theorem dX4_congress_18 : decode cX4_congress 18 = .ok (.aload_n 0, 1) := by decide +kernel
theorem dX4_congress_19 : decode cX4_congress 19 = .ok (.invokevirtual 199, 3) := by decide +kernel
theorem dX4_congress_22 : decode cX4_congress 22 = .ok (.iconst 1, 1) := by decide +kernel
theorem dX4_congress_23 : decode cX4_congress 23 = .ok (.istore_n 1, 1) := by decide +kernel
theorem dX4_congress_24 : decode cX4_congress 24 = .ok (.aload_n 0, 1) := by decide +kernel
theorem dX4_congress_25 : decode cX4_congress 25 = .ok (.bipush 21, 2) := by decide +kernel
theorem dX4_congress_27 : decode cX4_congress 27 = .ok (.invokevirtual 181, 3) := by decide +kernel
theorem dX4_congress_30 : decode cX4_congress 30 = .ok (.ifCond .eq 13, 3) := by decide +kernel
theorem dX4_congress_33 : decode cX4_congress 33 = .ok (.aload_n 0, 1) := by decide +kernel
theorem dX4_congress_34 : decode cX4_congress 34 = .ok (.invokevirtual 199, 3) := by decide +kernel
theorem dX4_congress_37 : decode cX4_congress 37 = .ok (.iinc 1 1, 3) := by decide +kernel
theorem dX4_congress_40 : decode cX4_congress 40 = .ok (.goto (-16), 3) := by decide +kernel
theorem dX4_congress_43 : decode cX4_congress 43 = .ok (.aload_n 0, 1) := by decide +kernel
theorem dX4_congress_44 : decode cX4_congress 44 = .ok (.aload_n 0, 1) := by decide +kernel
theorem dX4_congress_45 : decode cX4_congress 45 = .ok (.getfield 174, 3) := by decide +kernel
theorem dX4_congress_48 : decode cX4_congress 48 = .ok (.ifCond .ne 12, 3) := by decide +kernel
theorem dX4_congress_51 : decode cX4_congress 51 = .ok (.aload_n 0, 1) := by decide +kernel
theorem dX4_congress_52 : decode cX4_congress 52 = .ok (.getfield 168, 3) := by decide +kernel
theorem dX4_congress_55 : decode cX4_congress 55 = .ok (.bipush 22, 2) := by decide +kernel
theorem dX4_congress_57 : decode cX4_congress 57 = .ok (.if_icmp .eq 7, 3) := by decide +kernel
theorem dX4_congress_60 : decode cX4_congress 60 = .ok (.iconst 1, 1) := by decide +kernel
theorem dX4_congress_61 : decode cX4_congress 61 = .ok (.goto 4, 3) := by decide +kernel
theorem dX4_congress_64 : decode cX4_congress 64 = .ok (.iconst 0, 1) := by decide +kernel
theorem dX4_congress_65 : decode cX4_congress 65 = .ok (.putfield 174, 3) := by decide +kernel
theorem dX4_congress_68 : decode cX4_congress 68 = .ok (.aload_n 0, 1) := by decide +kernel
theorem dX4_congress_69 : decode cX4_congress 69 = .ok (.iconst 0, 1) := by decide +kernel
theorem dX4_congress_70 : decode cX4_congress 70 = .ok (.putfield 146, 3) := by decide +kernel
theorem dX4_congress_73 : decode cX4_congress 73 = .ok (.aload_n 0, 1) := by decide +kernel
theorem dX4_congress_74 : decode cX4_congress 74 = .ok (.getfield 174, 3) := by decide +kernel
theorem dX4_congress_77 : decode cX4_congress 77 = .ok (.ifCond .ne 5, 3) := by decide +kernel
theorem dX4_congress_80 : decode cX4_congress 80 = .ok (.iload_n 1, 1) := by decide +kernel
theorem dX4_congress_81 : decode cX4_congress 81 = .ok (.ireturn, 1) := by decide +kernel
theorem dX4_congress_82 : decode cX4_congress 82 = .ok (.aload_n 0, 1) := by decide +kernel
theorem dX4_congress_83 : decode cX4_congress 83 = .ok (.invokevirtual 134, 3) := by decide +kernel
theorem dX4_congress_86 : decode cX4_congress 86 = .ok (.iconst (-1), 1) := by decide +kernel
theorem dX4_congress_87 : decode cX4_congress 87 = .ok (.aload_n 0, 1) := by decide +kernel
theorem dX4_congress_88 : decode cX4_congress 88 = .ok (.getfield 152, 3) := by decide +kernel
theorem dX4_congress_91 : decode cX4_congress 91 = .ok (.isub, 1) := by decide +kernel
theorem dX4_congress_92 : decode cX4_congress 92 = .ok (.ireturn, 1) := by decide +kernel
set_option maxRecDepth 20000 in
theorem ggX4_isSheet_X4_in : GoodIn wsX4_isSheet wsX4_in := goodIn_r _ [4] rfl (by decide +kernel)
set_option maxRecDepth 20000 in
theorem gX4_isSheet_X4_in : GoodIn wsX4_isSheet (va_wsS RX4 41 yX4_in wsX4_in) := goodIn_app (goodIn_of _ (by decide +kernel)) ggX4_isSheet_X4_in
theorem dX4_isSheet_0 : decode cX4_isSheet 0 = .ok (.iload_n 0, 1) := by decide +kernel
theorem dX4_isSheet_1 : decode cX4_isSheet 1 = .ok (.i2l, 1) := by decide +kernel
theorem dX4_isSheet_2 : decode cX4_isSheet 2 = .ok (.iconst 0, 1) := by decide +kernel
theorem dX4_isSheet_3 : decode cX4_isSheet 3 = .ok (.iconst 3, 1) := by decide +kernel
theorem dX4_isSheet_4 : decode cX4_isSheet 4 = .ok (.invokestatic 41, 3) := by decide +kernel
theorem dX4_isSheet_7 : decode cX4_isSheet 7 = .ok (.ireturn, 1) := by decide +kernel
set_option maxRecDepth 20000 in
theorem ggX4_sheet_X4_isSheet : GoodIn wsX4_sheet wsX4_isSheet := goodIn_r _ [9, 10, 11, 8, 12] rfl (by decide +kernel)
set_option maxRecDepth 20000 in
theorem gX4_sheet_X4_isSheet : GoodIn wsX4_sheet (va_wsS RX4 202 yX4_isSheet wsX4_isSheet) := goodIn_app (goodIn_of _ (by decide +kernel)) ggX4_sheet_X4_isSheet
set_option maxRecDepth 20000 in
theorem ggX4_sheet_X4_finds : GoodIn wsX4_sheet wsX4_finds := goodIn_r _ [16, 17, 1, 18, 19, 20, 21, 22, 23, 24, 25, 26, 27, 28, 29, 30, 31, 32, 33] rfl (by decide +kernel)
set_option maxRecDepth 20000 in
theorem gX4_sheet_X4_finds : GoodIn wsX4_sheet (wsV RX4 37 RX4 yX4_finds wsX4_finds) := goodIn_app (goodIn_of _ (by decide +kernel)) ggX4_sheet_X4_finds
theorem dX4_sheet_0 : decode cX4_sheet 0 = .ok (.iload_n 1, 1) := by decide +kernel
theorem dX4_sheet_1 : decode cX4_sheet 1 = .ok (.invokestatic 202, 3) := by decide +kernel
theorem dX4_sheet_4 : decode cX4_sheet 4 = .ok (.ifCond .eq 25, 3) := by decide +kernel
theorem dX4_sheet_7 : decode cX4_sheet 7 = .ok (.iload_n 2, 1) := by decide +kernel
theorem dX4_sheet_8 : decode cX4_sheet 8 = .ok (.ifCond .eq 28, 3) := by decide +kernel
theorem dX4_sheet_11 : decode cX4_sheet 11 = .ok (.iload_n 2, 1) := by decide +kernel
theorem dX4_sheet_12 : decode cX4_sheet 12 = .ok (.bipush 8, 2) := by decide +kernel
theorem dX4_sheet_14 : decode cX4_sheet 14 = .ok (.if_icmp .eq 22, 3) := by decide +kernel
theorem dX4_sheet_17 : decode cX4_sheet 17 = .ok (.iload_n 2, 1) := by decide +kernel
theorem dX4_sheet_18 : decode cX4_sheet 18 = .ok (.bipush 16, 2) := by decide +kernel
theorem dX4_sheet_20 : decode cX4_sheet 20 = .ok (.if_icmp .eq 16, 3) := by decide +kernel
theorem dX4_sheet_23 : decode cX4_sheet 23 = .ok (.iload_n 2, 1) := by decide +kernel
theorem dX4_sheet_24 : decode cX4_sheet 24 = .ok (.bipush 64, 2) := by decide +kernel
theorem dX4_sheet_26 : decode cX4_sheet 26 = .ok (.if_icmp .eq 10, 3) := by decide +kernel
theorem dX4_sheet_29 : decode cX4_sheet 29 = .ok (.aload_n 0, 1) := by decide +kernel
theorem dX4_sheet_30 : decode cX4_sheet 30 = .ok (.ldc 35, 2) := by decide +kernel
theorem dX4_sheet_32 : decode cX4_sheet 32 = .ok (.invokevirtual 37, 3) := by decide +kernel
theorem dX4_sheet_35 : decode cX4_sheet 35 = .ok (.ireturn, 1) := by decide +kernel
theorem dX4_sheet_36 : decode cX4_sheet 36 = .ok (.iload_n 3, 1) := by decide +kernel
theorem dX4_sheet_37 : decode cX4_sheet 37 = .ok (.ifCond .ge 10, 3) := by decide +kernel
theorem dX4_sheet_40 : decode cX4_sheet 40 = .ok (.aload_n 0, 1) := by decide +kernel
theorem dX4_sheet_41 : decode cX4_sheet 41 = .ok (.ldc 205, 2) := by decide +kernel
theorem dX4_sheet_43 : decode cX4_sheet 43 = .ok (.invokevirtual 37, 3) := by decide +kernel
theorem dX4_sheet_46 : decode cX4_sheet 46 = .ok (.ireturn, 1) := by decide +kernel
theorem dX4_sheet_47 : decode cX4_sheet 47 = .ok (.iload_n 3, 1) := by decide +kernel
theorem dX4_sheet_48 : decode cX4_sheet 48 = .ok (.bipush 40, 2) := by decide +kernel
theorem dX4_sheet_50 : decode cX4_sheet 50 = .ok (.if_icmp .le 10, 3) := by decide +kernel
theorem dX4_sheet_53 : decode cX4_sheet 53 = .ok (.aload_n 0, 1) := by decide +kernel
theorem dX4_sheet_54 : decode cX4_sheet 54 = .ok (.ldc 35, 2) := by decide +kernel
theorem dX4_sheet_56 : decode cX4_sheet 56 = .ok (.invokevirtual 37, 3) := by decide +kernel
theorem dX4_sheet_59 : decode cX4_sheet 59 = .ok (.ireturn, 1) := by decide +kernel
theorem dX4_sheet_60 : decode cX4_sheet 60 = .ok (.aload_n 0, 1) := by decide +kernel
theorem dX4_sheet_61 : decode cX4_sheet 61 = .ok (.getfield 25, 3) := by decide +kernel
theorem dX4_sheet_64 : decode cX4_sheet 64 = .ok (.iload_n 1, 1) := by decide +kernel
theorem dX4_sheet_65 : decode cX4_sheet 65 = .ok (.iload_n 2, 1) := by decide +kernel
theorem dX4_sheet_66 : decode cX4_sheet 66 = .ok (.iastore, 1) := by decide +kernel
theorem dX4_sheet_67 : decode cX4_sheet 67 = .ok (.aload_n 0, 1) := by decide +kernel
theorem dX4_sheet_68 : decode cX4_sheet 68 = .ok (.getfield 28, 3) := by decide +kernel
theorem dX4_sheet_71 : decode cX4_sheet 71 = .ok (.iload_n 1, 1) := by decide +kernel
theorem dX4_sheet_72 : decode cX4_sheet 72 = .ok (.iload_n 2, 1) := by decide +kernel
theorem dX4_sheet_73 : decode cX4_sheet 73 = .ok (.ifCond .ne 7, 3) := by decide +kernel
theorem dX4_sheet_76 : decode cX4_sheet 76 = .ok (.iconst 0, 1) := by decide +kernel
theorem dX4_sheet_77 : decode cX4_sheet 77 = .ok (.goto 4, 3) := by decide +kernel
theorem dX4_sheet_80 : decode cX4_sheet 80 = .ok (.iload_n 3, 1) := by decide +kernel
theorem dX4_sheet_81 : decode cX4_sheet 81 = .ok (.iastore, 1) := by decide +kernel
theorem dX4_sheet_82 : decode cX4_sheet 82 = .ok (.iconst 0, 1) := by decide +kernel
theorem dX4_sheet_83 : decode cX4_sheet 83 = .ok (.istore 4, 2) := by decide +kernel
theorem dX4_sheet_85 : decode cX4_sheet 85 = .ok (.iload 4, 2) := by decide +kernel
theorem dX4_sheet_87 : decode cX4_sheet 87 = .ok (.bipush 40, 2) := by decide +kernel
theorem dX4_sheet_89 : decode cX4_sheet 89 = .ok (.if_icmp .ge 22, 3) := by decide +kernel
theorem dX4_sheet_92 : decode cX4_sheet 92 = .ok (.aload_n 0, 1) := by decide +kernel
theorem dX4_sheet_93 : decode cX4_sheet 93 = .ok (.getfield 31, 3) := by decide +kernel
theorem dX4_sheet_96 : decode cX4_sheet 96 = .ok (.bipush 40, 2) := by decide +kernel
theorem dX4_sheet_98 : decode cX4_sheet 98 = .ok (.iload_n 1, 1) := by decide +kernel
theorem dX4_sheet_99 : decode cX4_sheet 99 = .ok (.imul, 1) := by decide +kernel
theorem dX4_sheet_100 : decode cX4_sheet 100 = .ok (.iload 4, 2) := by decide +kernel
theorem dX4_sheet_102 : decode cX4_sheet 102 = .ok (.iadd, 1) := by decide +kernel
theorem dX4_sheet_103 : decode cX4_sheet 103 = .ok (.lconst 0, 1) := by decide +kernel
theorem dX4_sheet_104 : decode cX4_sheet 104 = .ok (.lastore, 1) := by decide +kernel
theorem dX4_sheet_105 : decode cX4_sheet 105 = .ok (.iinc 4 1, 3) := by decide +kernel
theorem dX4_sheet_108 : decode cX4_sheet 108 = .ok (.goto (-23), 3) := by decide +kernel
theorem dX4_sheet_111 : decode cX4_sheet 111 = .ok (.aload_n 0, 1) := by decide +kernel
theorem dX4_sheet_112 : decode cX4_sheet 112 = .ok (.getfield 28, 3) := by decide +kernel
theorem dX4_sheet_115 : decode cX4_sheet 115 = .ok (.iload_n 1, 1) := by decide +kernel
theorem dX4_sheet_116 : decode cX4_sheet 116 = .ok (.iaload, 1) := by decide +kernel
theorem dX4_sheet_117 : decode cX4_sheet 117 = .ok (.ireturn, 1) := by decide +kernel
set_option maxRecDepth 20000 in
theorem ggX4_notThere_X4_isSheet : GoodIn wsX4_notThere wsX4_isSheet := goodIn_r _ [7, 8, 9, 6, 10] rfl (by decide +kernel)
set_option maxRecDepth 20000 in
theorem gX4_notThere_X4_isSheet : GoodIn wsX4_notThere (va_wsS RX4 202 yX4_isSheet wsX4_isSheet) := goodIn_app (goodIn_of _ (by decide +kernel)) ggX4_notThere_X4_isSheet
theorem dX4_notThere_0 : decode cX4_notThere 0 = .ok (.iload_n 1, 1) := by decide +kernel
theorem dX4_notThere_1 : decode cX4_notThere 1 = .ok (.invokestatic 202, 3) := by decide +kernel
theorem dX4_notThere_4 : decode cX4_notThere 4 = .ok (.ifCond .ne 8, 3) := by decide +kernel
theorem dX4_notThere_7 : decode cX4_notThere 7 = .ok (.ldc 35, 2) := by decide +kernel
theorem dX4_notThere_9 : decode cX4_notThere 9 = .ok (.goto 18, 3) := by decide +kernel
theorem dX4_notThere_12 : decode cX4_notThere 12 = .ok (.aload_n 0, 1) := by decide +kernel
theorem dX4_notThere_13 : decode cX4_notThere 13 = .ok (.getfield 25, 3) := by decide +kernel
theorem dX4_notThere_16 : decode cX4_notThere 16 = .ok (.iload_n 1, 1) := by decide +kernel
theorem dX4_notThere_17 : decode cX4_notThere 17 = .ok (.iaload, 1) := by decide +kernel
theorem dX4_notThere_18 : decode cX4_notThere 18 = .ok (.ifCond .ne 8, 3) := by decide +kernel
theorem dX4_notThere_21 : decode cX4_notThere 21 = .ok (.ldc 206, 2) := by decide +kernel
theorem dX4_notThere_23 : decode cX4_notThere 23 = .ok (.goto 4, 3) := by decide +kernel
theorem dX4_notThere_26 : decode cX4_notThere 26 = .ok (.iconst 0, 1) := by decide +kernel
theorem dX4_notThere_27 : decode cX4_notThere 27 = .ok (.ireturn, 1) := by decide +kernel
theorem dX4_cutTo_0 : decode cX4_cutTo 0 = .ok (.iload_n 0, 1) := by decide +kernel
theorem dX4_cutTo_1 : decode cX4_cutTo 1 = .ok (.bipush 8, 2) := by decide +kernel
theorem dX4_cutTo_3 : decode cX4_cutTo 3 = .ok (.if_icmp .ne 10, 3) := by decide +kernel
theorem dX4_cutTo_6 : decode cX4_cutTo 6 = .ok (.lload_n 1, 1) := by decide +kernel
theorem dX4_cutTo_7 : decode cX4_cutTo 7 = .ok (.l2i, 1) := by decide +kernel
theorem dX4_cutTo_8 : decode cX4_cutTo 8 = .ok (.i2b, 1) := by decide +kernel
theorem dX4_cutTo_9 : decode cX4_cutTo 9 = .ok (.i2l, 1) := by decide +kernel
theorem dX4_cutTo_10 : decode cX4_cutTo 10 = .ok (.goto 17, 3) := by decide +kernel
theorem dX4_cutTo_13 : decode cX4_cutTo 13 = .ok (.iload_n 0, 1) := by decide +kernel
theorem dX4_cutTo_14 : decode cX4_cutTo 14 = .ok (.bipush 16, 2) := by decide +kernel
theorem dX4_cutTo_16 : decode cX4_cutTo 16 = .ok (.if_icmp .ne 10, 3) := by decide +kernel
theorem dX4_cutTo_19 : decode cX4_cutTo 19 = .ok (.lload_n 1, 1) := by decide +kernel
theorem dX4_cutTo_20 : decode cX4_cutTo 20 = .ok (.l2i, 1) := by decide +kernel
theorem dX4_cutTo_21 : decode cX4_cutTo 21 = .ok (.i2s, 1) := by decide +kernel
theorem dX4_cutTo_22 : decode cX4_cutTo 22 = .ok (.i2l, 1) := by decide +kernel
theorem dX4_cutTo_23 : decode cX4_cutTo 23 = .ok (.goto 4, 3) := by decide +kernel
theorem dX4_cutTo_26 : decode cX4_cutTo 26 = .ok (.lload_n 1, 1) := by decide +kernel
theorem dX4_cutTo_27 : decode cX4_cutTo 27 = .ok (.lreturn, 1) := by decide +kernel
set_option maxRecDepth 20000 in
theorem ggX4_write_X4_notThere : GoodIn wsX4_write wsX4_notThere := goodIn_r _ [9, 2, 4, 10, 11, 12, 8, 13, 14, 15, 16, 25, 26, 27, 28, 29, 30, 31, 32, 33, 34, 35, 36, 37, 38, 39, 40] rfl (by decide +kernel)
set_option maxRecDepth 20000 in
theorem gX4_write_X4_notThere : GoodIn wsX4_write (wsV RX4 207 RX4 yX4_notThere wsX4_notThere) := goodIn_app (goodIn_of _ (by decide +kernel)) ggX4_write_X4_notThere
set_option maxRecDepth 20000 in
theorem ggX4_write_X4_in : GoodIn wsX4_write wsX4_in := goodIn_r _ [16] rfl (by decide +kernel)
set_option maxRecDepth 20000 in
theorem gX4_write_X4_in : GoodIn wsX4_write (va_wsS RX4 41 yX4_in wsX4_in) := goodIn_app (goodIn_of _ (by decide +kernel)) ggX4_write_X4_in
set_option maxRecDepth 20000 in
theorem ggX4_write_X4_finds : GoodIn wsX4_write wsX4_finds := goodIn_r _ [20, 21, 2, 25, 26, 27, 28, 29, 30, 31, 32, 33, 34, 35, 36, 37, 38, 39, 40] rfl (by decide +kernel)
set_option maxRecDepth 20000 in
theorem gX4_write_X4_finds : GoodIn wsX4_write (wsV RX4 37 RX4 yX4_finds wsX4_finds) := goodIn_app (goodIn_of _ (by decide +kernel)) ggX4_write_X4_finds
set_option maxRecDepth 20000 in
theorem ggX4_write_X4_cutTo : GoodIn wsX4_write wsX4_cutTo := goodIn_r _ [24] rfl (by decide +kernel)
set_option maxRecDepth 20000 in
theorem gX4_write_X4_cutTo : GoodIn wsX4_write (va_wsS RX4 210 yX4_cutTo wsX4_cutTo) := goodIn_app (goodIn_of _ (by decide +kernel)) ggX4_write_X4_cutTo
theorem dX4_write_0 : decode cX4_write 0 = .ok (.aload_n 0, 1) := by decide +kernel
theorem dX4_write_1 : decode cX4_write 1 = .ok (.iload_n 1, 1) := by decide +kernel
theorem dX4_write_2 : decode cX4_write 2 = .ok (.invokevirtual 207, 3) := by decide +kernel
theorem dX4_write_5 : decode cX4_write 5 = .ok (.istore 5, 2) := by decide +kernel
theorem dX4_write_7 : decode cX4_write 7 = .ok (.iload 5, 2) := by decide +kernel
theorem dX4_write_9 : decode cX4_write 9 = .ok (.ifCond .ne 24, 3) := by decide +kernel
theorem dX4_write_12 : decode cX4_write 12 = .ok (.iload_n 2, 1) := by decide +kernel
theorem dX4_write_13 : decode cX4_write 13 = .ok (.i2l, 1) := by decide +kernel
theorem dX4_write_14 : decode cX4_write 14 = .ok (.iconst 0, 1) := by decide +kernel
theorem dX4_write_15 : decode cX4_write 15 = .ok (.aload_n 0, 1) := by decide +kernel
theorem dX4_write_16 : decode cX4_write 16 = .ok (.getfield 28, 3) := by decide +kernel
theorem dX4_write_19 : decode cX4_write 19 = .ok (.iload_n 1, 1) := by decide +kernel
theorem dX4_write_20 : decode cX4_write 20 = .ok (.iaload, 1) := by decide +kernel
theorem dX4_write_21 : decode cX4_write 21 = .ok (.iconst 1, 1) := by decide +kernel
theorem dX4_write_22 : decode cX4_write 22 = .ok (.isub, 1) := by decide +kernel
theorem dX4_write_23 : decode cX4_write 23 = .ok (.invokestatic 41, 3) := by decide +kernel
theorem dX4_write_26 : decode cX4_write 26 = .ok (.ifCond .ne 7, 3) := by decide +kernel
theorem dX4_write_29 : decode cX4_write 29 = .ok (.ldc 35, 2) := by decide +kernel
theorem dX4_write_31 : decode cX4_write 31 = .ok (.istore 5, 2) := by decide +kernel
theorem dX4_write_33 : decode cX4_write 33 = .ok (.iload 5, 2) := by decide +kernel
theorem dX4_write_35 : decode cX4_write 35 = .ok (.ifCond .eq 11, 3) := by decide +kernel
theorem dX4_write_38 : decode cX4_write 38 = .ok (.aload_n 0, 1) := by decide +kernel
theorem dX4_write_39 : decode cX4_write 39 = .ok (.iload 5, 2) := by decide +kernel
theorem dX4_write_41 : decode cX4_write 41 = .ok (.invokevirtual 37, 3) := by decide +kernel
theorem dX4_write_44 : decode cX4_write 44 = .ok (.i2l, 1) := by decide +kernel
theorem dX4_write_45 : decode cX4_write 45 = .ok (.lreturn, 1) := by decide +kernel
theorem dX4_write_46 : decode cX4_write 46 = .ok (.aload_n 0, 1) := by decide +kernel
theorem dX4_write_47 : decode cX4_write 47 = .ok (.getfield 31, 3) := by decide +kernel
theorem dX4_write_50 : decode cX4_write 50 = .ok (.bipush 40, 2) := by decide +kernel
theorem dX4_write_52 : decode cX4_write 52 = .ok (.iload_n 1, 1) := by decide +kernel
theorem dX4_write_53 : decode cX4_write 53 = .ok (.imul, 1) := by decide +kernel
theorem dX4_write_54 : decode cX4_write 54 = .ok (.iload_n 2, 1) := by decide +kernel
theorem dX4_write_55 : decode cX4_write 55 = .ok (.iadd, 1) := by decide +kernel
theorem dX4_write_56 : decode cX4_write 56 = .ok (.laload, 1) := by decide +kernel
theorem dX4_write_57 : decode cX4_write 57 = .ok (.lstore 6, 2) := by decide +kernel
theorem dX4_write_59 : decode cX4_write 59 = .ok (.aload_n 0, 1) := by decide +kernel
theorem dX4_write_60 : decode cX4_write 60 = .ok (.getfield 31, 3) := by decide +kernel
theorem dX4_write_63 : decode cX4_write 63 = .ok (.bipush 40, 2) := by decide +kernel
theorem dX4_write_65 : decode cX4_write 65 = .ok (.iload_n 1, 1) := by decide +kernel
theorem dX4_write_66 : decode cX4_write 66 = .ok (.imul, 1) := by decide +kernel
theorem dX4_write_67 : decode cX4_write 67 = .ok (.iload_n 2, 1) := by decide +kernel
theorem dX4_write_68 : decode cX4_write 68 = .ok (.iadd, 1) := by decide +kernel
theorem dX4_write_69 : decode cX4_write 69 = .ok (.aload_n 0, 1) := by decide +kernel
theorem dX4_write_70 : decode cX4_write 70 = .ok (.getfield 25, 3) := by decide +kernel
theorem dX4_write_73 : decode cX4_write 73 = .ok (.iload_n 1, 1) := by decide +kernel
theorem dX4_write_74 : decode cX4_write 74 = .ok (.iaload, 1) := by decide +kernel
theorem dX4_write_75 : decode cX4_write 75 = .ok (.lload_n 3, 1) := by decide +kernel
theorem dX4_write_76 : decode cX4_write 76 = .ok (.invokestatic 210, 3) := by decide +kernel
theorem dX4_write_79 : decode cX4_write 79 = .ok (.lastore, 1) := by decide +kernel
theorem dX4_write_80 : decode cX4_write 80 = .ok (.lload 6, 2) := by decide +kernel
theorem dX4_write_82 : decode cX4_write 82 = .ok (.lreturn, 1) := by decide +kernel
set_option maxRecDepth 20000 in
theorem ggX4_notCopied_X4_isSheet : GoodIn wsX4_notCopied wsX4_isSheet := goodIn_r _ [9, 10, 11, 8, 12] rfl (by decide +kernel)
set_option maxRecDepth 20000 in
theorem gX4_notCopied_X4_isSheet : GoodIn wsX4_notCopied (va_wsS RX4 202 yX4_isSheet wsX4_isSheet) := goodIn_app (goodIn_of _ (by decide +kernel)) ggX4_notCopied_X4_isSheet
theorem dX4_notCopied_0 : decode cX4_notCopied 0 = .ok (.iload_n 1, 1) := by decide +kernel
theorem dX4_notCopied_1 : decode cX4_notCopied 1 = .ok (.invokestatic 202, 3) := by decide +kernel
theorem dX4_notCopied_4 : decode cX4_notCopied 4 = .ok (.ifCond .eq 10, 3) := by decide +kernel
theorem dX4_notCopied_7 : decode cX4_notCopied 7 = .ok (.iload_n 3, 1) := by decide +kernel
theorem dX4_notCopied_8 : decode cX4_notCopied 8 = .ok (.invokestatic 202, 3) := by decide +kernel
theorem dX4_notCopied_11 : decode cX4_notCopied 11 = .ok (.ifCond .ne 6, 3) := by decide +kernel
theorem dX4_notCopied_14 : decode cX4_notCopied 14 = .ok (.ldc 35, 2) := by decide +kernel
theorem dX4_notCopied_16 : decode cX4_notCopied 16 = .ok (.ireturn, 1) := by decide +kernel
theorem dX4_notCopied_17 : decode cX4_notCopied 17 = .ok (.aload_n 0, 1) := by decide +kernel
theorem dX4_notCopied_18 : decode cX4_notCopied 18 = .ok (.getfield 25, 3) := by decide +kernel
theorem dX4_notCopied_21 : decode cX4_notCopied 21 = .ok (.iload_n 1, 1) := by decide +kernel
theorem dX4_notCopied_22 : decode cX4_notCopied 22 = .ok (.iaload, 1) := by decide +kernel
theorem dX4_notCopied_23 : decode cX4_notCopied 23 = .ok (.ifCond .eq 12, 3) := by decide +kernel
theorem dX4_notCopied_26 : decode cX4_notCopied 26 = .ok (.aload_n 0, 1) := by decide +kernel
theorem dX4_notCopied_27 : decode cX4_notCopied 27 = .ok (.getfield 25, 3) := by decide +kernel
theorem dX4_notCopied_30 : decode cX4_notCopied 30 = .ok (.iload_n 3, 1) := by decide +kernel
theorem dX4_notCopied_31 : decode cX4_notCopied 31 = .ok (.iaload, 1) := by decide +kernel
theorem dX4_notCopied_32 : decode cX4_notCopied 32 = .ok (.ifCond .ne 6, 3) := by decide +kernel
theorem dX4_notCopied_35 : decode cX4_notCopied 35 = .ok (.ldc 206, 2) := by decide +kernel
theorem dX4_notCopied_37 : decode cX4_notCopied 37 = .ok (.ireturn, 1) := by decide +kernel
theorem dX4_notCopied_38 : decode cX4_notCopied 38 = .ok (.aload_n 0, 1) := by decide +kernel
theorem dX4_notCopied_39 : decode cX4_notCopied 39 = .ok (.getfield 25, 3) := by decide +kernel
theorem dX4_notCopied_42 : decode cX4_notCopied 42 = .ok (.iload_n 1, 1) := by decide +kernel
theorem dX4_notCopied_43 : decode cX4_notCopied 43 = .ok (.iaload, 1) := by decide +kernel
theorem dX4_notCopied_44 : decode cX4_notCopied 44 = .ok (.aload_n 0, 1) := by decide +kernel
theorem dX4_notCopied_45 : decode cX4_notCopied 45 = .ok (.getfield 25, 3) := by decide +kernel
theorem dX4_notCopied_48 : decode cX4_notCopied 48 = .ok (.iload_n 3, 1) := by decide +kernel
theorem dX4_notCopied_49 : decode cX4_notCopied 49 = .ok (.iaload, 1) := by decide +kernel
theorem dX4_notCopied_50 : decode cX4_notCopied 50 = .ok (.if_icmp .eq 6, 3) := by decide +kernel
theorem dX4_notCopied_53 : decode cX4_notCopied 53 = .ok (.ldc 87, 2) := by decide +kernel
theorem dX4_notCopied_55 : decode cX4_notCopied 55 = .ok (.ireturn, 1) := by decide +kernel
theorem dX4_notCopied_56 : decode cX4_notCopied 56 = .ok (.iload 5, 2) := by decide +kernel
theorem dX4_notCopied_58 : decode cX4_notCopied 58 = .ok (.ifCond .lt 43, 3) := by decide +kernel
theorem dX4_notCopied_61 : decode cX4_notCopied 61 = .ok (.iload_n 2, 1) := by decide +kernel
theorem dX4_notCopied_62 : decode cX4_notCopied 62 = .ok (.ifCond .lt 39, 3) := by decide +kernel
theorem dX4_notCopied_65 : decode cX4_notCopied 65 = .ok (.iload 4, 2) := by decide +kernel
theorem dX4_notCopied_67 : decode cX4_notCopied 67 = .ok (.ifCond .lt 34, 3) := by decide +kernel
theorem dX4_notCopied_70 : decode cX4_notCopied 70 = .ok (.iload 5, 2) := by decide +kernel
theorem dX4_notCopied_72 : decode cX4_notCopied 72 = .ok (.aload_n 0, 1) := by decide +kernel
theorem dX4_notCopied_73 : decode cX4_notCopied 73 = .ok (.getfield 28, 3) := by decide +kernel
theorem dX4_notCopied_76 : decode cX4_notCopied 76 = .ok (.iload_n 1, 1) := by decide +kernel
theorem dX4_notCopied_77 : decode cX4_notCopied 77 = .ok (.iaload, 1) := by decide +kernel
theorem dX4_notCopied_78 : decode cX4_notCopied 78 = .ok (.iload_n 2, 1) := by decide +kernel
theorem dX4_notCopied_79 : decode cX4_notCopied 79 = .ok (.isub, 1) := by decide +kernel
theorem dX4_notCopied_80 : decode cX4_notCopied 80 = .ok (.if_icmp .gt 21, 3) := by decide +kernel
theorem dX4_notCopied_83 : decode cX4_notCopied 83 = .ok (.iload 5, 2) := by decide +kernel
theorem dX4_notCopied_85 : decode cX4_notCopied 85 = .ok (.aload_n 0, 1) := by decide +kernel
theorem dX4_notCopied_86 : decode cX4_notCopied 86 = .ok (.getfield 28, 3) := by decide +kernel
theorem dX4_notCopied_89 : decode cX4_notCopied 89 = .ok (.iload_n 3, 1) := by decide +kernel
theorem dX4_notCopied_90 : decode cX4_notCopied 90 = .ok (.iaload, 1) := by decide +kernel
theorem dX4_notCopied_91 : decode cX4_notCopied 91 = .ok (.iload 4, 2) := by decide +kernel
theorem dX4_notCopied_93 : decode cX4_notCopied 93 = .ok (.isub, 1) := by decide +kernel
theorem dX4_notCopied_94 : decode cX4_notCopied 94 = .ok (.if_icmp .gt 7, 3) := by decide +kernel
theorem dX4_notCopied_97 : decode cX4_notCopied 97 = .ok (.iconst 1, 1) := by decide +kernel
theorem dX4_notCopied_98 : decode cX4_notCopied 98 = .ok (.goto 4, 3) := by decide +kernel
theorem dX4_notCopied_101 : decode cX4_notCopied 101 = .ok (.iconst 0, 1) := by decide +kernel
theorem dX4_notCopied_102 : decode cX4_notCopied 102 = .ok (.istore 6, 2) := by decide +kernel
theorem dX4_notCopied_104 : decode cX4_notCopied 104 = .ok (.iload 6, 2) := by decide +kernel
theorem dX4_notCopied_106 : decode cX4_notCopied 106 = .ok (.ifCond .eq 7, 3) := by decide +kernel
theorem dX4_notCopied_109 : decode cX4_notCopied 109 = .ok (.iconst 0, 1) := by decide +kernel
theorem dX4_notCopied_110 : decode cX4_notCopied 110 = .ok (.goto 5, 3) := by decide +kernel
theorem dX4_notCopied_113 : decode cX4_notCopied 113 = .ok (.ldc 35, 2) := by decide +kernel
theorem dX4_notCopied_115 : decode cX4_notCopied 115 = .ok (.ireturn, 1) := by decide +kernel
set_option maxRecDepth 20000 in
theorem ggX4_copy_X4_notCopied : GoodIn wsX4_copy wsX4_notCopied := goodIn_r _ [6, 7, 8, 9, 10, 11, 12, 13, 5, 14, 15, 16, 17, 23, 24, 25, 26, 27, 28, 29, 30, 31, 32, 33, 34, 35, 36, 37, 38] rfl (by decide +kernel)
set_option maxRecDepth 20000 in
theorem gX4_copy_X4_notCopied : GoodIn wsX4_copy (wsV RX4 214 RX4 yX4_notCopied wsX4_notCopied) := goodIn_app (goodIn_of _ (by decide +kernel)) ggX4_copy_X4_notCopied
set_option maxRecDepth 20000 in
theorem ggX4_copy_X4_finds : GoodIn wsX4_copy wsX4_finds := goodIn_r _ [21, 22, 7, 23, 24, 25, 26, 27, 28, 29, 30, 31, 32, 33, 34, 35, 36, 37, 38] rfl (by decide +kernel)
set_option maxRecDepth 20000 in
theorem gX4_copy_X4_finds : GoodIn wsX4_copy (wsV RX4 37 RX4 yX4_finds wsX4_finds) := goodIn_app (goodIn_of _ (by decide +kernel)) ggX4_copy_X4_finds
theorem dX4_copy_0 : decode cX4_copy 0 = .ok (.aload_n 0, 1) := by decide +kernel
theorem dX4_copy_1 : decode cX4_copy 1 = .ok (.iload_n 1, 1) := by decide +kernel
theorem dX4_copy_2 : decode cX4_copy 2 = .ok (.iload_n 2, 1) := by decide +kernel
theorem dX4_copy_3 : decode cX4_copy 3 = .ok (.iload_n 3, 1) := by decide +kernel
theorem dX4_copy_4 : decode cX4_copy 4 = .ok (.iload 4, 2) := by decide +kernel
theorem dX4_copy_6 : decode cX4_copy 6 = .ok (.iload 5, 2) := by decide +kernel
theorem dX4_copy_8 : decode cX4_copy 8 = .ok (.invokevirtual 214, 3) := by decide +kernel
theorem dX4_copy_11 : decode cX4_copy 11 = .ok (.istore 6, 2) := by decide +kernel
theorem dX4_copy_13 : decode cX4_copy 13 = .ok (.iload 6, 2) := by decide +kernel
theorem dX4_copy_15 : decode cX4_copy 15 = .ok (.ifCond .eq 10, 3) := by decide +kernel
theorem dX4_copy_18 : decode cX4_copy 18 = .ok (.aload_n 0, 1) := by decide +kernel
theorem dX4_copy_19 : decode cX4_copy 19 = .ok (.iload 6, 2) := by decide +kernel
theorem dX4_copy_21 : decode cX4_copy 21 = .ok (.invokevirtual 37, 3) := by decide +kernel
theorem dX4_copy_24 : decode cX4_copy 24 = .ok (.ireturn, 1) := by decide +kernel
theorem dX4_copy_25 : decode cX4_copy 25 = .ok (.iconst 0, 1) := by decide +kernel
theorem dX4_copy_26 : decode cX4_copy 26 = .ok (.istore 7, 2) := by decide +kernel
theorem dX4_copy_28 : decode cX4_copy 28 = .ok (.iload 7, 2) := by decide +kernel
theorem dX4_copy_30 : decode cX4_copy 30 = .ok (.iload 5, 2) := by decide +kernel
theorem dX4_copy_32 : decode cX4_copy 32 = .ok (.if_icmp .ge 58, 3) := by decide +kernel
theorem dX4_copy_35 : decode cX4_copy 35 = .ok (.iload_n 2, 1) := by decide +kernel
theorem dX4_copy_36 : decode cX4_copy 36 = .ok (.iload 4, 2) := by decide +kernel
theorem dX4_copy_38 : decode cX4_copy 38 = .ok (.if_icmp .ge 13, 3) := by decide +kernel
theorem dX4_copy_41 : decode cX4_copy 41 = .ok (.iload 5, 2) := by decide +kernel
theorem dX4_copy_43 : decode cX4_copy 43 = .ok (.iconst 1, 1) := by decide +kernel
theorem dX4_copy_44 : decode cX4_copy 44 = .ok (.isub, 1) := by decide +kernel
theorem dX4_copy_45 : decode cX4_copy 45 = .ok (.iload 7, 2) := by decide +kernel
theorem dX4_copy_47 : decode cX4_copy 47 = .ok (.isub, 1) := by decide +kernel
theorem dX4_copy_48 : decode cX4_copy 48 = .ok (.goto 5, 3) := by decide +kernel
theorem dX4_copy_51 : decode cX4_copy 51 = .ok (.iload 7, 2) := by decide +kernel
theorem dX4_copy_53 : decode cX4_copy 53 = .ok (.istore 8, 2) := by decide +kernel
theorem dX4_copy_55 : decode cX4_copy 55 = .ok (.aload_n 0, 1) := by decide +kernel
theorem dX4_copy_56 : decode cX4_copy 56 = .ok (.getfield 31, 3) := by decide +kernel
theorem dX4_copy_59 : decode cX4_copy 59 = .ok (.bipush 40, 2) := by decide +kernel
theorem dX4_copy_61 : decode cX4_copy 61 = .ok (.iload_n 3, 1) := by decide +kernel
theorem dX4_copy_62 : decode cX4_copy 62 = .ok (.imul, 1) := by decide +kernel
theorem dX4_copy_63 : decode cX4_copy 63 = .ok (.iload 4, 2) := by decide +kernel
theorem dX4_copy_65 : decode cX4_copy 65 = .ok (.iadd, 1) := by decide +kernel
theorem dX4_copy_66 : decode cX4_copy 66 = .ok (.iload 8, 2) := by decide +kernel
theorem dX4_copy_68 : decode cX4_copy 68 = .ok (.iadd, 1) := by decide +kernel
theorem dX4_copy_69 : decode cX4_copy 69 = .ok (.aload_n 0, 1) := by decide +kernel
theorem dX4_copy_70 : decode cX4_copy 70 = .ok (.getfield 31, 3) := by decide +kernel
theorem dX4_copy_73 : decode cX4_copy 73 = .ok (.bipush 40, 2) := by decide +kernel
theorem dX4_copy_75 : decode cX4_copy 75 = .ok (.iload_n 1, 1) := by decide +kernel
theorem dX4_copy_76 : decode cX4_copy 76 = .ok (.imul, 1) := by decide +kernel
theorem dX4_copy_77 : decode cX4_copy 77 = .ok (.iload_n 2, 1) := by decide +kernel
theorem dX4_copy_78 : decode cX4_copy 78 = .ok (.iadd, 1) := by decide +kernel
theorem dX4_copy_79 : decode cX4_copy 79 = .ok (.iload 8, 2) := by decide +kernel
theorem dX4_copy_81 : decode cX4_copy 81 = .ok (.iadd, 1) := by decide +kernel
theorem dX4_copy_82 : decode cX4_copy 82 = .ok (.laload, 1) := by decide +kernel
theorem dX4_copy_83 : decode cX4_copy 83 = .ok (.lastore, 1) := by decide +kernel
theorem dX4_copy_84 : decode cX4_copy 84 = .ok (.iinc 7 1, 3) := by decide +kernel
theorem dX4_copy_87 : decode cX4_copy 87 = .ok (.goto (-59), 3) := by decide +kernel
theorem dX4_copy_90 : decode cX4_copy 90 = .ok (.iload 5, 2) := by decide +kernel
theorem dX4_copy_92 : decode cX4_copy 92 = .ok (.ireturn, 1) := by decide +kernel
set_option maxRecDepth 20000 in
theorem ggX4_lays_X4_notThere : GoodIn wsX4_lays wsX4_notThere := goodIn_r _ [8, 9, 10, 11, 12, 13, 7, 14, 15, 16, 17, 23, 24, 25, 26, 27, 28, 29, 30, 31, 32, 33, 34, 35, 36, 37, 38] rfl (by decide +kernel)
set_option maxRecDepth 20000 in
theorem gX4_lays_X4_notThere : GoodIn wsX4_lays (wsV RX4 207 RX4 yX4_notThere wsX4_notThere) := goodIn_app (goodIn_of _ (by decide +kernel)) ggX4_lays_X4_notThere
set_option maxRecDepth 20000 in
theorem ggX4_lays_X4_finds : GoodIn wsX4_lays wsX4_finds := goodIn_r _ [21, 22, 9, 23, 24, 25, 26, 27, 28, 29, 30, 31, 32, 33, 34, 35, 36, 37, 38] rfl (by decide +kernel)
set_option maxRecDepth 20000 in
theorem gX4_lays_X4_finds : GoodIn wsX4_lays (wsV RX4 37 RX4 yX4_finds wsX4_finds) := goodIn_app (goodIn_of _ (by decide +kernel)) ggX4_lays_X4_finds
set_option maxRecDepth 20000 in
theorem ggX4_lays_X4_in : GoodIn wsX4_lays wsX4_in := goodIn_r _ [17] rfl (by decide +kernel)
set_option maxRecDepth 20000 in
theorem gX4_lays_X4_in : GoodIn wsX4_lays (va_wsS RX4 41 yX4_in wsX4_in) := goodIn_app (goodIn_of _ (by decide +kernel)) ggX4_lays_X4_in
theorem dX4_lays_0 : decode cX4_lays 0 = .ok (.aload_n 0, 1) := by decide +kernel
theorem dX4_lays_1 : decode cX4_lays 1 = .ok (.iload_n 1, 1) := by decide +kernel
theorem dX4_lays_2 : decode cX4_lays 2 = .ok (.invokevirtual 207, 3) := by decide +kernel
theorem dX4_lays_5 : decode cX4_lays 5 = .ok (.istore_n 2, 1) := by decide +kernel
theorem dX4_lays_6 : decode cX4_lays 6 = .ok (.iload_n 2, 1) := by decide +kernel
theorem dX4_lays_7 : decode cX4_lays 7 = .ok (.ifCond .eq 9, 3) := by decide +kernel
theorem dX4_lays_10 : decode cX4_lays 10 = .ok (.aload_n 0, 1) := by decide +kernel
theorem dX4_lays_11 : decode cX4_lays 11 = .ok (.iload_n 2, 1) := by decide +kernel
theorem dX4_lays_12 : decode cX4_lays 12 = .ok (.invokevirtual 37, 3) := by decide +kernel
theorem dX4_lays_15 : decode cX4_lays 15 = .ok (.ireturn, 1) := by decide +kernel
theorem dX4_lays_16 : decode cX4_lays 16 = .ok (.iconst 0, 1) := by decide +kernel
theorem dX4_lays_17 : decode cX4_lays 17 = .ok (.istore_n 3, 1) := by decide +kernel
theorem dX4_lays_18 : decode cX4_lays 18 = .ok (.iconst 0, 1) := by decide +kernel
theorem dX4_lays_19 : decode cX4_lays 19 = .ok (.istore 4, 2) := by decide +kernel
theorem dX4_lays_21 : decode cX4_lays 21 = .ok (.iload 4, 2) := by decide +kernel
theorem dX4_lays_23 : decode cX4_lays 23 = .ok (.aload_n 0, 1) := by decide +kernel
theorem dX4_lays_24 : decode cX4_lays 24 = .ok (.getfield 28, 3) := by decide +kernel
theorem dX4_lays_27 : decode cX4_lays 27 = .ok (.iload_n 1, 1) := by decide +kernel
theorem dX4_lays_28 : decode cX4_lays 28 = .ok (.iaload, 1) := by decide +kernel
theorem dX4_lays_29 : decode cX4_lays 29 = .ok (.if_icmp .ge 71, 3) := by decide +kernel
theorem dX4_lays_32 : decode cX4_lays 32 = .ok (.iload 4, 2) := by decide +kernel
theorem dX4_lays_34 : decode cX4_lays 34 = .ok (.aload_n 0, 1) := by decide +kernel
theorem dX4_lays_35 : decode cX4_lays 35 = .ok (.getfield 9, 3) := by decide +kernel
theorem dX4_lays_38 : decode cX4_lays 38 = .ok (.iconst 2, 1) := by decide +kernel
theorem dX4_lays_39 : decode cX4_lays 39 = .ok (.iaload, 1) := by decide +kernel
theorem dX4_lays_40 : decode cX4_lays 40 = .ok (.if_icmp .ge 60, 3) := by decide +kernel
theorem dX4_lays_43 : decode cX4_lays 43 = .ok (.aload_n 0, 1) := by decide +kernel
theorem dX4_lays_44 : decode cX4_lays 44 = .ok (.getfield 31, 3) := by decide +kernel
theorem dX4_lays_47 : decode cX4_lays 47 = .ok (.bipush 40, 2) := by decide +kernel
theorem dX4_lays_49 : decode cX4_lays 49 = .ok (.iload_n 1, 1) := by decide +kernel
theorem dX4_lays_50 : decode cX4_lays 50 = .ok (.imul, 1) := by decide +kernel
theorem dX4_lays_51 : decode cX4_lays 51 = .ok (.iload 4, 2) := by decide +kernel
theorem dX4_lays_53 : decode cX4_lays 53 = .ok (.iadd, 1) := by decide +kernel
theorem dX4_lays_54 : decode cX4_lays 54 = .ok (.laload, 1) := by decide +kernel
theorem dX4_lays_55 : decode cX4_lays 55 = .ok (.iconst 0, 1) := by decide +kernel
theorem dX4_lays_56 : decode cX4_lays 56 = .ok (.bipush 99, 2) := by decide +kernel
theorem dX4_lays_58 : decode cX4_lays 58 = .ok (.invokestatic 41, 3) := by decide +kernel
theorem dX4_lays_61 : decode cX4_lays 61 = .ok (.ifCond .eq 33, 3) := by decide +kernel
theorem dX4_lays_64 : decode cX4_lays 64 = .ok (.aload_n 0, 1) := by decide +kernel
theorem dX4_lays_65 : decode cX4_lays 65 = .ok (.getfield 9, 3) := by decide +kernel
theorem dX4_lays_68 : decode cX4_lays 68 = .ok (.bipush 43, 2) := by decide +kernel
theorem dX4_lays_70 : decode cX4_lays 70 = .ok (.iconst 4, 1) := by decide +kernel
theorem dX4_lays_71 : decode cX4_lays 71 = .ok (.iload 4, 2) := by decide +kernel
theorem dX4_lays_73 : decode cX4_lays 73 = .ok (.imul, 1) := by decide +kernel
theorem dX4_lays_74 : decode cX4_lays 74 = .ok (.iadd, 1) := by decide +kernel
theorem dX4_lays_75 : decode cX4_lays 75 = .ok (.iconst 3, 1) := by decide +kernel
theorem dX4_lays_76 : decode cX4_lays 76 = .ok (.iadd, 1) := by decide +kernel
theorem dX4_lays_77 : decode cX4_lays 77 = .ok (.aload_n 0, 1) := by decide +kernel
theorem dX4_lays_78 : decode cX4_lays 78 = .ok (.getfield 31, 3) := by decide +kernel
theorem dX4_lays_81 : decode cX4_lays 81 = .ok (.bipush 40, 2) := by decide +kernel
theorem dX4_lays_83 : decode cX4_lays 83 = .ok (.iload_n 1, 1) := by decide +kernel
theorem dX4_lays_84 : decode cX4_lays 84 = .ok (.imul, 1) := by decide +kernel
theorem dX4_lays_85 : decode cX4_lays 85 = .ok (.iload 4, 2) := by decide +kernel
theorem dX4_lays_87 : decode cX4_lays 87 = .ok (.iadd, 1) := by decide +kernel
theorem dX4_lays_88 : decode cX4_lays 88 = .ok (.laload, 1) := by decide +kernel
theorem dX4_lays_89 : decode cX4_lays 89 = .ok (.l2i, 1) := by decide +kernel
theorem dX4_lays_90 : decode cX4_lays 90 = .ok (.iastore, 1) := by decide +kernel
theorem dX4_lays_91 : decode cX4_lays 91 = .ok (.iinc 3 1, 3) := by decide +kernel
theorem dX4_lays_94 : decode cX4_lays 94 = .ok (.iinc 4 1, 3) := by decide +kernel
theorem dX4_lays_97 : decode cX4_lays 97 = .ok (.goto (-76), 3) := by decide +kernel
theorem dX4_lays_100 : decode cX4_lays 100 = .ok (.iload_n 3, 1) := by decide +kernel
theorem dX4_lays_101 : decode cX4_lays 101 = .ok (.ireturn, 1) := by decide +kernel
set_option maxRecDepth 20000 in
theorem ggX4_book_X4_notThere : GoodIn wsX4_book wsX4_notThere := goodIn_r _ [9, 1, 4, 10, 11, 12, 8, 13, 14, 15, 16, 87, 88, 89, 90, 91, 92, 93, 94, 95, 96, 97, 98, 99, 100, 101, 102] rfl (by decide +kernel)
set_option maxRecDepth 20000 in
theorem gX4_book_X4_notThere : GoodIn wsX4_book (wsV RX4 207 RX4 yX4_notThere wsX4_notThere) := goodIn_app (goodIn_of _ (by decide +kernel)) ggX4_book_X4_notThere
set_option maxRecDepth 20000 in
theorem ggX4_book_X4_isThere : GoodIn wsX4_book wsX4_isThere := goodIn_r _ [20, 21, 14, 15, 8, 16, 87, 88, 89, 90, 91, 92, 93, 94, 95, 96, 97, 98, 99, 100, 101, 102] rfl (by decide +kernel)
set_option maxRecDepth 20000 in
theorem gX4_book_X4_isThere : GoodIn wsX4_book (wsV RX4 73 RX4 yX4_isThere wsX4_isThere) := goodIn_app (goodIn_of _ (by decide +kernel)) ggX4_book_X4_isThere
set_option maxRecDepth 20000 in
theorem ggX4_book_X4_finds : GoodIn wsX4_book wsX4_finds := goodIn_r _ [25, 26, 1, 87, 88, 89, 90, 91, 92, 93, 94, 95, 96, 97, 98, 99, 100, 101, 102] rfl (by decide +kernel)
set_option maxRecDepth 20000 in
theorem gX4_book_X4_finds : GoodIn wsX4_book (wsV RX4 37 RX4 yX4_finds wsX4_finds) := goodIn_app (goodIn_of _ (by decide +kernel)) ggX4_book_X4_finds
set_option maxRecDepth 20000 in
theorem ggX4_book_X4_thinks : GoodIn wsX4_book wsX4_thinks := goodIn_r _ [30, 21, 31, 32, 33, 8, 34, 87, 88, 89, 90, 91, 92, 93, 94, 95, 96, 97, 98, 99, 100, 101, 102] rfl (by decide +kernel)
set_option maxRecDepth 20000 in
theorem gX4_book_X4_thinks : GoodIn wsX4_book (wsV RX4 131 RX4 yX4_thinks wsX4_thinks) := goodIn_app (goodIn_of _ (by decide +kernel)) ggX4_book_X4_thinks
set_option maxRecDepth 20000 in
theorem ggX4_book_X4_it : GoodIn wsX4_book wsX4_it := goodIn_r _ [38, 21, 87, 88, 89, 90, 91, 92, 93, 94, 95, 96, 97, 98, 99, 100, 101, 102] rfl (by decide +kernel)
set_option maxRecDepth 20000 in
theorem gX4_book_X4_it : GoodIn wsX4_book (wsV RX4 49 RX4 yX4_it wsX4_it) := goodIn_app (goodIn_of _ (by decide +kernel)) ggX4_book_X4_it
set_option maxRecDepth 20000 in
theorem ggX4_book_X4_cutTo : GoodIn wsX4_book wsX4_cutTo := goodIn_r _ [41] rfl (by decide +kernel)
set_option maxRecDepth 20000 in
theorem gX4_book_X4_cutTo : GoodIn wsX4_book (va_wsS RX4 210 yX4_cutTo wsX4_cutTo) := goodIn_app (goodIn_of _ (by decide +kernel)) ggX4_book_X4_cutTo
set_option maxRecDepth 20000 in
theorem ggX4_book_X4_goes : GoodIn wsX4_book wsX4_goes := goodIn_r _ [45, 46, 21, 47, 48, 49, 8, 50, 51, 52, 53, 54, 55, 35, 36, 37, 38, 56, 57, 58, 59, 60, 61, 62, 63, 64, 65, 66, 67, 68, 69, 70, 71, 72, 73, 74, 75, 76, 77, 78, 79, 80, 81, 82, 87, 88, 89, 90, 91, 92, 93, 94, 95, 96, 97, 98, 99, 100, 101, 102] rfl (by decide +kernel)
set_option maxRecDepth 20000 in
theorem gX4_book_X4_goes : GoodIn wsX4_book (wsV RX4 110 RX4 yX4_goes wsX4_goes) := goodIn_app (goodIn_of _ (by decide +kernel)) ggX4_book_X4_goes
set_option maxRecDepth 20000 in
theorem ggX4_book_X4_putsBack : GoodIn wsX4_book wsX4_putsBack := goodIn_r _ [86, 31, 21, 32, 33, 8, 34, 87, 88, 89, 90, 91, 92, 93, 94, 95, 96, 97, 98, 99, 100, 101, 102] rfl (by decide +kernel)
set_option maxRecDepth 20000 in
theorem gX4_book_X4_putsBack : GoodIn wsX4_book (wsV RX4 134 RX4 yX4_putsBack wsX4_putsBack) := goodIn_app (goodIn_of _ (by decide +kernel)) ggX4_book_X4_putsBack
theorem dX4_book_0 : decode cX4_book 0 = .ok (.aload_n 0, 1) := by decide +kernel
theorem dX4_book_1 : decode cX4_book 1 = .ok (.iload_n 1, 1) := by decide +kernel
theorem dX4_book_2 : decode cX4_book 2 = .ok (.invokevirtual 207, 3) := by decide +kernel
theorem dX4_book_5 : decode cX4_book 5 = .ok (.istore_n 3, 1) := by decide +kernel
theorem dX4_book_6 : decode cX4_book 6 = .ok (.iload_n 3, 1) := by decide +kernel
theorem dX4_book_7 : decode cX4_book 7 = .ok (.ifCond .ne 16, 3) := by decide +kernel
theorem dX4_book_10 : decode cX4_book 10 = .ok (.aload_n 0, 1) := by decide +kernel
theorem dX4_book_11 : decode cX4_book 11 = .ok (.iload_n 2, 1) := by decide +kernel
theorem dX4_book_12 : decode cX4_book 12 = .ok (.invokevirtual 73, 3) := by decide +kernel
theorem dX4_book_15 : decode cX4_book 15 = .ok (.ifCond .ne 8, 3) := by decide +kernel
theorem dX4_book_18 : decode cX4_book 18 = .ok (.ldc 35, 2) := by decide +kernel
theorem dX4_book_20 : decode cX4_book 20 = .ok (.goto 4, 3) := by decide +kernel
theorem dX4_book_23 : decode cX4_book 23 = .ok (.iload_n 3, 1) := by decide +kernel
theorem dX4_book_24 : decode cX4_book 24 = .ok (.istore_n 3, 1) := by decide +kernel
theorem dX4_book_25 : decode cX4_book 25 = .ok (.iload_n 3, 1) := by decide +kernel
theorem dX4_book_26 : decode cX4_book 26 = .ok (.ifCond .eq 9, 3) := by decide +kernel
theorem dX4_book_29 : decode cX4_book 29 = .ok (.aload_n 0, 1) := by decide +kernel
theorem dX4_book_30 : decode cX4_book 30 = .ok (.iload_n 3, 1) := by decide +kernel
theorem dX4_book_31 : decode cX4_book 31 = .ok (.invokevirtual 37, 3) := by decide +kernel
theorem dX4_book_34 : decode cX4_book 34 = .ok (.ireturn, 1) := by decide +kernel
theorem dX4_book_35 : decode cX4_book 35 = .ok (.aload_n 0, 1) := by decide +kernel
theorem dX4_book_36 : decode cX4_book 36 = .ok (.invokevirtual 131, 3) := by decide +kernel
theorem dX4_book_39 : decode cX4_book 39 = .ok (.iconst 0, 1) := by decide +kernel
theorem dX4_book_40 : decode cX4_book 40 = .ok (.istore 4, 2) := by decide +kernel
theorem dX4_book_42 : decode cX4_book 42 = .ok (.iload 4, 2) := by decide +kernel
theorem dX4_book_44 : decode cX4_book 44 = .ok (.aload_n 0, 1) := by decide +kernel
theorem dX4_book_45 : decode cX4_book 45 = .ok (.getfield 28, 3) := by decide +kernel
theorem dX4_book_48 : decode cX4_book 48 = .ok (.iload_n 1, 1) := by decide +kernel
theorem dX4_book_49 : decode cX4_book 49 = .ok (.iaload, 1) := by decide +kernel
theorem dX4_book_50 : decode cX4_book 50 = .ok (.if_icmp .ge 41, 3) := by decide +kernel
theorem dX4_book_53 : decode cX4_book 53 = .ok (.aload_n 0, 1) := by decide +kernel
theorem dX4_book_54 : decode cX4_book 54 = .ok (.getfield 31, 3) := by decide +kernel
theorem dX4_book_57 : decode cX4_book 57 = .ok (.bipush 40, 2) := by decide +kernel
theorem dX4_book_59 : decode cX4_book 59 = .ok (.iload_n 1, 1) := by decide +kernel
theorem dX4_book_60 : decode cX4_book 60 = .ok (.imul, 1) := by decide +kernel
theorem dX4_book_61 : decode cX4_book 61 = .ok (.iload 4, 2) := by decide +kernel
theorem dX4_book_63 : decode cX4_book 63 = .ok (.iadd, 1) := by decide +kernel
theorem dX4_book_64 : decode cX4_book 64 = .ok (.aload_n 0, 1) := by decide +kernel
theorem dX4_book_65 : decode cX4_book 65 = .ok (.getfield 25, 3) := by decide +kernel
theorem dX4_book_68 : decode cX4_book 68 = .ok (.iload_n 1, 1) := by decide +kernel
theorem dX4_book_69 : decode cX4_book 69 = .ok (.iaload, 1) := by decide +kernel
theorem dX4_book_70 : decode cX4_book 70 = .ok (.aload_n 0, 1) := by decide +kernel
theorem dX4_book_71 : decode cX4_book 71 = .ok (.iload_n 2, 1) := by decide +kernel
theorem dX4_book_72 : decode cX4_book 72 = .ok (.iconst 3, 1) := by decide +kernel
theorem dX4_book_73 : decode cX4_book 73 = .ok (.invokevirtual 49, 3) := by decide +kernel
theorem dX4_book_76 : decode cX4_book 76 = .ok (.i2l, 1) := by decide +kernel
theorem dX4_book_77 : decode cX4_book 77 = .ok (.invokestatic 210, 3) := by decide +kernel
theorem dX4_book_80 : decode cX4_book 80 = .ok (.lastore, 1) := by decide +kernel
theorem dX4_book_81 : decode cX4_book 81 = .ok (.aload_n 0, 1) := by decide +kernel
theorem dX4_book_82 : decode cX4_book 82 = .ok (.invokevirtual 110, 3) := by decide +kernel
theorem dX4_book_85 : decode cX4_book 85 = .ok (.iinc 4 1, 3) := by decide +kernel
theorem dX4_book_88 : decode cX4_book 88 = .ok (.goto (-46), 3) := by decide +kernel
theorem dX4_book_91 : decode cX4_book 91 = .ok (.aload_n 0, 1) := by decide +kernel
theorem dX4_book_92 : decode cX4_book 92 = .ok (.invokevirtual 134, 3) := by decide +kernel
theorem dX4_book_95 : decode cX4_book 95 = .ok (.aload_n 0, 1) := by decide +kernel
theorem dX4_book_96 : decode cX4_book 96 = .ok (.getfield 28, 3) := by decide +kernel
theorem dX4_book_99 : decode cX4_book 99 = .ok (.iload_n 1, 1) := by decide +kernel
theorem dX4_book_100 : decode cX4_book 100 = .ok (.iaload, 1) := by decide +kernel
theorem dX4_book_101 : decode cX4_book 101 = .ok (.ireturn, 1) := by decide +kernel
set_option maxRecDepth 20000 in
theorem ggX4_isBook_X4_it : GoodIn wsX4_isBook wsX4_it := goodIn_r _ [7, 8, 58, 59, 60, 61, 62, 63, 64, 65, 66, 67, 68, 69, 70, 71, 72, 73] rfl (by decide +kernel)
set_option maxRecDepth 20000 in
theorem gX4_isBook_X4_it : GoodIn wsX4_isBook (wsV RX4 49 RX4 yX4_it wsX4_it) := goodIn_app (goodIn_of _ (by decide +kernel)) ggX4_isBook_X4_it
set_option maxRecDepth 20000 in
theorem ggX4_isBook_X4_goes : GoodIn wsX4_isBook wsX4_goes := goodIn_r _ [12, 13, 8, 14, 15, 16, 6, 17, 18, 19, 20, 21, 22, 3, 4, 5, 7, 23, 24, 25, 26, 27, 28, 29, 30, 31, 32, 33, 34, 35, 36, 37, 38, 39, 40, 41, 42, 43, 44, 45, 46, 47, 48, 49, 58, 59, 60, 61, 62, 63, 64, 65, 66, 67, 68, 69, 70, 71, 72, 73] rfl (by decide +kernel)
set_option maxRecDepth 20000 in
theorem gX4_isBook_X4_goes : GoodIn wsX4_isBook (wsV RX4 110 RX4 yX4_goes wsX4_goes) := goodIn_app (goodIn_of _ (by decide +kernel)) ggX4_isBook_X4_goes
set_option maxRecDepth 20000 in
theorem ggX4_isBook_X4_putsBack : GoodIn wsX4_isBook wsX4_putsBack := goodIn_r _ [53, 54, 8, 55, 56, 6, 57, 58, 59, 60, 61, 62, 63, 64, 65, 66, 67, 68, 69, 70, 71, 72, 73] rfl (by decide +kernel)
set_option maxRecDepth 20000 in
theorem gX4_isBook_X4_putsBack : GoodIn wsX4_isBook (wsV RX4 134 RX4 yX4_putsBack wsX4_putsBack) := goodIn_app (goodIn_of _ (by decide +kernel)) ggX4_isBook_X4_putsBack
theorem dX4_isBook_0 : decode cX4_isBook 0 = .ok (.iconst 1, 1) := by decide +kernel
theorem dX4_isBook_1 : decode cX4_isBook 1 = .ok (.istore_n 3, 1) := by decide +kernel
theorem dX4_isBook_2 : decode cX4_isBook 2 = .ok (.iconst 0, 1) := by decide +kernel
theorem dX4_isBook_3 : decode cX4_isBook 3 = .ok (.istore 4, 2) := by decide +kernel
theorem dX4_isBook_5 : decode cX4_isBook 5 = .ok (.iload 4, 2) := by decide +kernel
theorem dX4_isBook_7 : decode cX4_isBook 7 = .ok (.aload_n 0, 1) := by decide +kernel
theorem dX4_isBook_8 : decode cX4_isBook 8 = .ok (.getfield 28, 3) := by decide +kernel
theorem dX4_isBook_11 : decode cX4_isBook 11 = .ok (.iload_n 1, 1) := by decide +kernel
theorem dX4_isBook_12 : decode cX4_isBook 12 = .ok (.iaload, 1) := by decide +kernel
theorem dX4_isBook_13 : decode cX4_isBook 13 = .ok (.if_icmp .ge 46, 3) := by decide +kernel
theorem dX4_isBook_16 : decode cX4_isBook 16 = .ok (.iload_n 3, 1) := by decide +kernel
theorem dX4_isBook_17 : decode cX4_isBook 17 = .ok (.ifCond .eq 42, 3) := by decide +kernel
theorem dX4_isBook_20 : decode cX4_isBook 20 = .ok (.aload_n 0, 1) := by decide +kernel
theorem dX4_isBook_21 : decode cX4_isBook 21 = .ok (.getfield 31, 3) := by decide +kernel
theorem dX4_isBook_24 : decode cX4_isBook 24 = .ok (.bipush 40, 2) := by decide +kernel
theorem dX4_isBook_26 : decode cX4_isBook 26 = .ok (.iload_n 1, 1) := by decide +kernel
theorem dX4_isBook_27 : decode cX4_isBook 27 = .ok (.imul, 1) := by decide +kernel
theorem dX4_isBook_28 : decode cX4_isBook 28 = .ok (.iload 4, 2) := by decide +kernel
theorem dX4_isBook_30 : decode cX4_isBook 30 = .ok (.iadd, 1) := by decide +kernel
theorem dX4_isBook_31 : decode cX4_isBook 31 = .ok (.laload, 1) := by decide +kernel
theorem dX4_isBook_32 : decode cX4_isBook 32 = .ok (.aload_n 0, 1) := by decide +kernel
theorem dX4_isBook_33 : decode cX4_isBook 33 = .ok (.iload_n 2, 1) := by decide +kernel
theorem dX4_isBook_34 : decode cX4_isBook 34 = .ok (.iconst 3, 1) := by decide +kernel
theorem dX4_isBook_35 : decode cX4_isBook 35 = .ok (.invokevirtual 49, 3) := by decide +kernel
theorem dX4_isBook_38 : decode cX4_isBook 38 = .ok (.i2l, 1) := by decide +kernel
theorem dX4_isBook_39 : decode cX4_isBook 39 = .ok (.lcmp, 1) := by decide +kernel
theorem dX4_isBook_40 : decode cX4_isBook 40 = .ok (.ifCond .ne 7, 3) := by decide +kernel
theorem dX4_isBook_43 : decode cX4_isBook 43 = .ok (.iconst 1, 1) := by decide +kernel
theorem dX4_isBook_44 : decode cX4_isBook 44 = .ok (.goto 4, 3) := by decide +kernel
theorem dX4_isBook_47 : decode cX4_isBook 47 = .ok (.iconst 0, 1) := by decide +kernel
theorem dX4_isBook_48 : decode cX4_isBook 48 = .ok (.istore_n 3, 1) := by decide +kernel
theorem dX4_isBook_49 : decode cX4_isBook 49 = .ok (.aload_n 0, 1) := by decide +kernel
theorem dX4_isBook_50 : decode cX4_isBook 50 = .ok (.invokevirtual 110, 3) := by decide +kernel
theorem dX4_isBook_53 : decode cX4_isBook 53 = .ok (.iinc 4 1, 3) := by decide +kernel
theorem dX4_isBook_56 : decode cX4_isBook 56 = .ok (.goto (-51), 3) := by decide +kernel
theorem dX4_isBook_59 : decode cX4_isBook 59 = .ok (.aload_n 0, 1) := by decide +kernel
theorem dX4_isBook_60 : decode cX4_isBook 60 = .ok (.invokevirtual 134, 3) := by decide +kernel
theorem dX4_isBook_63 : decode cX4_isBook 63 = .ok (.iload_n 3, 1) := by decide +kernel
theorem dX4_isBook_64 : decode cX4_isBook 64 = .ok (.ireturn, 1) := by decide +kernel
set_option maxRecDepth 20000 in
theorem ggX4_read_X4_notThere : GoodIn wsX4_read wsX4_notThere := goodIn_r _ [7, 1, 8, 9, 10, 11, 6, 12, 13, 14, 15, 92, 93, 94, 95, 96, 97, 98, 99, 100, 101, 102, 103, 104, 105, 106, 107] rfl (by decide +kernel)
set_option maxRecDepth 20000 in
theorem gX4_read_X4_notThere : GoodIn wsX4_read (wsV RX4 207 RX4 yX4_notThere wsX4_notThere) := goodIn_app (goodIn_of _ (by decide +kernel)) ggX4_read_X4_notThere
set_option maxRecDepth 20000 in
theorem ggX4_read_X4_isThere : GoodIn wsX4_read wsX4_isThere := goodIn_r _ [19, 2, 13, 14, 6, 15, 92, 93, 94, 95, 96, 97, 98, 99, 100, 101, 102, 103, 104, 105, 106, 107] rfl (by decide +kernel)
set_option maxRecDepth 20000 in
theorem gX4_read_X4_isThere : GoodIn wsX4_read (wsV RX4 73 RX4 yX4_isThere wsX4_isThere) := goodIn_app (goodIn_of _ (by decide +kernel)) ggX4_read_X4_isThere
set_option maxRecDepth 20000 in
theorem ggX4_read_X4_isSpeech : GoodIn wsX4_read wsX4_isSpeech := goodIn_r _ [23, 2, 13, 14, 6, 15, 92, 93, 94, 95, 96, 97, 98, 99, 100, 101, 102, 103, 104, 105, 106, 107] rfl (by decide +kernel)
set_option maxRecDepth 20000 in
theorem gX4_read_X4_isSpeech : GoodIn wsX4_read (wsV RX4 96 RX4 yX4_isSpeech wsX4_isSpeech) := goodIn_app (goodIn_of _ (by decide +kernel)) ggX4_read_X4_isSpeech
set_option maxRecDepth 20000 in
theorem ggX4_read_X4_finds : GoodIn wsX4_read wsX4_finds := goodIn_r _ [27, 28, 1, 92, 93, 94, 95, 96, 97, 98, 99, 100, 101, 102, 103, 104, 105, 106, 107] rfl (by decide +kernel)
set_option maxRecDepth 20000 in
theorem gX4_read_X4_finds : GoodIn wsX4_read (wsV RX4 37 RX4 yX4_finds wsX4_finds) := goodIn_app (goodIn_of _ (by decide +kernel)) ggX4_read_X4_finds
set_option maxRecDepth 20000 in
theorem ggX4_read_X4_thinks : GoodIn wsX4_read wsX4_thinks := goodIn_r _ [32, 2, 33, 34, 35, 6, 36, 92, 93, 94, 95, 96, 97, 98, 99, 100, 101, 102, 103, 104, 105, 106, 107] rfl (by decide +kernel)
set_option maxRecDepth 20000 in
theorem gX4_read_X4_thinks : GoodIn wsX4_read (wsV RX4 131 RX4 yX4_thinks wsX4_thinks) := goodIn_app (goodIn_of _ (by decide +kernel)) ggX4_read_X4_thinks
set_option maxRecDepth 20000 in
theorem ggX4_read_X4_put : GoodIn wsX4_read wsX4_put := goodIn_r _ [40, 2, 92, 93, 94, 95, 96, 97, 98, 99, 100, 101, 102, 103, 104, 105, 106, 107] rfl (by decide +kernel)
set_option maxRecDepth 20000 in
theorem gX4_read_X4_put : GoodIn wsX4_read (wsV RX4 65 RX4 yX4_put wsX4_put) := goodIn_app (goodIn_of _ (by decide +kernel)) ggX4_read_X4_put
set_option maxRecDepth 20000 in
theorem ggX4_read_X4_isBook : GoodIn wsX4_read wsX4_isBook := goodIn_r _ [44, 45, 46, 47, 48, 49, 6, 50, 2, 51, 52, 53, 54, 55, 56, 57, 58, 59, 60, 61, 62, 63, 64, 65, 66, 67, 68, 69, 70, 71, 72, 73, 74, 75, 76, 77, 78, 79, 80, 81, 82, 83, 37, 38, 39, 40, 84, 85, 86, 87, 88, 89, 90, 91, 33, 34, 35, 36, 92, 93, 94, 95, 96, 97, 98, 99, 100, 101, 102, 103, 104, 105, 106, 107] rfl (by decide +kernel)
set_option maxRecDepth 20000 in
theorem gX4_read_X4_isBook : GoodIn wsX4_read (wsV RX4 218 RX4 yX4_isBook wsX4_isBook) := goodIn_app (goodIn_of _ (by decide +kernel)) ggX4_read_X4_isBook
theorem dX4_read_0 : decode cX4_read 0 = .ok (.aload_n 0, 1) := by decide +kernel
theorem dX4_read_1 : decode cX4_read 1 = .ok (.iload_n 1, 1) := by decide +kernel
theorem dX4_read_2 : decode cX4_read 2 = .ok (.invokevirtual 207, 3) := by decide +kernel
theorem dX4_read_5 : decode cX4_read 5 = .ok (.istore 4, 2) := by decide +kernel
theorem dX4_read_7 : decode cX4_read 7 = .ok (.iload 4, 2) := by decide +kernel
theorem dX4_read_9 : decode cX4_read 9 = .ok (.ifCond .ne 24, 3) := by decide +kernel
theorem dX4_read_12 : decode cX4_read 12 = .ok (.aload_n 0, 1) := by decide +kernel
theorem dX4_read_13 : decode cX4_read 13 = .ok (.iload_n 2, 1) := by decide +kernel
theorem dX4_read_14 : decode cX4_read 14 = .ok (.invokevirtual 73, 3) := by decide +kernel
theorem dX4_read_17 : decode cX4_read 17 = .ok (.ifCond .eq 11, 3) := by decide +kernel
theorem dX4_read_20 : decode cX4_read 20 = .ok (.aload_n 0, 1) := by decide +kernel
theorem dX4_read_21 : decode cX4_read 21 = .ok (.iload_n 3, 1) := by decide +kernel
theorem dX4_read_22 : decode cX4_read 22 = .ok (.invokevirtual 96, 3) := by decide +kernel
theorem dX4_read_25 : decode cX4_read 25 = .ok (.ifCond .ne 8, 3) := by decide +kernel
theorem dX4_read_28 : decode cX4_read 28 = .ok (.ldc 35, 2) := by decide +kernel
theorem dX4_read_30 : decode cX4_read 30 = .ok (.goto 5, 3) := by decide +kernel
theorem dX4_read_33 : decode cX4_read 33 = .ok (.iload 4, 2) := by decide +kernel
theorem dX4_read_35 : decode cX4_read 35 = .ok (.istore 4, 2) := by decide +kernel
theorem dX4_read_37 : decode cX4_read 37 = .ok (.iload 4, 2) := by decide +kernel
theorem dX4_read_39 : decode cX4_read 39 = .ok (.ifCond .eq 10, 3) := by decide +kernel
theorem dX4_read_42 : decode cX4_read 42 = .ok (.aload_n 0, 1) := by decide +kernel
theorem dX4_read_43 : decode cX4_read 43 = .ok (.iload 4, 2) := by decide +kernel
theorem dX4_read_45 : decode cX4_read 45 = .ok (.invokevirtual 37, 3) := by decide +kernel
theorem dX4_read_48 : decode cX4_read 48 = .ok (.ireturn, 1) := by decide +kernel
theorem dX4_read_49 : decode cX4_read 49 = .ok (.aload_n 0, 1) := by decide +kernel
theorem dX4_read_50 : decode cX4_read 50 = .ok (.invokevirtual 131, 3) := by decide +kernel
theorem dX4_read_53 : decode cX4_read 53 = .ok (.iconst 0, 1) := by decide +kernel
theorem dX4_read_54 : decode cX4_read 54 = .ok (.istore 5, 2) := by decide +kernel
theorem dX4_read_56 : decode cX4_read 56 = .ok (.iconst 0, 1) := by decide +kernel
theorem dX4_read_57 : decode cX4_read 57 = .ok (.istore 6, 2) := by decide +kernel
theorem dX4_read_59 : decode cX4_read 59 = .ok (.iload 6, 2) := by decide +kernel
theorem dX4_read_61 : decode cX4_read 61 = .ok (.sipush 600, 3) := by decide +kernel
theorem dX4_read_64 : decode cX4_read 64 = .ok (.if_icmp .ge 57, 3) := by decide +kernel
theorem dX4_read_67 : decode cX4_read 67 = .ok (.aload_n 0, 1) := by decide +kernel
theorem dX4_read_68 : decode cX4_read 68 = .ok (.iload_n 2, 1) := by decide +kernel
theorem dX4_read_69 : decode cX4_read 69 = .ok (.iconst 0, 1) := by decide +kernel
theorem dX4_read_70 : decode cX4_read 70 = .ok (.iload 6, 2) := by decide +kernel
theorem dX4_read_72 : decode cX4_read 72 = .ok (.bipush 100, 2) := by decide +kernel
theorem dX4_read_74 : decode cX4_read 74 = .ok (.idiv, 1) := by decide +kernel
theorem dX4_read_75 : decode cX4_read 75 = .ok (.invokevirtual 65, 3) := by decide +kernel
theorem dX4_read_78 : decode cX4_read 78 = .ok (.aload_n 0, 1) := by decide +kernel
theorem dX4_read_79 : decode cX4_read 79 = .ok (.getfield 9, 3) := by decide +kernel
theorem dX4_read_82 : decode cX4_read 82 = .ok (.bipush 43, 2) := by decide +kernel
theorem dX4_read_84 : decode cX4_read 84 = .ok (.iconst 4, 1) := by decide +kernel
theorem dX4_read_85 : decode cX4_read 85 = .ok (.iload_n 3, 1) := by decide +kernel
theorem dX4_read_86 : decode cX4_read 86 = .ok (.imul, 1) := by decide +kernel
theorem dX4_read_87 : decode cX4_read 87 = .ok (.iadd, 1) := by decide +kernel
theorem dX4_read_88 : decode cX4_read 88 = .ok (.iconst 3, 1) := by decide +kernel
theorem dX4_read_89 : decode cX4_read 89 = .ok (.iadd, 1) := by decide +kernel
theorem dX4_read_90 : decode cX4_read 90 = .ok (.iload 6, 2) := by decide +kernel
theorem dX4_read_92 : decode cX4_read 92 = .ok (.bipush 100, 2) := by decide +kernel
theorem dX4_read_94 : decode cX4_read 94 = .ok (.irem, 1) := by decide +kernel
theorem dX4_read_95 : decode cX4_read 95 = .ok (.iastore, 1) := by decide +kernel
theorem dX4_read_96 : decode cX4_read 96 = .ok (.iload 5, 2) := by decide +kernel
theorem dX4_read_98 : decode cX4_read 98 = .ok (.aload_n 0, 1) := by decide +kernel
theorem dX4_read_99 : decode cX4_read 99 = .ok (.iload_n 1, 1) := by decide +kernel
theorem dX4_read_100 : decode cX4_read 100 = .ok (.iload_n 2, 1) := by decide +kernel
theorem dX4_read_101 : decode cX4_read 101 = .ok (.invokevirtual 218, 3) := by decide +kernel
theorem dX4_read_104 : decode cX4_read 104 = .ok (.ifCond .eq 7, 3) := by decide +kernel
theorem dX4_read_107 : decode cX4_read 107 = .ok (.iconst 1, 1) := by decide +kernel
theorem dX4_read_108 : decode cX4_read 108 = .ok (.goto 4, 3) := by decide +kernel
theorem dX4_read_111 : decode cX4_read 111 = .ok (.iconst 0, 1) := by decide +kernel
theorem dX4_read_112 : decode cX4_read 112 = .ok (.iadd, 1) := by decide +kernel
theorem dX4_read_113 : decode cX4_read 113 = .ok (.istore 5, 2) := by decide +kernel
theorem dX4_read_115 : decode cX4_read 115 = .ok (.iinc 6 1, 3) := by decide +kernel
theorem dX4_read_118 : decode cX4_read 118 = .ok (.goto (-59), 3) := by decide +kernel
theorem dX4_read_121 : decode cX4_read 121 = .ok (.iload 5, 2) := by decide +kernel
theorem dX4_read_123 : decode cX4_read 123 = .ok (.ireturn, 1) := by decide +kernel
set_option maxRecDepth 20000 in
theorem ggX4_image_X4_copyAll : GoodIn wsX4_image wsX4_copyAll := goodIn_r _ [7] rfl (by decide +kernel)
set_option maxRecDepth 20000 in
theorem gX4_image_X4_copyAll : GoodIn wsX4_image (va_wsS RX4 127 yX4_copyAll wsX4_copyAll) := goodIn_app (goodIn_of _ (by decide +kernel)) ggX4_image_X4_copyAll
theorem dX4_image_0 : decode cX4_image 0 = .ok (.aload_n 0, 1) := by decide +kernel
theorem dX4_image_1 : decode cX4_image 1 = .ok (.getfield 9, 3) := by decide +kernel
theorem dX4_image_4 : decode cX4_image 4 = .ok (.aload_n 0, 1) := by decide +kernel
theorem dX4_image_5 : decode cX4_image 5 = .ok (.getfield 13, 3) := by decide +kernel
theorem dX4_image_8 : decode cX4_image 8 = .ok (.invokestatic 127, 3) := by decide +kernel
theorem dX4_image_11 : decode cX4_image 11 = .ok (.aload_n 0, 1) := by decide +kernel
theorem dX4_image_12 : decode cX4_image 12 = .ok (.iconst 1, 1) := by decide +kernel
theorem dX4_image_13 : decode cX4_image 13 = .ok (.putfield 221, 3) := by decide +kernel
theorem dX4_image_16 : decode cX4_image 16 = .ok (.iconst 1, 1) := by decide +kernel
theorem dX4_image_17 : decode cX4_image 17 = .ok (.ireturn, 1) := by decide +kernel
set_option maxRecDepth 20000 in
theorem ggX4_undo_X4_finds : GoodIn wsX4_undo wsX4_finds := goodIn_r _ [9, 10, 11, 15, 16, 17, 18, 19, 20, 21, 22, 23, 24, 25, 26, 27, 28, 29, 30] rfl (by decide +kernel)
set_option maxRecDepth 20000 in
theorem gX4_undo_X4_finds : GoodIn wsX4_undo (wsV RX4 37 RX4 yX4_finds wsX4_finds) := goodIn_app (goodIn_of _ (by decide +kernel)) ggX4_undo_X4_finds
set_option maxRecDepth 20000 in
theorem ggX4_undo_X4_copyAll : GoodIn wsX4_undo wsX4_copyAll := goodIn_r _ [14] rfl (by decide +kernel)
set_option maxRecDepth 20000 in
theorem gX4_undo_X4_copyAll : GoodIn wsX4_undo (va_wsS RX4 127 yX4_copyAll wsX4_copyAll) := goodIn_app (goodIn_of _ (by decide +kernel)) ggX4_undo_X4_copyAll
theorem dX4_undo_0 : decode cX4_undo 0 = .ok (.aload_n 0, 1) := by decide +kernel
theorem dX4_undo_1 : decode cX4_undo 1 = .ok (.getfield 221, 3) := by decide +kernel
theorem dX4_undo_4 : decode cX4_undo 4 = .ok (.ifCond .ne 10, 3) := by decide +kernel
theorem dX4_undo_7 : decode cX4_undo 7 = .ok (.aload_n 0, 1) := by decide +kernel
theorem dX4_undo_8 : decode cX4_undo 8 = .ok (.ldc 36, 2) := by decide +kernel
theorem dX4_undo_10 : decode cX4_undo 10 = .ok (.invokevirtual 37, 3) := by decide +kernel
theorem dX4_undo_13 : decode cX4_undo 13 = .ok (.ireturn, 1) := by decide +kernel
theorem dX4_undo_14 : decode cX4_undo 14 = .ok (.aload_n 0, 1) := by decide +kernel
theorem dX4_undo_15 : decode cX4_undo 15 = .ok (.getfield 13, 3) := by decide +kernel
theorem dX4_undo_18 : decode cX4_undo 18 = .ok (.aload_n 0, 1) := by decide +kernel
theorem dX4_undo_19 : decode cX4_undo 19 = .ok (.getfield 9, 3) := by decide +kernel
theorem dX4_undo_22 : decode cX4_undo 22 = .ok (.invokestatic 127, 3) := by decide +kernel
theorem dX4_undo_25 : decode cX4_undo 25 = .ok (.aload_n 0, 1) := by decide +kernel
theorem dX4_undo_26 : decode cX4_undo 26 = .ok (.getfield 9, 3) := by decide +kernel
theorem dX4_undo_29 : decode cX4_undo 29 = .ok (.iconst 1, 1) := by decide +kernel
theorem dX4_undo_30 : decode cX4_undo 30 = .ok (.iaload, 1) := by decide +kernel
theorem dX4_undo_31 : decode cX4_undo 31 = .ok (.ireturn, 1) := by decide +kernel
theorem dX4_tear_0 : decode cX4_tear 0 = .ok (.aload_n 0, 1) := by decide +kernel
theorem dX4_tear_1 : decode cX4_tear 1 = .ok (.getfield 221, 3) := by decide +kernel
theorem dX4_tear_4 : decode cX4_tear 4 = .ok (.ifCond .eq 7, 3) := by decide +kernel
theorem dX4_tear_7 : decode cX4_tear 7 = .ok (.iconst 1, 1) := by decide +kernel
theorem dX4_tear_8 : decode cX4_tear 8 = .ok (.goto 4, 3) := by decide +kernel
theorem dX4_tear_11 : decode cX4_tear 11 = .ok (.iconst 0, 1) := by decide +kernel
theorem dX4_tear_12 : decode cX4_tear 12 = .ok (.istore_n 1, 1) := by decide +kernel
theorem dX4_tear_13 : decode cX4_tear 13 = .ok (.aload_n 0, 1) := by decide +kernel
theorem dX4_tear_14 : decode cX4_tear 14 = .ok (.iconst 0, 1) := by decide +kernel
theorem dX4_tear_15 : decode cX4_tear 15 = .ok (.putfield 221, 3) := by decide +kernel
theorem dX4_tear_18 : decode cX4_tear 18 = .ok (.iload_n 1, 1) := by decide +kernel
theorem dX4_tear_19 : decode cX4_tear 19 = .ok (.ireturn, 1) := by decide +kernel
set_option maxRecDepth 20000 in
theorem ggX4_allWept_X4_it : GoodIn wsX4_allWept wsX4_it := goodIn_r _ [6, 1, 7, 8, 9, 10, 11, 12, 13, 14, 15, 16, 17, 18, 19, 20, 21, 22] rfl (by decide +kernel)
set_option maxRecDepth 20000 in
theorem gX4_allWept_X4_it : GoodIn wsX4_allWept (wsV RX4 49 RX4 yX4_it wsX4_it) := goodIn_app (goodIn_of _ (by decide +kernel)) ggX4_allWept_X4_it
theorem dX4_allWept_0 : decode cX4_allWept 0 = .ok (.iconst 0, 1) := by decide +kernel
theorem dX4_allWept_1 : decode cX4_allWept 1 = .ok (.istore_n 1, 1) := by decide +kernel
theorem dX4_allWept_2 : decode cX4_allWept 2 = .ok (.iconst 0, 1) := by decide +kernel
theorem dX4_allWept_3 : decode cX4_allWept 3 = .ok (.istore_n 2, 1) := by decide +kernel
theorem dX4_allWept_4 : decode cX4_allWept 4 = .ok (.iload_n 2, 1) := by decide +kernel
theorem dX4_allWept_5 : decode cX4_allWept 5 = .ok (.aload_n 0, 1) := by decide +kernel
theorem dX4_allWept_6 : decode cX4_allWept 6 = .ok (.getfield 9, 3) := by decide +kernel
theorem dX4_allWept_9 : decode cX4_allWept 9 = .ok (.iconst 1, 1) := by decide +kernel
theorem dX4_allWept_10 : decode cX4_allWept 10 = .ok (.iaload, 1) := by decide +kernel
theorem dX4_allWept_11 : decode cX4_allWept 11 = .ok (.if_icmp .ge 18, 3) := by decide +kernel
theorem dX4_allWept_14 : decode cX4_allWept 14 = .ok (.iload_n 1, 1) := by decide +kernel
theorem dX4_allWept_15 : decode cX4_allWept 15 = .ok (.aload_n 0, 1) := by decide +kernel
theorem dX4_allWept_16 : decode cX4_allWept 16 = .ok (.iload_n 2, 1) := by decide +kernel
theorem dX4_allWept_17 : decode cX4_allWept 17 = .ok (.iconst 4, 1) := by decide +kernel
theorem dX4_allWept_18 : decode cX4_allWept 18 = .ok (.invokevirtual 49, 3) := by decide +kernel
theorem dX4_allWept_21 : decode cX4_allWept 21 = .ok (.iadd, 1) := by decide +kernel
theorem dX4_allWept_22 : decode cX4_allWept 22 = .ok (.istore_n 1, 1) := by decide +kernel
theorem dX4_allWept_23 : decode cX4_allWept 23 = .ok (.iinc 2 1, 3) := by decide +kernel
theorem dX4_allWept_26 : decode cX4_allWept 26 = .ok (.goto (-22), 3) := by decide +kernel
theorem dX4_allWept_29 : decode cX4_allWept 29 = .ok (.iload_n 1, 1) := by decide +kernel
theorem dX4_allWept_30 : decode cX4_allWept 30 = .ok (.ireturn, 1) := by decide +kernel
set_option maxRecDepth 20000 in
theorem ggX4_count_X4_allWept : GoodIn wsX4_count wsX4_allWept := goodIn_r _ [8, 1, 9, 10, 11, 7, 12, 18, 19, 20, 21, 22, 23, 24, 25, 26, 27, 28, 29, 30, 31, 32, 33] rfl (by decide +kernel)
set_option maxRecDepth 20000 in
theorem gX4_count_X4_allWept : GoodIn wsX4_count (wsV RX4 224 RX4 yX4_allWept wsX4_allWept) := goodIn_app (goodIn_of _ (by decide +kernel)) ggX4_count_X4_allWept
set_option maxRecDepth 20000 in
theorem ggX4_count_X4_finds : GoodIn wsX4_count wsX4_finds := goodIn_r _ [16, 17, 3, 18, 19, 20, 21, 22, 23, 24, 25, 26, 27, 28, 29, 30, 31, 32, 33] rfl (by decide +kernel)
set_option maxRecDepth 20000 in
theorem gX4_count_X4_finds : GoodIn wsX4_count (wsV RX4 37 RX4 yX4_finds wsX4_finds) := goodIn_app (goodIn_of _ (by decide +kernel)) ggX4_count_X4_finds
theorem dX4_count_0 : decode cX4_count 0 = .ok (.iload_n 1, 1) := by decide +kernel
theorem dX4_count_1 : decode cX4_count 1 = .ok (.tableswitch 50 0 3 #[31, 31, 40, 45], 31) := by decide +kernel
theorem dX4_count_32 : decode cX4_count 32 = .ok (.aload_n 0, 1) := by decide +kernel
theorem dX4_count_33 : decode cX4_count 33 = .ok (.getfield 9, 3) := by decide +kernel
theorem dX4_count_36 : decode cX4_count 36 = .ok (.iconst 1, 1) := by decide +kernel
theorem dX4_count_37 : decode cX4_count 37 = .ok (.iload_n 1, 1) := by decide +kernel
theorem dX4_count_38 : decode cX4_count 38 = .ok (.iadd, 1) := by decide +kernel
theorem dX4_count_39 : decode cX4_count 39 = .ok (.iaload, 1) := by decide +kernel
theorem dX4_count_40 : decode cX4_count 40 = .ok (.ireturn, 1) := by decide +kernel
theorem dX4_count_41 : decode cX4_count 41 = .ok (.aload_n 0, 1) := by decide +kernel
theorem dX4_count_42 : decode cX4_count 42 = .ok (.getfield 146, 3) := by decide +kernel
theorem dX4_count_45 : decode cX4_count 45 = .ok (.ireturn, 1) := by decide +kernel
theorem dX4_count_46 : decode cX4_count 46 = .ok (.aload_n 0, 1) := by decide +kernel
theorem dX4_count_47 : decode cX4_count 47 = .ok (.invokevirtual 224, 3) := by decide +kernel
theorem dX4_count_50 : decode cX4_count 50 = .ok (.ireturn, 1) := by decide +kernel
theorem dX4_count_51 : decode cX4_count 51 = .ok (.aload_n 0, 1) := by decide +kernel
theorem dX4_count_52 : decode cX4_count 52 = .ok (.ldc 35, 2) := by decide +kernel
theorem dX4_count_54 : decode cX4_count 54 = .ok (.invokevirtual 37, 3) := by decide +kernel
theorem dX4_count_57 : decode cX4_count 57 = .ok (.ireturn, 1) := by decide +kernel
set_option maxRecDepth 20000 in
theorem ggX4_status_X4_in : GoodIn wsX4_status wsX4_in := goodIn_r _ [6] rfl (by decide +kernel)
set_option maxRecDepth 20000 in
theorem gX4_status_X4_in : GoodIn wsX4_status (va_wsS RX4 41 yX4_in wsX4_in) := goodIn_app (goodIn_of _ (by decide +kernel)) ggX4_status_X4_in
set_option maxRecDepth 20000 in
theorem ggX4_status_X4_finds : GoodIn wsX4_status wsX4_finds := goodIn_r _ [10, 2, 1, 11, 12, 13, 14, 15, 16, 17, 18, 19, 20, 21, 22, 23, 24, 25, 26] rfl (by decide +kernel)
set_option maxRecDepth 20000 in
theorem gX4_status_X4_finds : GoodIn wsX4_status (wsV RX4 37 RX4 yX4_finds wsX4_finds) := goodIn_app (goodIn_of _ (by decide +kernel)) ggX4_status_X4_finds
theorem dX4_status_0 : decode cX4_status 0 = .ok (.iload_n 1, 1) := by decide +kernel
theorem dX4_status_1 : decode cX4_status 1 = .ok (.i2l, 1) := by decide +kernel
theorem dX4_status_2 : decode cX4_status 2 = .ok (.iconst (-1), 1) := by decide +kernel
theorem dX4_status_3 : decode cX4_status 3 = .ok (.bipush 6, 2) := by decide +kernel
theorem dX4_status_5 : decode cX4_status 5 = .ok (.invokestatic 41, 3) := by decide +kernel
theorem dX4_status_8 : decode cX4_status 8 = .ok (.ifCond .ne 10, 3) := by decide +kernel
theorem dX4_status_11 : decode cX4_status 11 = .ok (.aload_n 0, 1) := by decide +kernel
theorem dX4_status_12 : decode cX4_status 12 = .ok (.ldc 35, 2) := by decide +kernel
theorem dX4_status_14 : decode cX4_status 14 = .ok (.invokevirtual 37, 3) := by decide +kernel
theorem dX4_status_17 : decode cX4_status 17 = .ok (.ireturn, 1) := by decide +kernel
theorem dX4_status_18 : decode cX4_status 18 = .ok (.iconst 0, 1) := by decide +kernel
theorem dX4_status_19 : decode cX4_status 19 = .ok (.istore_n 2, 1) := by decide +kernel
theorem dX4_status_20 : decode cX4_status 20 = .ok (.iconst 0, 1) := by decide +kernel
theorem dX4_status_21 : decode cX4_status 21 = .ok (.istore_n 3, 1) := by decide +kernel
theorem dX4_status_22 : decode cX4_status 22 = .ok (.iload_n 3, 1) := by decide +kernel
theorem dX4_status_23 : decode cX4_status 23 = .ok (.bipush 7, 2) := by decide +kernel
theorem dX4_status_25 : decode cX4_status 25 = .ok (.if_icmp .ge 31, 3) := by decide +kernel
theorem dX4_status_28 : decode cX4_status 28 = .ok (.iload_n 2, 1) := by decide +kernel
theorem dX4_status_29 : decode cX4_status 29 = .ok (.iload_n 1, 1) := by decide +kernel
theorem dX4_status_30 : decode cX4_status 30 = .ok (.ifCond .lt 8, 3) := by decide +kernel
theorem dX4_status_33 : decode cX4_status 33 = .ok (.iload_n 1, 1) := by decide +kernel
theorem dX4_status_34 : decode cX4_status 34 = .ok (.iload_n 3, 1) := by decide +kernel
theorem dX4_status_35 : decode cX4_status 35 = .ok (.if_icmp .ne 12, 3) := by decide +kernel
theorem dX4_status_38 : decode cX4_status 38 = .ok (.aload_n 0, 1) := by decide +kernel
theorem dX4_status_39 : decode cX4_status 39 = .ok (.getfield 19, 3) := by decide +kernel
theorem dX4_status_42 : decode cX4_status 42 = .ok (.iload_n 3, 1) := by decide +kernel
theorem dX4_status_43 : decode cX4_status 43 = .ok (.iaload, 1) := by decide +kernel
theorem dX4_status_44 : decode cX4_status 44 = .ok (.goto 4, 3) := by decide +kernel
theorem dX4_status_47 : decode cX4_status 47 = .ok (.iconst 0, 1) := by decide +kernel
theorem dX4_status_48 : decode cX4_status 48 = .ok (.iadd, 1) := by decide +kernel
theorem dX4_status_49 : decode cX4_status 49 = .ok (.istore_n 2, 1) := by decide +kernel
theorem dX4_status_50 : decode cX4_status 50 = .ok (.iinc 3 1, 3) := by decide +kernel
theorem dX4_status_53 : decode cX4_status 53 = .ok (.goto (-31), 3) := by decide +kernel
theorem dX4_status_56 : decode cX4_status 56 = .ok (.iload_n 2, 1) := by decide +kernel
theorem dX4_status_57 : decode cX4_status 57 = .ok (.ireturn, 1) := by decide +kernel
