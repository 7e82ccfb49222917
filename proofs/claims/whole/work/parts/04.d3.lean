theorem dX3_init_0 : decode cX3_init 0 = .ok (.aload_n 0, 1) := by decide +kernel
theorem dX3_init_1 : decode cX3_init 1 = .ok (.invokespecial 1, 3) := by decide +kernel
theorem dX3_init_4 : decode cX3_init 4 = .ok (.aload_n 0, 1) := by decide +kernel
theorem dX3_init_5 : decode cX3_init 5 = .ok (.new 7, 3) := by decide +kernel
theorem dX3_init_8 : decode cX3_init 8 = .ok (.dup, 1) := by decide +kernel
theorem dX3_init_9 : decode cX3_init 9 = .ok (.invokespecial 9, 3) := by decide +kernel
theorem dX3_init_12 : decode cX3_init 12 = .ok (.putfield 10, 3) := by decide +kernel
theorem dX3_init_15 : decode cX3_init 15 = .ok (.aload_n 0, 1) := by decide +kernel
theorem dX3_init_16 : decode cX3_init 16 = .ok (.new 7, 3) := by decide +kernel
theorem dX3_init_19 : decode cX3_init 19 = .ok (.dup, 1) := by decide +kernel
theorem dX3_init_20 : decode cX3_init 20 = .ok (.invokespecial 9, 3) := by decide +kernel
theorem dX3_init_23 : decode cX3_init 23 = .ok (.putfield 16, 3) := by decide +kernel
theorem dX3_init_26 : decode cX3_init 26 = .ok (.aload_n 0, 1) := by decide +kernel
theorem dX3_init_27 : decode cX3_init 27 = .ok (.new 7, 3) := by decide +kernel
theorem dX3_init_30 : decode cX3_init 30 = .ok (.dup, 1) := by decide +kernel
theorem dX3_init_31 : decode cX3_init 31 = .ok (.invokespecial 9, 3) := by decide +kernel
theorem dX3_init_34 : decode cX3_init 34 = .ok (.putfield 19, 3) := by decide +kernel
theorem dX3_init_37 : decode cX3_init 37 = .ok (.aload_n 0, 1) := by decide +kernel
theorem dX3_init_38 : decode cX3_init 38 = .ok (.new 22, 3) := by decide +kernel
theorem dX3_init_41 : decode cX3_init 41 = .ok (.dup, 1) := by decide +kernel
theorem dX3_init_42 : decode cX3_init 42 = .ok (.invokespecial 24, 3) := by decide +kernel
theorem dX3_init_45 : decode cX3_init 45 = .ok (.putfield 25, 3) := by decide +kernel
theorem dX3_init_48 : decode cX3_init 48 = .ok (.aload_n 0, 1) := by decide +kernel
theorem dX3_init_49 : decode cX3_init 49 = .ok (.new 29, 3) := by decide +kernel
theorem dX3_init_52 : decode cX3_init 52 = .ok (.dup, 1) := by decide +kernel
theorem dX3_init_53 : decode cX3_init 53 = .ok (.invokespecial 31, 3) := by decide +kernel
theorem dX3_init_56 : decode cX3_init 56 = .ok (.putfield 32, 3) := by decide +kernel
theorem dX3_init_59 : decode cX3_init 59 = .ok (.aload_n 0, 1) := by decide +kernel
theorem dX3_init_60 : decode cX3_init 60 = .ok (.bipush 7, 2) := by decide +kernel
theorem dX3_init_62 : decode cX3_init 62 = .ok (.newarray .int, 2) := by decide +kernel
theorem dX3_init_64 : decode cX3_init 64 = .ok (.putfield 36, 3) := by decide +kernel
theorem dX3_init_67 : decode cX3_init 67 = .ok (.aload_n 0, 1) := by decide +kernel
theorem dX3_init_68 : decode cX3_init 68 = .ok (.iconst 0, 1) := by decide +kernel
theorem dX3_init_69 : decode cX3_init 69 = .ok (.putfield 40, 3) := by decide +kernel
theorem dX3_init_72 : decode cX3_init 72 = .ok (.return_, 1) := by decide +kernel
set_option maxRecDepth 20000 in
theorem ggX3_delegate_X3_isWithin : GoodIn wsX3_delegate wsX3_isWithin := goodIn_r _ [8] rfl (by decide +kernel)
set_option maxRecDepth 20000 in
theorem gX3_delegate_X3_isWithin : GoodIn wsX3_delegate (va_wsS RX3 44 yX3_isWithin wsX3_isWithin) := goodIn_app (goodIn_of _ (by decide +kernel)) ggX3_delegate_X3_isWithin
set_option maxRecDepth 20000 in
theorem ggX3_delegate_X3_found : GoodIn wsX3_delegate wsX3_found := goodIn_r _ [12, 1, 13, 5, 6, 7, 8, 25, 26, 27, 28, 29, 30, 31] rfl (by decide +kernel)
set_option maxRecDepth 20000 in
theorem gX3_delegate_X3_found : GoodIn wsX3_delegate (wsV RX3 49 RX3 yX3_found wsX3_found) := goodIn_app (goodIn_of _ (by decide +kernel)) ggX3_delegate_X3_found
set_option maxRecDepth 20000 in
theorem ggX3_delegate_X0_addDelegate : GoodIn wsX3_delegate wsX0_addDelegate := goodIn_r _ [18, 19, 20, 21, 22, 23, 24, 32, 33, 34, 35, 36, 37, 38, 39, 40, 41, 42, 43] rfl (by decide +kernel)
set_option maxRecDepth 20000 in
theorem gX3_delegate_X0_addDelegate : GoodIn wsX3_delegate (wsV RX3 58 RX0 yX0_addDelegate wsX0_addDelegate) := goodIn_app (goodIn_of _ (by decide +kernel)) ggX3_delegate_X0_addDelegate
theorem dX3_delegate_0 : decode cX3_delegate 0 = .ok (.iload_n 1, 1) := by decide +kernel
theorem dX3_delegate_1 : decode cX3_delegate 1 = .ok (.iconst 0, 1) := by decide +kernel
theorem dX3_delegate_2 : decode cX3_delegate 2 = .ok (.iconst 5, 1) := by decide +kernel
theorem dX3_delegate_3 : decode cX3_delegate 3 = .ok (.invokestatic 44, 3) := by decide +kernel
theorem dX3_delegate_6 : decode cX3_delegate 6 = .ok (.ifCond .ne 10, 3) := by decide +kernel
theorem dX3_delegate_9 : decode cX3_delegate 9 = .ok (.aload_n 0, 1) := by decide +kernel
theorem dX3_delegate_10 : decode cX3_delegate 10 = .ok (.ldc 48, 2) := by decide +kernel
theorem dX3_delegate_12 : decode cX3_delegate 12 = .ok (.invokevirtual 49, 3) := by decide +kernel
theorem dX3_delegate_15 : decode cX3_delegate 15 = .ok (.ireturn, 1) := by decide +kernel
theorem dX3_delegate_16 : decode cX3_delegate 16 = .ok (.aload_n 0, 1) := by decide +kernel
theorem dX3_delegate_17 : decode cX3_delegate 17 = .ok (.getfield 10, 3) := by decide +kernel
theorem dX3_delegate_20 : decode cX3_delegate 20 = .ok (.getfield 53, 3) := by decide +kernel
theorem dX3_delegate_23 : decode cX3_delegate 23 = .ok (.bipush 8, 2) := by decide +kernel
theorem dX3_delegate_25 : decode cX3_delegate 25 = .ok (.if_icmp .lt 10, 3) := by decide +kernel
theorem dX3_delegate_28 : decode cX3_delegate 28 = .ok (.aload_n 0, 1) := by decide +kernel
theorem dX3_delegate_29 : decode cX3_delegate 29 = .ok (.ldc 57, 2) := by decide +kernel
theorem dX3_delegate_31 : decode cX3_delegate 31 = .ok (.invokevirtual 49, 3) := by decide +kernel
theorem dX3_delegate_34 : decode cX3_delegate 34 = .ok (.ireturn, 1) := by decide +kernel
theorem dX3_delegate_35 : decode cX3_delegate 35 = .ok (.aload_n 0, 1) := by decide +kernel
theorem dX3_delegate_36 : decode cX3_delegate 36 = .ok (.getfield 10, 3) := by decide +kernel
theorem dX3_delegate_39 : decode cX3_delegate 39 = .ok (.iload_n 1, 1) := by decide +kernel
theorem dX3_delegate_40 : decode cX3_delegate 40 = .ok (.invokevirtual 58, 3) := by decide +kernel
theorem dX3_delegate_43 : decode cX3_delegate 43 = .ok (.ireturn, 1) := by decide +kernel
set_option maxRecDepth 20000 in
theorem ggX3_of_X0_hasDelegate : GoodIn wsX3_of wsX0_hasDelegate := goodIn_r _ [7, 8, 39, 40, 41, 42, 43, 44, 45, 46, 47, 48, 49, 50] rfl (by decide +kernel)
set_option maxRecDepth 20000 in
theorem gX3_of_X0_hasDelegate : GoodIn wsX3_of (wsV RX3 61 RX0 yX0_hasDelegate wsX0_hasDelegate) := goodIn_app (goodIn_of _ (by decide +kernel)) ggX3_of_X0_hasDelegate
set_option maxRecDepth 20000 in
theorem ggX3_of_X3_isWithin : GoodIn wsX3_of wsX3_isWithin := goodIn_r _ [12] rfl (by decide +kernel)
set_option maxRecDepth 20000 in
theorem gX3_of_X3_isWithin : GoodIn wsX3_of (va_wsS RX3 44 yX3_isWithin wsX3_isWithin) := goodIn_app (goodIn_of _ (by decide +kernel)) ggX3_of_X3_isWithin
set_option maxRecDepth 20000 in
theorem ggX3_of_X3_found : GoodIn wsX3_of wsX3_found := goodIn_r _ [16, 2, 17, 9, 10, 11, 12, 32, 33, 34, 35, 36, 37, 38] rfl (by decide +kernel)
set_option maxRecDepth 20000 in
theorem gX3_of_X3_found : GoodIn wsX3_of (wsV RX3 49 RX3 yX3_found wsX3_found) := goodIn_app (goodIn_of _ (by decide +kernel)) ggX3_of_X3_found
set_option maxRecDepth 20000 in
theorem ggX3_of_X0_wouldWeep : GoodIn wsX3_of wsX0_wouldWeep := goodIn_r _ [21, 22, 23, 24, 25, 39, 40, 41, 42, 43, 44, 45, 46, 47, 48, 49, 50] rfl (by decide +kernel)
set_option maxRecDepth 20000 in
theorem gX3_of_X0_wouldWeep : GoodIn wsX3_of (wsV RX3 65 RX0 yX0_wouldWeep wsX0_wouldWeep) := goodIn_app (goodIn_of _ (by decide +kernel)) ggX3_of_X0_wouldWeep
set_option maxRecDepth 20000 in
theorem ggX3_of_X0_delegateRow : GoodIn wsX3_of wsX0_delegateRow := goodIn_r _ [29, 22, 24, 30, 23, 31, 39, 40, 41, 42, 43, 44, 45, 46, 47, 48, 49, 50] rfl (by decide +kernel)
set_option maxRecDepth 20000 in
theorem gX3_of_X0_delegateRow : GoodIn wsX3_of (wsV RX3 68 RX0 yX0_delegateRow wsX0_delegateRow) := goodIn_app (goodIn_of _ (by decide +kernel)) ggX3_of_X0_delegateRow
theorem dX3_of_0 : decode cX3_of 0 = .ok (.aload_n 0, 1) := by decide +kernel
theorem dX3_of_1 : decode cX3_of 1 = .ok (.getfield 10, 3) := by decide +kernel
theorem dX3_of_4 : decode cX3_of 4 = .ok (.iload_n 1, 1) := by decide +kernel
theorem dX3_of_5 : decode cX3_of 5 = .ok (.invokevirtual 61, 3) := by decide +kernel
theorem dX3_of_8 : decode cX3_of 8 = .ok (.ifCond .eq 12, 3) := by decide +kernel
theorem dX3_of_11 : decode cX3_of 11 = .ok (.iload_n 2, 1) := by decide +kernel
theorem dX3_of_12 : decode cX3_of 12 = .ok (.iconst 0, 1) := by decide +kernel
theorem dX3_of_13 : decode cX3_of 13 = .ok (.iconst 5, 1) := by decide +kernel
theorem dX3_of_14 : decode cX3_of 14 = .ok (.invokestatic 44, 3) := by decide +kernel
theorem dX3_of_17 : decode cX3_of 17 = .ok (.ifCond .ne 10, 3) := by decide +kernel
theorem dX3_of_20 : decode cX3_of 20 = .ok (.aload_n 0, 1) := by decide +kernel
theorem dX3_of_21 : decode cX3_of 21 = .ok (.ldc 48, 2) := by decide +kernel
theorem dX3_of_23 : decode cX3_of 23 = .ok (.invokevirtual 49, 3) := by decide +kernel
theorem dX3_of_26 : decode cX3_of 26 = .ok (.ireturn, 1) := by decide +kernel
theorem dX3_of_27 : decode cX3_of 27 = .ok (.iload_n 2, 1) := by decide +kernel
theorem dX3_of_28 : decode cX3_of 28 = .ok (.iconst 5, 1) := by decide +kernel
theorem dX3_of_29 : decode cX3_of 29 = .ok (.if_icmp .ne 20, 3) := by decide +kernel
theorem dX3_of_32 : decode cX3_of 32 = .ok (.aload_n 0, 1) := by decide +kernel
theorem dX3_of_33 : decode cX3_of 33 = .ok (.getfield 10, 3) := by decide +kernel
theorem dX3_of_36 : decode cX3_of 36 = .ok (.iload_n 1, 1) := by decide +kernel
theorem dX3_of_37 : decode cX3_of 37 = .ok (.invokevirtual 65, 3) := by decide +kernel
theorem dX3_of_40 : decode cX3_of 40 = .ok (.ifCond .eq 7, 3) := by decide +kernel
theorem dX3_of_43 : decode cX3_of 43 = .ok (.iconst 1, 1) := by decide +kernel
theorem dX3_of_44 : decode cX3_of 44 = .ok (.goto 4, 3) := by decide +kernel
theorem dX3_of_47 : decode cX3_of 47 = .ok (.iconst 0, 1) := by decide +kernel
theorem dX3_of_48 : decode cX3_of 48 = .ok (.ireturn, 1) := by decide +kernel
theorem dX3_of_49 : decode cX3_of 49 = .ok (.aload_n 0, 1) := by decide +kernel
theorem dX3_of_50 : decode cX3_of 50 = .ok (.getfield 10, 3) := by decide +kernel
theorem dX3_of_53 : decode cX3_of 53 = .ok (.iload_n 2, 1) := by decide +kernel
theorem dX3_of_54 : decode cX3_of 54 = .ok (.invokevirtual 68, 3) := by decide +kernel
theorem dX3_of_57 : decode cX3_of 57 = .ok (.iload_n 1, 1) := by decide +kernel
theorem dX3_of_58 : decode cX3_of 58 = .ok (.iaload, 1) := by decide +kernel
theorem dX3_of_59 : decode cX3_of 59 = .ok (.ireturn, 1) := by decide +kernel
set_option maxRecDepth 20000 in
theorem ggX3_set_X0_hasDelegate : GoodIn wsX3_set wsX0_hasDelegate := goodIn_r _ [7, 8, 41, 42, 43, 44, 45, 46, 47, 48, 49, 50, 51, 52] rfl (by decide +kernel)
set_option maxRecDepth 20000 in
theorem gX3_set_X0_hasDelegate : GoodIn wsX3_set (wsV RX3 61 RX0 yX0_hasDelegate wsX0_hasDelegate) := goodIn_app (goodIn_of _ (by decide +kernel)) ggX3_set_X0_hasDelegate
set_option maxRecDepth 20000 in
theorem ggX3_set_X0_mostOf : GoodIn wsX3_set wsX0_mostOf := goodIn_r _ [11, 12] rfl (by decide +kernel)
set_option maxRecDepth 20000 in
theorem gX3_set_X0_mostOf : GoodIn wsX3_set (va_wsS RX3 72 yX0_mostOf wsX0_mostOf) := goodIn_app (goodIn_of _ (by decide +kernel)) ggX3_set_X0_mostOf
set_option maxRecDepth 20000 in
theorem ggX3_set_X3_isWithin : GoodIn wsX3_set wsX3_isWithin := goodIn_r _ [16] rfl (by decide +kernel)
set_option maxRecDepth 20000 in
theorem gX3_set_X3_isWithin : GoodIn wsX3_set (va_wsS RX3 44 yX3_isWithin wsX3_isWithin) := goodIn_app (goodIn_of _ (by decide +kernel)) ggX3_set_X3_isWithin
set_option maxRecDepth 20000 in
theorem ggX3_set_X3_found : GoodIn wsX3_set wsX3_found := goodIn_r _ [20, 2, 21, 13, 14, 15, 16, 34, 35, 36, 37, 38, 39, 40] rfl (by decide +kernel)
set_option maxRecDepth 20000 in
theorem gX3_set_X3_found : GoodIn wsX3_set (wsV RX3 49 RX3 yX3_found wsX3_found) := goodIn_app (goodIn_of _ (by decide +kernel)) ggX3_set_X3_found
set_option maxRecDepth 20000 in
theorem ggX3_set_X0_delegateRow : GoodIn wsX3_set wsX0_delegateRow := goodIn_r _ [25, 26, 27, 28, 29, 30, 41, 42, 43, 44, 45, 46, 47, 48, 49, 50, 51, 52] rfl (by decide +kernel)
set_option maxRecDepth 20000 in
theorem gX3_set_X0_delegateRow : GoodIn wsX3_set (wsV RX3 68 RX0 yX0_delegateRow wsX0_delegateRow) := goodIn_app (goodIn_of _ (by decide +kernel)) ggX3_set_X0_delegateRow
set_option maxRecDepth 20000 in
theorem ggX3_set_X3_exchange : GoodIn wsX3_set wsX3_exchange := goodIn_r _ [33] rfl (by decide +kernel)
set_option maxRecDepth 20000 in
theorem gX3_set_X3_exchange : GoodIn wsX3_set (va_wsS RX3 75 yX3_exchange wsX3_exchange) := goodIn_app (goodIn_of _ (by decide +kernel)) ggX3_set_X3_exchange
theorem dX3_set_0 : decode cX3_set 0 = .ok (.aload_n 0, 1) := by decide +kernel
theorem dX3_set_1 : decode cX3_set 1 = .ok (.getfield 10, 3) := by decide +kernel
theorem dX3_set_4 : decode cX3_set 4 = .ok (.iload_n 1, 1) := by decide +kernel
theorem dX3_set_5 : decode cX3_set 5 = .ok (.invokevirtual 61, 3) := by decide +kernel
theorem dX3_set_8 : decode cX3_set 8 = .ok (.ifCond .eq 15, 3) := by decide +kernel
theorem dX3_set_11 : decode cX3_set 11 = .ok (.iload_n 3, 1) := by decide +kernel
theorem dX3_set_12 : decode cX3_set 12 = .ok (.iconst 0, 1) := by decide +kernel
theorem dX3_set_13 : decode cX3_set 13 = .ok (.iload_n 2, 1) := by decide +kernel
theorem dX3_set_14 : decode cX3_set 14 = .ok (.invokestatic 72, 3) := by decide +kernel
theorem dX3_set_17 : decode cX3_set 17 = .ok (.invokestatic 44, 3) := by decide +kernel
theorem dX3_set_20 : decode cX3_set 20 = .ok (.ifCond .ne 10, 3) := by decide +kernel
theorem dX3_set_23 : decode cX3_set 23 = .ok (.aload_n 0, 1) := by decide +kernel
theorem dX3_set_24 : decode cX3_set 24 = .ok (.ldc 48, 2) := by decide +kernel
theorem dX3_set_26 : decode cX3_set 26 = .ok (.invokevirtual 49, 3) := by decide +kernel
theorem dX3_set_29 : decode cX3_set 29 = .ok (.ireturn, 1) := by decide +kernel
theorem dX3_set_30 : decode cX3_set 30 = .ok (.aload_n 0, 1) := by decide +kernel
theorem dX3_set_31 : decode cX3_set 31 = .ok (.getfield 10, 3) := by decide +kernel
theorem dX3_set_34 : decode cX3_set 34 = .ok (.iload_n 2, 1) := by decide +kernel
theorem dX3_set_35 : decode cX3_set 35 = .ok (.invokevirtual 68, 3) := by decide +kernel
theorem dX3_set_38 : decode cX3_set 38 = .ok (.iload_n 1, 1) := by decide +kernel
theorem dX3_set_39 : decode cX3_set 39 = .ok (.iload_n 3, 1) := by decide +kernel
theorem dX3_set_40 : decode cX3_set 40 = .ok (.invokestatic 75, 3) := by decide +kernel
theorem dX3_set_43 : decode cX3_set 43 = .ok (.ireturn, 1) := by decide +kernel
set_option maxRecDepth 20000 in
theorem ggX3_turn_X0_hasDelegate : GoodIn wsX3_turn wsX0_hasDelegate := goodIn_r _ [8, 9, 29, 30, 31, 32, 33, 34, 35, 36, 37, 38, 39, 40] rfl (by decide +kernel)
set_option maxRecDepth 20000 in
theorem gX3_turn_X0_hasDelegate : GoodIn wsX3_turn (wsV RX3 61 RX0 yX0_hasDelegate wsX0_hasDelegate) := goodIn_app (goodIn_of _ (by decide +kernel)) ggX3_turn_X0_hasDelegate
set_option maxRecDepth 20000 in
theorem ggX3_turn_X3_isWithin : GoodIn wsX3_turn wsX3_isWithin := goodIn_r _ [13] rfl (by decide +kernel)
set_option maxRecDepth 20000 in
theorem gX3_turn_X3_isWithin : GoodIn wsX3_turn (va_wsS RX3 44 yX3_isWithin wsX3_isWithin) := goodIn_app (goodIn_of _ (by decide +kernel)) ggX3_turn_X3_isWithin
set_option maxRecDepth 20000 in
theorem ggX3_turn_X3_found : GoodIn wsX3_turn wsX3_found := goodIn_r _ [17, 2, 18, 10, 11, 12, 13, 22, 23, 24, 25, 26, 27, 28] rfl (by decide +kernel)
set_option maxRecDepth 20000 in
theorem gX3_turn_X3_found : GoodIn wsX3_turn (wsV RX3 49 RX3 yX3_found wsX3_found) := goodIn_app (goodIn_of _ (by decide +kernel)) ggX3_turn_X3_found
set_option maxRecDepth 20000 in
theorem ggX3_turn_X3_exchange : GoodIn wsX3_turn wsX3_exchange := goodIn_r _ [21] rfl (by decide +kernel)
set_option maxRecDepth 20000 in
theorem gX3_turn_X3_exchange : GoodIn wsX3_turn (va_wsS RX3 75 yX3_exchange wsX3_exchange) := goodIn_app (goodIn_of _ (by decide +kernel)) ggX3_turn_X3_exchange
theorem dX3_turn_0 : decode cX3_turn 0 = .ok (.aload_n 0, 1) := by decide +kernel
theorem dX3_turn_1 : decode cX3_turn 1 = .ok (.getfield 10, 3) := by decide +kernel
theorem dX3_turn_4 : decode cX3_turn 4 = .ok (.iload_n 1, 1) := by decide +kernel
theorem dX3_turn_5 : decode cX3_turn 5 = .ok (.invokevirtual 61, 3) := by decide +kernel
theorem dX3_turn_8 : decode cX3_turn 8 = .ok (.ifCond .eq 12, 3) := by decide +kernel
theorem dX3_turn_11 : decode cX3_turn 11 = .ok (.iload_n 2, 1) := by decide +kernel
theorem dX3_turn_12 : decode cX3_turn 12 = .ok (.iconst 0, 1) := by decide +kernel
theorem dX3_turn_13 : decode cX3_turn 13 = .ok (.iconst 5, 1) := by decide +kernel
theorem dX3_turn_14 : decode cX3_turn 14 = .ok (.invokestatic 44, 3) := by decide +kernel
theorem dX3_turn_17 : decode cX3_turn 17 = .ok (.ifCond .ne 10, 3) := by decide +kernel
theorem dX3_turn_20 : decode cX3_turn 20 = .ok (.aload_n 0, 1) := by decide +kernel
theorem dX3_turn_21 : decode cX3_turn 21 = .ok (.ldc 48, 2) := by decide +kernel
theorem dX3_turn_23 : decode cX3_turn 23 = .ok (.invokevirtual 49, 3) := by decide +kernel
theorem dX3_turn_26 : decode cX3_turn 26 = .ok (.ireturn, 1) := by decide +kernel
theorem dX3_turn_27 : decode cX3_turn 27 = .ok (.aload_n 0, 1) := by decide +kernel
theorem dX3_turn_28 : decode cX3_turn 28 = .ok (.getfield 10, 3) := by decide +kernel
theorem dX3_turn_31 : decode cX3_turn 31 = .ok (.getfield 79, 3) := by decide +kernel
theorem dX3_turn_34 : decode cX3_turn 34 = .ok (.iload_n 1, 1) := by decide +kernel
theorem dX3_turn_35 : decode cX3_turn 35 = .ok (.iload_n 2, 1) := by decide +kernel
theorem dX3_turn_36 : decode cX3_turn 36 = .ok (.invokestatic 75, 3) := by decide +kernel
theorem dX3_turn_39 : decode cX3_turn 39 = .ok (.ireturn, 1) := by decide +kernel
set_option maxRecDepth 20000 in
theorem ggX3_as_X0_hasDelegate : GoodIn wsX3_as wsX0_hasDelegate := goodIn_r _ [10, 11, 31, 32, 33, 34, 35, 36, 37, 38, 39, 40, 41, 42] rfl (by decide +kernel)
set_option maxRecDepth 20000 in
theorem gX3_as_X0_hasDelegate : GoodIn wsX3_as (wsV RX3 61 RX0 yX0_hasDelegate wsX0_hasDelegate) := goodIn_app (goodIn_of _ (by decide +kernel)) ggX3_as_X0_hasDelegate
set_option maxRecDepth 20000 in
theorem ggX3_as_X3_isWithin : GoodIn wsX3_as wsX3_isWithin := goodIn_r _ [15] rfl (by decide +kernel)
set_option maxRecDepth 20000 in
theorem gX3_as_X3_isWithin : GoodIn wsX3_as (va_wsS RX3 44 yX3_isWithin wsX3_isWithin) := goodIn_app (goodIn_of _ (by decide +kernel)) ggX3_as_X3_isWithin
set_option maxRecDepth 20000 in
theorem ggX3_as_X3_found : GoodIn wsX3_as wsX3_found := goodIn_r _ [19, 2, 20, 12, 13, 14, 15, 24, 25, 26, 27, 28, 29, 30] rfl (by decide +kernel)
set_option maxRecDepth 20000 in
theorem gX3_as_X3_found : GoodIn wsX3_as (wsV RX3 49 RX3 yX3_found wsX3_found) := goodIn_app (goodIn_of _ (by decide +kernel)) ggX3_as_X3_found
set_option maxRecDepth 20000 in
theorem ggX3_as_X0_isUnder : GoodIn wsX3_as wsX0_isUnder := goodIn_r _ [23] rfl (by decide +kernel)
set_option maxRecDepth 20000 in
theorem gX3_as_X0_isUnder : GoodIn wsX3_as (va_wsS RX3 82 yX0_isUnder wsX0_isUnder) := goodIn_app (goodIn_of _ (by decide +kernel)) ggX3_as_X0_isUnder
theorem dX3_as_0 : decode cX3_as 0 = .ok (.aload_n 0, 1) := by decide +kernel
theorem dX3_as_1 : decode cX3_as 1 = .ok (.getfield 10, 3) := by decide +kernel
theorem dX3_as_4 : decode cX3_as 4 = .ok (.iload_n 1, 1) := by decide +kernel
theorem dX3_as_5 : decode cX3_as 5 = .ok (.invokevirtual 61, 3) := by decide +kernel
theorem dX3_as_8 : decode cX3_as 8 = .ok (.ifCond .eq 12, 3) := by decide +kernel
theorem dX3_as_11 : decode cX3_as 11 = .ok (.iload_n 2, 1) := by decide +kernel
theorem dX3_as_12 : decode cX3_as 12 = .ok (.iconst 0, 1) := by decide +kernel
theorem dX3_as_13 : decode cX3_as 13 = .ok (.iconst 5, 1) := by decide +kernel
theorem dX3_as_14 : decode cX3_as 14 = .ok (.invokestatic 44, 3) := by decide +kernel
theorem dX3_as_17 : decode cX3_as 17 = .ok (.ifCond .ne 10, 3) := by decide +kernel
theorem dX3_as_20 : decode cX3_as 20 = .ok (.aload_n 0, 1) := by decide +kernel
theorem dX3_as_21 : decode cX3_as 21 = .ok (.ldc 48, 2) := by decide +kernel
theorem dX3_as_23 : decode cX3_as 23 = .ok (.invokevirtual 49, 3) := by decide +kernel
theorem dX3_as_26 : decode cX3_as 26 = .ok (.ireturn, 1) := by decide +kernel
theorem dX3_as_27 : decode cX3_as 27 = .ok (.aload_n 0, 1) := by decide +kernel
theorem dX3_as_28 : decode cX3_as 28 = .ok (.getfield 10, 3) := by decide +kernel
theorem dX3_as_31 : decode cX3_as 31 = .ok (.getfield 79, 3) := by decide +kernel
theorem dX3_as_34 : decode cX3_as 34 = .ok (.iload_n 1, 1) := by decide +kernel
theorem dX3_as_35 : decode cX3_as 35 = .ok (.iaload, 1) := by decide +kernel
theorem dX3_as_36 : decode cX3_as 36 = .ok (.iload_n 2, 1) := by decide +kernel
theorem dX3_as_37 : decode cX3_as 37 = .ok (.invokestatic 82, 3) := by decide +kernel
theorem dX3_as_40 : decode cX3_as 40 = .ok (.ifCond .ne 10, 3) := by decide +kernel
theorem dX3_as_43 : decode cX3_as 43 = .ok (.aload_n 0, 1) := by decide +kernel
theorem dX3_as_44 : decode cX3_as 44 = .ok (.ldc 86, 2) := by decide +kernel
theorem dX3_as_46 : decode cX3_as 46 = .ok (.invokevirtual 49, 3) := by decide +kernel
theorem dX3_as_49 : decode cX3_as 49 = .ok (.ireturn, 1) := by decide +kernel
theorem dX3_as_50 : decode cX3_as 50 = .ok (.aload_n 0, 1) := by decide +kernel
theorem dX3_as_51 : decode cX3_as 51 = .ok (.getfield 10, 3) := by decide +kernel
theorem dX3_as_54 : decode cX3_as 54 = .ok (.getfield 87, 3) := by decide +kernel
theorem dX3_as_57 : decode cX3_as 57 = .ok (.iload_n 1, 1) := by decide +kernel
theorem dX3_as_58 : decode cX3_as 58 = .ok (.iaload, 1) := by decide +kernel
theorem dX3_as_59 : decode cX3_as 59 = .ok (.ireturn, 1) := by decide +kernel
set_option maxRecDepth 20000 in
theorem ggX3_speech_X0_mayTell : GoodIn wsX3_speech wsX0_mayTell := goodIn_r _ [9, 10, 11, 12, 8, 13, 14, 40, 41, 42, 43, 44, 45, 46, 47, 48, 49, 50, 51] rfl (by decide +kernel)
set_option maxRecDepth 20000 in
theorem gX3_speech_X0_mayTell : GoodIn wsX3_speech (wsV RX3 90 RX0 yX0_mayTell wsX0_mayTell) := goodIn_app (goodIn_of _ (by decide +kernel)) ggX3_speech_X0_mayTell
set_option maxRecDepth 20000 in
theorem ggX3_speech_X3_found : GoodIn wsX3_speech wsX3_found := goodIn_r _ [19, 2, 20, 21, 22, 18, 23, 33, 34, 35, 36, 37, 38, 39] rfl (by decide +kernel)
set_option maxRecDepth 20000 in
theorem gX3_speech_X3_found : GoodIn wsX3_speech (wsV RX3 49 RX3 yX3_found wsX3_found) := goodIn_app (goodIn_of _ (by decide +kernel)) ggX3_speech_X3_found
set_option maxRecDepth 20000 in
theorem ggX3_speech_X0_addSpeech : GoodIn wsX3_speech wsX0_addSpeech := goodIn_r _ [27, 28, 29, 30, 31, 32, 40, 41, 42, 43, 44, 45, 46, 47, 48, 49, 50, 51] rfl (by decide +kernel)
set_option maxRecDepth 20000 in
theorem gX3_speech_X0_addSpeech : GoodIn wsX3_speech (wsV RX3 96 RX0 yX0_addSpeech wsX0_addSpeech) := goodIn_app (goodIn_of _ (by decide +kernel)) ggX3_speech_X0_addSpeech
theorem dX3_speech_0 : decode cX3_speech 0 = .ok (.aload_n 0, 1) := by decide +kernel
theorem dX3_speech_1 : decode cX3_speech 1 = .ok (.getfield 10, 3) := by decide +kernel
theorem dX3_speech_4 : decode cX3_speech 4 = .ok (.iconst 0, 1) := by decide +kernel
theorem dX3_speech_5 : decode cX3_speech 5 = .ok (.iload_n 1, 1) := by decide +kernel
theorem dX3_speech_6 : decode cX3_speech 6 = .ok (.invokevirtual 90, 3) := by decide +kernel
theorem dX3_speech_9 : decode cX3_speech 9 = .ok (.ifCond .eq 40, 3) := by decide +kernel
theorem dX3_speech_12 : decode cX3_speech 12 = .ok (.aload_n 0, 1) := by decide +kernel
theorem dX3_speech_13 : decode cX3_speech 13 = .ok (.getfield 10, 3) := by decide +kernel
theorem dX3_speech_16 : decode cX3_speech 16 = .ok (.iconst 1, 1) := by decide +kernel
theorem dX3_speech_17 : decode cX3_speech 17 = .ok (.iload_n 2, 1) := by decide +kernel
theorem dX3_speech_18 : decode cX3_speech 18 = .ok (.invokevirtual 90, 3) := by decide +kernel
theorem dX3_speech_21 : decode cX3_speech 21 = .ok (.ifCond .eq 28, 3) := by decide +kernel
theorem dX3_speech_24 : decode cX3_speech 24 = .ok (.aload_n 0, 1) := by decide +kernel
theorem dX3_speech_25 : decode cX3_speech 25 = .ok (.getfield 10, 3) := by decide +kernel
theorem dX3_speech_28 : decode cX3_speech 28 = .ok (.iconst 2, 1) := by decide +kernel
theorem dX3_speech_29 : decode cX3_speech 29 = .ok (.iload_n 3, 1) := by decide +kernel
theorem dX3_speech_30 : decode cX3_speech 30 = .ok (.invokevirtual 90, 3) := by decide +kernel
theorem dX3_speech_33 : decode cX3_speech 33 = .ok (.ifCond .eq 16, 3) := by decide +kernel
theorem dX3_speech_36 : decode cX3_speech 36 = .ok (.aload_n 0, 1) := by decide +kernel
theorem dX3_speech_37 : decode cX3_speech 37 = .ok (.getfield 10, 3) := by decide +kernel
theorem dX3_speech_40 : decode cX3_speech 40 = .ok (.iconst 3, 1) := by decide +kernel
theorem dX3_speech_41 : decode cX3_speech 41 = .ok (.iload 4, 2) := by decide +kernel
theorem dX3_speech_43 : decode cX3_speech 43 = .ok (.invokevirtual 90, 3) := by decide +kernel
theorem dX3_speech_46 : decode cX3_speech 46 = .ok (.ifCond .ne 10, 3) := by decide +kernel
theorem dX3_speech_49 : decode cX3_speech 49 = .ok (.aload_n 0, 1) := by decide +kernel
theorem dX3_speech_50 : decode cX3_speech 50 = .ok (.ldc 48, 2) := by decide +kernel
theorem dX3_speech_52 : decode cX3_speech 52 = .ok (.invokevirtual 49, 3) := by decide +kernel
theorem dX3_speech_55 : decode cX3_speech 55 = .ok (.ireturn, 1) := by decide +kernel
theorem dX3_speech_56 : decode cX3_speech 56 = .ok (.aload_n 0, 1) := by decide +kernel
theorem dX3_speech_57 : decode cX3_speech 57 = .ok (.getfield 10, 3) := by decide +kernel
theorem dX3_speech_60 : decode cX3_speech 60 = .ok (.getfield 93, 3) := by decide +kernel
theorem dX3_speech_63 : decode cX3_speech 63 = .ok (.bipush 8, 2) := by decide +kernel
theorem dX3_speech_65 : decode cX3_speech 65 = .ok (.if_icmp .lt 10, 3) := by decide +kernel
theorem dX3_speech_68 : decode cX3_speech 68 = .ok (.aload_n 0, 1) := by decide +kernel
theorem dX3_speech_69 : decode cX3_speech 69 = .ok (.ldc 57, 2) := by decide +kernel
theorem dX3_speech_71 : decode cX3_speech 71 = .ok (.invokevirtual 49, 3) := by decide +kernel
theorem dX3_speech_74 : decode cX3_speech 74 = .ok (.ireturn, 1) := by decide +kernel
theorem dX3_speech_75 : decode cX3_speech 75 = .ok (.aload_n 0, 1) := by decide +kernel
theorem dX3_speech_76 : decode cX3_speech 76 = .ok (.getfield 10, 3) := by decide +kernel
theorem dX3_speech_79 : decode cX3_speech 79 = .ok (.iload_n 1, 1) := by decide +kernel
theorem dX3_speech_80 : decode cX3_speech 80 = .ok (.iload_n 2, 1) := by decide +kernel
theorem dX3_speech_81 : decode cX3_speech 81 = .ok (.iload_n 3, 1) := by decide +kernel
theorem dX3_speech_82 : decode cX3_speech 82 = .ok (.iload 4, 2) := by decide +kernel
theorem dX3_speech_84 : decode cX3_speech 84 = .ok (.invokevirtual 96, 3) := by decide +kernel
theorem dX3_speech_87 : decode cX3_speech 87 = .ok (.ireturn, 1) := by decide +kernel
set_option maxRecDepth 20000 in
theorem ggX3_speechOf_X0_hasSpeech : GoodIn wsX3_speechOf wsX0_hasSpeech := goodIn_r _ [7, 8, 61, 62, 63, 64, 65, 66, 67, 68, 69, 70, 71, 72] rfl (by decide +kernel)
set_option maxRecDepth 20000 in
theorem gX3_speechOf_X0_hasSpeech : GoodIn wsX3_speechOf (wsV RX3 100 RX0 yX0_hasSpeech wsX0_hasSpeech) := goodIn_app (goodIn_of _ (by decide +kernel)) ggX3_speechOf_X0_hasSpeech
set_option maxRecDepth 20000 in
theorem ggX3_speechOf_X3_isWithin : GoodIn wsX3_speechOf wsX3_isWithin := goodIn_r _ [12] rfl (by decide +kernel)
set_option maxRecDepth 20000 in
theorem gX3_speechOf_X3_isWithin : GoodIn wsX3_speechOf (va_wsS RX3 44 yX3_isWithin wsX3_isWithin) := goodIn_app (goodIn_of _ (by decide +kernel)) ggX3_speechOf_X3_isWithin
set_option maxRecDepth 20000 in
theorem ggX3_speechOf_X3_found : GoodIn wsX3_speechOf wsX3_found := goodIn_r _ [16, 2, 17, 9, 10, 11, 12, 54, 55, 56, 57, 58, 59, 60] rfl (by decide +kernel)
set_option maxRecDepth 20000 in
theorem gX3_speechOf_X3_found : GoodIn wsX3_speechOf (wsV RX3 49 RX3 yX3_found wsX3_found) := goodIn_app (goodIn_of _ (by decide +kernel)) ggX3_speechOf_X3_found
set_option maxRecDepth 20000 in
theorem ggX3_speechOf_X0_interpreterOf : GoodIn wsX3_speechOf wsX0_interpreterOf := goodIn_r _ [21, 22, 23, 24, 25, 26, 27, 28, 29, 6, 30, 31, 32, 33, 34, 35, 36, 37, 61, 62, 63, 64, 65, 66, 67, 68, 69, 70, 71, 72] rfl (by decide +kernel)
set_option maxRecDepth 20000 in
theorem gX3_speechOf_X0_interpreterOf : GoodIn wsX3_speechOf (wsV RX3 103 RX0 yX0_interpreterOf wsX0_interpreterOf) := goodIn_app (goodIn_of _ (by decide +kernel)) ggX3_speechOf_X0_interpreterOf
set_option maxRecDepth 20000 in
theorem ggX3_speechOf_X0_comesOverWith : GoodIn wsX3_speechOf wsX0_comesOverWith := goodIn_r _ [41, 26, 42, 19, 20, 6, 21, 22, 23, 24, 25, 27, 28, 29, 30, 31, 32, 33, 34, 35, 36, 37, 43, 44, 45, 46, 47, 48, 49, 61, 62, 63, 64, 65, 66, 67, 68, 69, 70, 71, 72] rfl (by decide +kernel)
set_option maxRecDepth 20000 in
theorem gX3_speechOf_X0_comesOverWith : GoodIn wsX3_speechOf (wsV RX3 106 RX0 yX0_comesOverWith wsX0_comesOverWith) := goodIn_app (goodIn_of _ (by decide +kernel)) ggX3_speechOf_X0_comesOverWith
set_option maxRecDepth 20000 in
theorem ggX3_speechOf_X0_speechRow : GoodIn wsX3_speechOf wsX0_speechRow := goodIn_r _ [53, 23, 25, 31, 26, 61, 62, 63, 64, 65, 66, 67, 68, 69, 70, 71, 72] rfl (by decide +kernel)
set_option maxRecDepth 20000 in
theorem gX3_speechOf_X0_speechRow : GoodIn wsX3_speechOf (wsV RX3 109 RX0 yX0_speechRow wsX0_speechRow) := goodIn_app (goodIn_of _ (by decide +kernel)) ggX3_speechOf_X0_speechRow
theorem dX3_speechOf_0 : decode cX3_speechOf 0 = .ok (.aload_n 0, 1) := by decide +kernel
theorem dX3_speechOf_1 : decode cX3_speechOf 1 = .ok (.getfield 10, 3) := by decide +kernel
theorem dX3_speechOf_4 : decode cX3_speechOf 4 = .ok (.iload_n 1, 1) := by decide +kernel
theorem dX3_speechOf_5 : decode cX3_speechOf 5 = .ok (.invokevirtual 100, 3) := by decide +kernel
theorem dX3_speechOf_8 : decode cX3_speechOf 8 = .ok (.ifCond .eq 12, 3) := by decide +kernel
theorem dX3_speechOf_11 : decode cX3_speechOf 11 = .ok (.iload_n 2, 1) := by decide +kernel
theorem dX3_speechOf_12 : decode cX3_speechOf 12 = .ok (.iconst 0, 1) := by decide +kernel
theorem dX3_speechOf_13 : decode cX3_speechOf 13 = .ok (.iconst 5, 1) := by decide +kernel
theorem dX3_speechOf_14 : decode cX3_speechOf 14 = .ok (.invokestatic 44, 3) := by decide +kernel
theorem dX3_speechOf_17 : decode cX3_speechOf 17 = .ok (.ifCond .ne 10, 3) := by decide +kernel
theorem dX3_speechOf_20 : decode cX3_speechOf 20 = .ok (.aload_n 0, 1) := by decide +kernel
theorem dX3_speechOf_21 : decode cX3_speechOf 21 = .ok (.ldc 48, 2) := by decide +kernel
theorem dX3_speechOf_23 : decode cX3_speechOf 23 = .ok (.invokevirtual 49, 3) := by decide +kernel
theorem dX3_speechOf_26 : decode cX3_speechOf 26 = .ok (.ireturn, 1) := by decide +kernel
theorem dX3_speechOf_27 : decode cX3_speechOf 27 = .ok (.iload_n 2, 1) := by decide +kernel
theorem dX3_speechOf_28 : decode cX3_speechOf 28 = .ok (.iconst 4, 1) := by decide +kernel
theorem dX3_speechOf_29 : decode cX3_speechOf 29 = .ok (.if_icmp .ne 12, 3) := by decide +kernel
theorem dX3_speechOf_32 : decode cX3_speechOf 32 = .ok (.aload_n 0, 1) := by decide +kernel
theorem dX3_speechOf_33 : decode cX3_speechOf 33 = .ok (.getfield 10, 3) := by decide +kernel
theorem dX3_speechOf_36 : decode cX3_speechOf 36 = .ok (.iload_n 1, 1) := by decide +kernel
theorem dX3_speechOf_37 : decode cX3_speechOf 37 = .ok (.invokevirtual 103, 3) := by decide +kernel
theorem dX3_speechOf_40 : decode cX3_speechOf 40 = .ok (.ireturn, 1) := by decide +kernel
theorem dX3_speechOf_41 : decode cX3_speechOf 41 = .ok (.iload_n 2, 1) := by decide +kernel
theorem dX3_speechOf_42 : decode cX3_speechOf 42 = .ok (.iconst 5, 1) := by decide +kernel
theorem dX3_speechOf_43 : decode cX3_speechOf 43 = .ok (.if_icmp .ne 12, 3) := by decide +kernel
theorem dX3_speechOf_46 : decode cX3_speechOf 46 = .ok (.aload_n 0, 1) := by decide +kernel
theorem dX3_speechOf_47 : decode cX3_speechOf 47 = .ok (.getfield 10, 3) := by decide +kernel
theorem dX3_speechOf_50 : decode cX3_speechOf 50 = .ok (.iload_n 1, 1) := by decide +kernel
theorem dX3_speechOf_51 : decode cX3_speechOf 51 = .ok (.invokevirtual 106, 3) := by decide +kernel
theorem dX3_speechOf_54 : decode cX3_speechOf 54 = .ok (.ireturn, 1) := by decide +kernel
theorem dX3_speechOf_55 : decode cX3_speechOf 55 = .ok (.aload_n 0, 1) := by decide +kernel
theorem dX3_speechOf_56 : decode cX3_speechOf 56 = .ok (.getfield 10, 3) := by decide +kernel
theorem dX3_speechOf_59 : decode cX3_speechOf 59 = .ok (.iload_n 2, 1) := by decide +kernel
theorem dX3_speechOf_60 : decode cX3_speechOf 60 = .ok (.invokevirtual 109, 3) := by decide +kernel
theorem dX3_speechOf_63 : decode cX3_speechOf 63 = .ok (.iload_n 1, 1) := by decide +kernel
theorem dX3_speechOf_64 : decode cX3_speechOf 64 = .ok (.iaload, 1) := by decide +kernel
theorem dX3_speechOf_65 : decode cX3_speechOf 65 = .ok (.ireturn, 1) := by decide +kernel
set_option maxRecDepth 20000 in
theorem ggX3_tell_X0_hasSpeech : GoodIn wsX3_tell wsX0_hasSpeech := goodIn_r _ [7, 8, 45, 46, 47, 48, 49, 50, 51, 52, 53, 54, 55, 56] rfl (by decide +kernel)
set_option maxRecDepth 20000 in
theorem gX3_tell_X0_hasSpeech : GoodIn wsX3_tell (wsV RX3 100 RX0 yX0_hasSpeech wsX0_hasSpeech) := goodIn_app (goodIn_of _ (by decide +kernel)) ggX3_tell_X0_hasSpeech
set_option maxRecDepth 20000 in
theorem ggX3_tell_X0_mayTell : GoodIn wsX3_tell wsX0_mayTell := goodIn_r _ [12, 13, 14, 15, 6, 16, 17, 45, 46, 47, 48, 49, 50, 51, 52, 53, 54, 55, 56] rfl (by decide +kernel)
set_option maxRecDepth 20000 in
theorem gX3_tell_X0_mayTell : GoodIn wsX3_tell (wsV RX3 90 RX0 yX0_mayTell wsX0_mayTell) := goodIn_app (goodIn_of _ (by decide +kernel)) ggX3_tell_X0_mayTell
set_option maxRecDepth 20000 in
theorem ggX3_tell_X3_found : GoodIn wsX3_tell wsX3_found := goodIn_r _ [22, 2, 23, 24, 25, 21, 26, 38, 39, 40, 41, 42, 43, 44] rfl (by decide +kernel)
set_option maxRecDepth 20000 in
theorem gX3_tell_X3_found : GoodIn wsX3_tell (wsV RX3 49 RX3 yX3_found wsX3_found) := goodIn_app (goodIn_of _ (by decide +kernel)) ggX3_tell_X3_found
set_option maxRecDepth 20000 in
theorem ggX3_tell_X0_speechRow : GoodIn wsX3_tell wsX0_speechRow := goodIn_r _ [30, 31, 32, 33, 34, 45, 46, 47, 48, 49, 50, 51, 52, 53, 54, 55, 56] rfl (by decide +kernel)
set_option maxRecDepth 20000 in
theorem gX3_tell_X0_speechRow : GoodIn wsX3_tell (wsV RX3 109 RX0 yX0_speechRow wsX0_speechRow) := goodIn_app (goodIn_of _ (by decide +kernel)) ggX3_tell_X0_speechRow
set_option maxRecDepth 20000 in
theorem ggX3_tell_X3_exchange : GoodIn wsX3_tell wsX3_exchange := goodIn_r _ [37] rfl (by decide +kernel)
set_option maxRecDepth 20000 in
theorem gX3_tell_X3_exchange : GoodIn wsX3_tell (va_wsS RX3 75 yX3_exchange wsX3_exchange) := goodIn_app (goodIn_of _ (by decide +kernel)) ggX3_tell_X3_exchange
theorem dX3_tell_0 : decode cX3_tell 0 = .ok (.aload_n 0, 1) := by decide +kernel
theorem dX3_tell_1 : decode cX3_tell 1 = .ok (.getfield 10, 3) := by decide +kernel
theorem dX3_tell_4 : decode cX3_tell 4 = .ok (.iload_n 1, 1) := by decide +kernel
theorem dX3_tell_5 : decode cX3_tell 5 = .ok (.invokevirtual 100, 3) := by decide +kernel
theorem dX3_tell_8 : decode cX3_tell 8 = .ok (.ifCond .eq 15, 3) := by decide +kernel
theorem dX3_tell_11 : decode cX3_tell 11 = .ok (.aload_n 0, 1) := by decide +kernel
theorem dX3_tell_12 : decode cX3_tell 12 = .ok (.getfield 10, 3) := by decide +kernel
theorem dX3_tell_15 : decode cX3_tell 15 = .ok (.iload_n 2, 1) := by decide +kernel
theorem dX3_tell_16 : decode cX3_tell 16 = .ok (.iload_n 3, 1) := by decide +kernel
theorem dX3_tell_17 : decode cX3_tell 17 = .ok (.invokevirtual 90, 3) := by decide +kernel
theorem dX3_tell_20 : decode cX3_tell 20 = .ok (.ifCond .ne 10, 3) := by decide +kernel
theorem dX3_tell_23 : decode cX3_tell 23 = .ok (.aload_n 0, 1) := by decide +kernel
theorem dX3_tell_24 : decode cX3_tell 24 = .ok (.ldc 48, 2) := by decide +kernel
theorem dX3_tell_26 : decode cX3_tell 26 = .ok (.invokevirtual 49, 3) := by decide +kernel
theorem dX3_tell_29 : decode cX3_tell 29 = .ok (.ireturn, 1) := by decide +kernel
theorem dX3_tell_30 : decode cX3_tell 30 = .ok (.aload_n 0, 1) := by decide +kernel
theorem dX3_tell_31 : decode cX3_tell 31 = .ok (.getfield 10, 3) := by decide +kernel
theorem dX3_tell_34 : decode cX3_tell 34 = .ok (.iload_n 2, 1) := by decide +kernel
theorem dX3_tell_35 : decode cX3_tell 35 = .ok (.invokevirtual 109, 3) := by decide +kernel
theorem dX3_tell_38 : decode cX3_tell 38 = .ok (.iload_n 1, 1) := by decide +kernel
theorem dX3_tell_39 : decode cX3_tell 39 = .ok (.iload_n 3, 1) := by decide +kernel
theorem dX3_tell_40 : decode cX3_tell 40 = .ok (.invokestatic 75, 3) := by decide +kernel
theorem dX3_tell_43 : decode cX3_tell 43 = .ok (.ireturn, 1) := by decide +kernel
set_option maxRecDepth 20000 in
theorem ggX3_loses_X0_hasDelegate : GoodIn wsX3_loses wsX0_hasDelegate := goodIn_r _ [8, 9, 44, 45, 46, 47, 48, 49, 50, 51, 52, 53, 54, 55] rfl (by decide +kernel)
set_option maxRecDepth 20000 in
theorem gX3_loses_X0_hasDelegate : GoodIn wsX3_loses (wsV RX3 61 RX0 yX0_hasDelegate wsX0_hasDelegate) := goodIn_app (goodIn_of _ (by decide +kernel)) ggX3_loses_X0_hasDelegate
set_option maxRecDepth 20000 in
theorem ggX3_loses_X0_hasSpeech : GoodIn wsX3_loses wsX0_hasSpeech := goodIn_r _ [13, 14, 44, 45, 46, 47, 48, 49, 50, 51, 52, 53, 54, 55] rfl (by decide +kernel)
set_option maxRecDepth 20000 in
theorem gX3_loses_X0_hasSpeech : GoodIn wsX3_loses (wsV RX3 100 RX0 yX0_hasSpeech wsX0_hasSpeech) := goodIn_app (goodIn_of _ (by decide +kernel)) ggX3_loses_X0_hasSpeech
set_option maxRecDepth 20000 in
theorem ggX3_loses_X3_found : GoodIn wsX3_loses wsX3_found := goodIn_r _ [19, 2, 20, 21, 22, 18, 23, 37, 38, 39, 40, 41, 42, 43] rfl (by decide +kernel)
set_option maxRecDepth 20000 in
theorem gX3_loses_X3_found : GoodIn wsX3_loses (wsV RX3 49 RX3 yX3_found wsX3_found) := goodIn_app (goodIn_of _ (by decide +kernel)) ggX3_loses_X3_found
set_option maxRecDepth 20000 in
theorem ggX3_loses_X0_lossOf : GoodIn wsX3_loses wsX0_lossOf := goodIn_r _ [27, 28, 29, 30, 31, 32, 33, 34, 35, 36, 44, 45, 46, 47, 48, 49, 50, 51, 52, 53, 54, 55] rfl (by decide +kernel)
set_option maxRecDepth 20000 in
theorem gX3_loses_X0_lossOf : GoodIn wsX3_loses (wsV RX3 115 RX0 yX0_lossOf wsX0_lossOf) := goodIn_app (goodIn_of _ (by decide +kernel)) ggX3_loses_X0_lossOf
theorem dX3_loses_0 : decode cX3_loses 0 = .ok (.aload_n 0, 1) := by decide +kernel
theorem dX3_loses_1 : decode cX3_loses 1 = .ok (.getfield 10, 3) := by decide +kernel
theorem dX3_loses_4 : decode cX3_loses 4 = .ok (.iload_n 1, 1) := by decide +kernel
theorem dX3_loses_5 : decode cX3_loses 5 = .ok (.invokevirtual 61, 3) := by decide +kernel
theorem dX3_loses_8 : decode cX3_loses 8 = .ok (.ifCond .eq 14, 3) := by decide +kernel
theorem dX3_loses_11 : decode cX3_loses 11 = .ok (.aload_n 0, 1) := by decide +kernel
theorem dX3_loses_12 : decode cX3_loses 12 = .ok (.getfield 10, 3) := by decide +kernel
theorem dX3_loses_15 : decode cX3_loses 15 = .ok (.iload_n 2, 1) := by decide +kernel
theorem dX3_loses_16 : decode cX3_loses 16 = .ok (.invokevirtual 100, 3) := by decide +kernel
theorem dX3_loses_19 : decode cX3_loses 19 = .ok (.ifCond .ne 10, 3) := by decide +kernel
theorem dX3_loses_22 : decode cX3_loses 22 = .ok (.aload_n 0, 1) := by decide +kernel
theorem dX3_loses_23 : decode cX3_loses 23 = .ok (.ldc 48, 2) := by decide +kernel
theorem dX3_loses_25 : decode cX3_loses 25 = .ok (.invokevirtual 49, 3) := by decide +kernel
theorem dX3_loses_28 : decode cX3_loses 28 = .ok (.ireturn, 1) := by decide +kernel
theorem dX3_loses_29 : decode cX3_loses 29 = .ok (.aload_n 0, 1) := by decide +kernel
theorem dX3_loses_30 : decode cX3_loses 30 = .ok (.getfield 10, 3) := by decide +kernel
theorem dX3_loses_33 : decode cX3_loses 33 = .ok (.iload_n 1, 1) := by decide +kernel
theorem dX3_loses_34 : decode cX3_loses 34 = .ok (.iload_n 2, 1) := by decide +kernel
theorem dX3_loses_35 : decode cX3_loses 35 = .ok (.aload_n 0, 1) := by decide +kernel
theorem dX3_loses_36 : decode cX3_loses 36 = .ok (.getfield 10, 3) := by decide +kernel
theorem dX3_loses_39 : decode cX3_loses 39 = .ok (.getfield 112, 3) := by decide +kernel
theorem dX3_loses_42 : decode cX3_loses 42 = .ok (.iload_n 2, 1) := by decide +kernel
theorem dX3_loses_43 : decode cX3_loses 43 = .ok (.iaload, 1) := by decide +kernel
theorem dX3_loses_44 : decode cX3_loses 44 = .ok (.invokevirtual 115, 3) := by decide +kernel
theorem dX3_loses_47 : decode cX3_loses 47 = .ok (.ireturn, 1) := by decide +kernel
set_option maxRecDepth 20000 in
theorem ggX3_renders_X0_hasDelegate : GoodIn wsX3_renders wsX0_hasDelegate := goodIn_r _ [8, 9, 44, 45, 46, 47, 48, 49, 50, 51, 52, 53, 54, 55] rfl (by decide +kernel)
set_option maxRecDepth 20000 in
theorem gX3_renders_X0_hasDelegate : GoodIn wsX3_renders (wsV RX3 61 RX0 yX0_hasDelegate wsX0_hasDelegate) := goodIn_app (goodIn_of _ (by decide +kernel)) ggX3_renders_X0_hasDelegate
set_option maxRecDepth 20000 in
theorem ggX3_renders_X0_hasSpeech : GoodIn wsX3_renders wsX0_hasSpeech := goodIn_r _ [13, 14, 44, 45, 46, 47, 48, 49, 50, 51, 52, 53, 54, 55] rfl (by decide +kernel)
set_option maxRecDepth 20000 in
theorem gX3_renders_X0_hasSpeech : GoodIn wsX3_renders (wsV RX3 100 RX0 yX0_hasSpeech wsX0_hasSpeech) := goodIn_app (goodIn_of _ (by decide +kernel)) ggX3_renders_X0_hasSpeech
set_option maxRecDepth 20000 in
theorem ggX3_renders_X3_found : GoodIn wsX3_renders wsX3_found := goodIn_r _ [19, 2, 20, 21, 22, 18, 23, 37, 38, 39, 40, 41, 42, 43] rfl (by decide +kernel)
set_option maxRecDepth 20000 in
theorem gX3_renders_X3_found : GoodIn wsX3_renders (wsV RX3 49 RX3 yX3_found wsX3_found) := goodIn_app (goodIn_of _ (by decide +kernel)) ggX3_renders_X3_found
set_option maxRecDepth 20000 in
theorem ggX3_renders_X0_renderedBy : GoodIn wsX3_renders wsX0_renderedBy := goodIn_r _ [27, 28, 29, 30, 31, 32, 33, 34, 35, 36, 44, 45, 46, 47, 48, 49, 50, 51, 52, 53, 54, 55] rfl (by decide +kernel)
set_option maxRecDepth 20000 in
theorem gX3_renders_X0_renderedBy : GoodIn wsX3_renders (wsV RX3 119 RX0 yX0_renderedBy wsX0_renderedBy) := goodIn_app (goodIn_of _ (by decide +kernel)) ggX3_renders_X0_renderedBy
theorem dX3_renders_0 : decode cX3_renders 0 = .ok (.aload_n 0, 1) := by decide +kernel
theorem dX3_renders_1 : decode cX3_renders 1 = .ok (.getfield 10, 3) := by decide +kernel
theorem dX3_renders_4 : decode cX3_renders 4 = .ok (.iload_n 1, 1) := by decide +kernel
theorem dX3_renders_5 : decode cX3_renders 5 = .ok (.invokevirtual 61, 3) := by decide +kernel
theorem dX3_renders_8 : decode cX3_renders 8 = .ok (.ifCond .eq 14, 3) := by decide +kernel
theorem dX3_renders_11 : decode cX3_renders 11 = .ok (.aload_n 0, 1) := by decide +kernel
theorem dX3_renders_12 : decode cX3_renders 12 = .ok (.getfield 10, 3) := by decide +kernel
theorem dX3_renders_15 : decode cX3_renders 15 = .ok (.iload_n 2, 1) := by decide +kernel
theorem dX3_renders_16 : decode cX3_renders 16 = .ok (.invokevirtual 100, 3) := by decide +kernel
theorem dX3_renders_19 : decode cX3_renders 19 = .ok (.ifCond .ne 10, 3) := by decide +kernel
theorem dX3_renders_22 : decode cX3_renders 22 = .ok (.aload_n 0, 1) := by decide +kernel
theorem dX3_renders_23 : decode cX3_renders 23 = .ok (.ldc 48, 2) := by decide +kernel
theorem dX3_renders_25 : decode cX3_renders 25 = .ok (.invokevirtual 49, 3) := by decide +kernel
theorem dX3_renders_28 : decode cX3_renders 28 = .ok (.ireturn, 1) := by decide +kernel
theorem dX3_renders_29 : decode cX3_renders 29 = .ok (.aload_n 0, 1) := by decide +kernel
theorem dX3_renders_30 : decode cX3_renders 30 = .ok (.getfield 10, 3) := by decide +kernel
theorem dX3_renders_33 : decode cX3_renders 33 = .ok (.iload_n 1, 1) := by decide +kernel
theorem dX3_renders_34 : decode cX3_renders 34 = .ok (.aload_n 0, 1) := by decide +kernel
theorem dX3_renders_35 : decode cX3_renders 35 = .ok (.getfield 10, 3) := by decide +kernel
theorem dX3_renders_38 : decode cX3_renders 38 = .ok (.getfield 112, 3) := by decide +kernel
theorem dX3_renders_41 : decode cX3_renders 41 = .ok (.iload_n 2, 1) := by decide +kernel
theorem dX3_renders_42 : decode cX3_renders 42 = .ok (.iaload, 1) := by decide +kernel
theorem dX3_renders_43 : decode cX3_renders 43 = .ok (.invokevirtual 119, 3) := by decide +kernel
theorem dX3_renders_46 : decode cX3_renders 46 = .ok (.ireturn, 1) := by decide +kernel
set_option maxRecDepth 20000 in
theorem ggX3_hurts_X0_hasSpeech : GoodIn wsX3_hurts wsX0_hasSpeech := goodIn_r _ [7, 8, 60, 61, 62, 63, 64, 65, 66, 67, 68, 69, 70, 71] rfl (by decide +kernel)
set_option maxRecDepth 20000 in
theorem gX3_hurts_X0_hasSpeech : GoodIn wsX3_hurts (wsV RX3 100 RX0 yX0_hasSpeech wsX0_hasSpeech) := goodIn_app (goodIn_of _ (by decide +kernel)) ggX3_hurts_X0_hasSpeech
set_option maxRecDepth 20000 in
theorem ggX3_hurts_X3_found : GoodIn wsX3_hurts wsX3_found := goodIn_r _ [13, 2, 14, 15, 16, 12, 17, 53, 54, 55, 56, 57, 58, 59] rfl (by decide +kernel)
set_option maxRecDepth 20000 in
theorem gX3_hurts_X3_found : GoodIn wsX3_hurts (wsV RX3 49 RX3 yX3_found wsX3_found) := goodIn_app (goodIn_of _ (by decide +kernel)) ggX3_hurts_X3_found
set_option maxRecDepth 20000 in
theorem ggX3_hurts_X0_hurtBy : GoodIn wsX3_hurts wsX0_hurtBy := goodIn_r _ [21, 22, 23, 24, 25, 6, 26, 27, 28, 29, 30, 31, 32, 33, 34, 35, 36, 37, 38, 39, 40, 41, 42, 43, 44, 45, 46, 47, 48, 49, 50, 51, 52, 60, 61, 62, 63, 64, 65, 66, 67, 68, 69, 70, 71] rfl (by decide +kernel)
set_option maxRecDepth 20000 in
theorem gX3_hurts_X0_hurtBy : GoodIn wsX3_hurts (wsV RX3 123 RX0 yX0_hurtBy wsX0_hurtBy) := goodIn_app (goodIn_of _ (by decide +kernel)) ggX3_hurts_X0_hurtBy
theorem dX3_hurts_0 : decode cX3_hurts 0 = .ok (.aload_n 0, 1) := by decide +kernel
theorem dX3_hurts_1 : decode cX3_hurts 1 = .ok (.getfield 10, 3) := by decide +kernel
theorem dX3_hurts_4 : decode cX3_hurts 4 = .ok (.iload_n 1, 1) := by decide +kernel
theorem dX3_hurts_5 : decode cX3_hurts 5 = .ok (.invokevirtual 100, 3) := by decide +kernel
theorem dX3_hurts_8 : decode cX3_hurts 8 = .ok (.ifCond .ne 10, 3) := by decide +kernel
theorem dX3_hurts_11 : decode cX3_hurts 11 = .ok (.aload_n 0, 1) := by decide +kernel
theorem dX3_hurts_12 : decode cX3_hurts 12 = .ok (.ldc 48, 2) := by decide +kernel
theorem dX3_hurts_14 : decode cX3_hurts 14 = .ok (.invokevirtual 49, 3) := by decide +kernel
theorem dX3_hurts_17 : decode cX3_hurts 17 = .ok (.ireturn, 1) := by decide +kernel
theorem dX3_hurts_18 : decode cX3_hurts 18 = .ok (.aload_n 0, 1) := by decide +kernel
theorem dX3_hurts_19 : decode cX3_hurts 19 = .ok (.getfield 10, 3) := by decide +kernel
theorem dX3_hurts_22 : decode cX3_hurts 22 = .ok (.iload_n 1, 1) := by decide +kernel
theorem dX3_hurts_23 : decode cX3_hurts 23 = .ok (.invokevirtual 123, 3) := by decide +kernel
theorem dX3_hurts_26 : decode cX3_hurts 26 = .ok (.ireturn, 1) := by decide +kernel
set_option maxRecDepth 20000 in
theorem ggX3_sessions_X3_isWithin : GoodIn wsX3_sessions wsX3_isWithin := goodIn_r _ [9] rfl (by decide +kernel)
set_option maxRecDepth 20000 in
theorem gX3_sessions_X3_isWithin : GoodIn wsX3_sessions (va_wsS RX3 44 yX3_isWithin wsX3_isWithin) := goodIn_app (goodIn_of _ (by decide +kernel)) ggX3_sessions_X3_isWithin
set_option maxRecDepth 20000 in
theorem ggX3_sessions_X3_found : GoodIn wsX3_sessions wsX3_found := goodIn_r _ [13, 1, 14, 6, 7, 8, 9, 79, 80, 81, 82, 83, 84, 85] rfl (by decide +kernel)
set_option maxRecDepth 20000 in
theorem gX3_sessions_X3_found : GoodIn wsX3_sessions (wsV RX3 49 RX3 yX3_found wsX3_found) := goodIn_app (goodIn_of _ (by decide +kernel)) ggX3_sessions_X3_found
set_option maxRecDepth 20000 in
theorem ggX3_sessions_X0_goOn : GoodIn wsX3_sessions wsX0_goOn := goodIn_r _ [19, 20, 21, 22, 18, 23, 24, 25, 26, 27, 28, 29, 30, 31, 32, 33, 34, 35, 36, 37, 38, 39, 40, 41, 42, 43, 44, 45, 46, 47, 48, 49, 50, 51, 52, 53, 54, 55, 56, 57, 58, 59, 60, 61, 62, 63, 64, 65, 66, 67, 68, 69, 70, 71, 86, 87, 88, 89, 90, 91, 92, 93, 94, 95, 96, 97] rfl (by decide +kernel)
set_option maxRecDepth 20000 in
theorem gX3_sessions_X0_goOn : GoodIn wsX3_sessions (wsV RX3 131 RX0 yX0_goOn wsX0_goOn) := goodIn_app (goodIn_of _ (by decide +kernel)) ggX3_sessions_X0_goOn
set_option maxRecDepth 20000 in
theorem ggX3_sessions_X0_hurtOfAll : GoodIn wsX3_sessions wsX0_hurtOfAll := goodIn_r _ [75, 61, 35, 76, 77, 18, 78, 86, 87, 88, 89, 90, 91, 92, 93, 94, 95, 96, 97] rfl (by decide +kernel)
set_option maxRecDepth 20000 in
theorem gX3_sessions_X0_hurtOfAll : GoodIn wsX3_sessions (wsV RX3 135 RX0 yX0_hurtOfAll wsX0_hurtOfAll) := goodIn_app (goodIn_of _ (by decide +kernel)) ggX3_sessions_X0_hurtOfAll
theorem dX3_sessions_0 : decode cX3_sessions 0 = .ok (.iload_n 1, 1) := by decide +kernel
theorem dX3_sessions_1 : decode cX3_sessions 1 = .ok (.iconst 1, 1) := by decide +kernel
theorem dX3_sessions_2 : decode cX3_sessions 2 = .ok (.bipush 100, 2) := by decide +kernel
theorem dX3_sessions_4 : decode cX3_sessions 4 = .ok (.invokestatic 44, 3) := by decide +kernel
theorem dX3_sessions_7 : decode cX3_sessions 7 = .ok (.ifCond .ne 10, 3) := by decide +kernel
theorem dX3_sessions_10 : decode cX3_sessions 10 = .ok (.aload_n 0, 1) := by decide +kernel
theorem dX3_sessions_11 : decode cX3_sessions 11 = .ok (.ldc 48, 2) := by decide +kernel
theorem dX3_sessions_13 : decode cX3_sessions 13 = .ok (.invokevirtual 49, 3) := by decide +kernel
theorem dX3_sessions_16 : decode cX3_sessions 16 = .ok (.ireturn, 1) := by decide +kernel
theorem dX3_sessions_17 : decode cX3_sessions 17 = .ok (.aload_n 0, 1) := by decide +kernel
theorem dX3_sessions_18 : decode cX3_sessions 18 = .ok (.getfield 10, 3) := by decide +kernel
theorem dX3_sessions_21 : decode cX3_sessions 21 = .ok (.getfield 126, 3) := by decide +kernel
theorem dX3_sessions_24 : decode cX3_sessions 24 = .ok (.iload_n 1, 1) := by decide +kernel
theorem dX3_sessions_25 : decode cX3_sessions 25 = .ok (.iadd, 1) := by decide +kernel
theorem dX3_sessions_26 : decode cX3_sessions 26 = .ok (.ldc 129, 2) := by decide +kernel
theorem dX3_sessions_28 : decode cX3_sessions 28 = .ok (.if_icmp .le 10, 3) := by decide +kernel
theorem dX3_sessions_31 : decode cX3_sessions 31 = .ok (.aload_n 0, 1) := by decide +kernel
theorem dX3_sessions_32 : decode cX3_sessions 32 = .ok (.ldc 130, 2) := by decide +kernel
theorem dX3_sessions_34 : decode cX3_sessions 34 = .ok (.invokevirtual 49, 3) := by decide +kernel
theorem dX3_sessions_37 : decode cX3_sessions 37 = .ok (.ireturn, 1) := by decide +kernel
theorem dX3_sessions_38 : decode cX3_sessions 38 = .ok (.aload_n 0, 1) := by decide +kernel
theorem dX3_sessions_39 : decode cX3_sessions 39 = .ok (.getfield 10, 3) := by decide +kernel
theorem dX3_sessions_42 : decode cX3_sessions 42 = .ok (.iload_n 1, 1) := by decide +kernel
theorem dX3_sessions_43 : decode cX3_sessions 43 = .ok (.invokevirtual 131, 3) := by decide +kernel
theorem dX3_sessions_46 : decode cX3_sessions 46 = .ok (.aload_n 0, 1) := by decide +kernel
theorem dX3_sessions_47 : decode cX3_sessions 47 = .ok (.getfield 10, 3) := by decide +kernel
theorem dX3_sessions_50 : decode cX3_sessions 50 = .ok (.invokevirtual 135, 3) := by decide +kernel
theorem dX3_sessions_53 : decode cX3_sessions 53 = .ok (.ireturn, 1) := by decide +kernel
set_option maxRecDepth 20000 in
theorem ggX3_now_X0_nextSpeech : GoodIn wsX3_now wsX0_nextSpeech := goodIn_r _ [8, 9, 10, 63, 64, 65, 66, 67, 68, 69, 70, 71, 72, 73, 74] rfl (by decide +kernel)
set_option maxRecDepth 20000 in
theorem gX3_now_X0_nextSpeech : GoodIn wsX3_now (wsV RX3 139 RX0 yX0_nextSpeech wsX0_nextSpeech) := goodIn_app (goodIn_of _ (by decide +kernel)) ggX3_now_X0_nextSpeech
set_option maxRecDepth 20000 in
theorem ggX3_now_X0_hurtOfAll : GoodIn wsX3_now wsX0_hurtOfAll := goodIn_r _ [14, 15, 16, 17, 18, 7, 19, 63, 64, 65, 66, 67, 68, 69, 70, 71, 72, 73, 74] rfl (by decide +kernel)
set_option maxRecDepth 20000 in
theorem gX3_now_X0_hurtOfAll : GoodIn wsX3_now (wsV RX3 135 RX0 yX0_hurtOfAll wsX0_hurtOfAll) := goodIn_app (goodIn_of _ (by decide +kernel)) ggX3_now_X0_hurtOfAll
set_option maxRecDepth 20000 in
theorem ggX3_now_X0_forceOfAll : GoodIn wsX3_now wsX0_forceOfAll := goodIn_r _ [23, 24, 9, 17, 18, 7, 19, 63, 64, 65, 66, 67, 68, 69, 70, 71, 72, 73, 74] rfl (by decide +kernel)
set_option maxRecDepth 20000 in
theorem gX3_now_X0_forceOfAll : GoodIn wsX3_now (wsV RX3 142 RX0 yX0_forceOfAll wsX0_forceOfAll) := goodIn_app (goodIn_of _ (by decide +kernel)) ggX3_now_X0_forceOfAll
set_option maxRecDepth 20000 in
theorem ggX3_now_X0_gestured : GoodIn wsX3_now wsX0_gestured := goodIn_r _ [28, 9, 29, 30, 31, 7, 32, 16, 33, 34, 35, 24, 36, 37, 38, 39, 40, 41, 42, 43, 44, 45, 46, 63, 64, 65, 66, 67, 68, 69, 70, 71, 72, 73, 74] rfl (by decide +kernel)
set_option maxRecDepth 20000 in
theorem gX3_now_X0_gestured : GoodIn wsX3_now (wsV RX3 145 RX0 yX0_gestured wsX0_gestured) := goodIn_app (goodIn_of _ (by decide +kernel)) ggX3_now_X0_gestured
set_option maxRecDepth 20000 in
theorem ggX3_now_X3_found : GoodIn wsX3_now wsX3_found := goodIn_r _ [51, 3, 52, 53, 54, 50, 55, 56, 57, 58, 59, 60, 61, 62] rfl (by decide +kernel)
set_option maxRecDepth 20000 in
theorem gX3_now_X3_found : GoodIn wsX3_now (wsV RX3 49 RX3 yX3_found wsX3_found) := goodIn_app (goodIn_of _ (by decide +kernel)) ggX3_now_X3_found
theorem dX3_now_0 : decode cX3_now 0 = .ok (.iload_n 1, 1) := by decide +kernel
theorem dX3_now_1 : decode cX3_now 1 = .ok (.tableswitch 75 0 4 #[35, 43, 51, 59, 67], 35) := by decide +kernel
theorem dX3_now_36 : decode cX3_now 36 = .ok (.aload_n 0, 1) := by decide +kernel
theorem dX3_now_37 : decode cX3_now 37 = .ok (.getfield 10, 3) := by decide +kernel
theorem dX3_now_40 : decode cX3_now 40 = .ok (.getfield 126, 3) := by decide +kernel
theorem dX3_now_43 : decode cX3_now 43 = .ok (.ireturn, 1) := by decide +kernel
theorem dX3_now_44 : decode cX3_now 44 = .ok (.aload_n 0, 1) := by decide +kernel
theorem dX3_now_45 : decode cX3_now 45 = .ok (.getfield 10, 3) := by decide +kernel
theorem dX3_now_48 : decode cX3_now 48 = .ok (.invokevirtual 139, 3) := by decide +kernel
theorem dX3_now_51 : decode cX3_now 51 = .ok (.ireturn, 1) := by decide +kernel
theorem dX3_now_52 : decode cX3_now 52 = .ok (.aload_n 0, 1) := by decide +kernel
theorem dX3_now_53 : decode cX3_now 53 = .ok (.getfield 10, 3) := by decide +kernel
theorem dX3_now_56 : decode cX3_now 56 = .ok (.invokevirtual 135, 3) := by decide +kernel
theorem dX3_now_59 : decode cX3_now 59 = .ok (.ireturn, 1) := by decide +kernel
theorem dX3_now_60 : decode cX3_now 60 = .ok (.aload_n 0, 1) := by decide +kernel
theorem dX3_now_61 : decode cX3_now 61 = .ok (.getfield 10, 3) := by decide +kernel
theorem dX3_now_64 : decode cX3_now 64 = .ok (.invokevirtual 142, 3) := by decide +kernel
theorem dX3_now_67 : decode cX3_now 67 = .ok (.ireturn, 1) := by decide +kernel
theorem dX3_now_68 : decode cX3_now 68 = .ok (.aload_n 0, 1) := by decide +kernel
theorem dX3_now_69 : decode cX3_now 69 = .ok (.getfield 10, 3) := by decide +kernel
theorem dX3_now_72 : decode cX3_now 72 = .ok (.invokevirtual 145, 3) := by decide +kernel
theorem dX3_now_75 : decode cX3_now 75 = .ok (.ireturn, 1) := by decide +kernel
theorem dX3_now_76 : decode cX3_now 76 = .ok (.aload_n 0, 1) := by decide +kernel
theorem dX3_now_77 : decode cX3_now 77 = .ok (.ldc 48, 2) := by decide +kernel
theorem dX3_now_79 : decode cX3_now 79 = .ok (.invokevirtual 49, 3) := by decide +kernel
theorem dX3_now_82 : decode cX3_now 82 = .ok (.ireturn, 1) := by decide +kernel
set_option maxRecDepth 20000 in
theorem ggX3_on_X0_hasDelegate : GoodIn wsX3_on wsX0_hasDelegate := goodIn_r _ [10, 11, 95, 96, 97, 98, 99, 100, 101, 102, 103, 104, 105, 106] rfl (by decide +kernel)
set_option maxRecDepth 20000 in
theorem gX3_on_X0_hasDelegate : GoodIn wsX3_on (wsV RX3 61 RX0 yX0_hasDelegate wsX0_hasDelegate) := goodIn_app (goodIn_of _ (by decide +kernel)) ggX3_on_X0_hasDelegate
set_option maxRecDepth 20000 in
theorem ggX3_on_X3_isWithin : GoodIn wsX3_on wsX3_isWithin := goodIn_r _ [15] rfl (by decide +kernel)
set_option maxRecDepth 20000 in
theorem gX3_on_X3_isWithin : GoodIn wsX3_on (va_wsS RX3 44 yX3_isWithin wsX3_isWithin) := goodIn_app (goodIn_of _ (by decide +kernel)) ggX3_on_X3_isWithin
set_option maxRecDepth 20000 in
theorem ggX3_on_X3_found : GoodIn wsX3_on wsX3_found := goodIn_r _ [19, 2, 20, 12, 13, 14, 15, 88, 89, 90, 91, 92, 93, 94] rfl (by decide +kernel)
set_option maxRecDepth 20000 in
theorem gX3_on_X3_found : GoodIn wsX3_on (wsV RX3 49 RX3 yX3_found wsX3_found) := goodIn_app (goodIn_of _ (by decide +kernel)) ggX3_on_X3_found
set_option maxRecDepth 20000 in
theorem ggX3_on_X3_foresee : GoodIn wsX3_on wsX3_foresee := goodIn_r _ [24, 3, 1, 25, 26, 27, 9, 28, 29, 11, 30, 31, 32, 33, 34, 35, 36, 37, 38, 39, 40, 41, 42, 43, 44, 45, 46, 47, 48, 49, 50, 51, 52, 53, 54, 55, 56, 57, 58, 59, 60, 61, 62, 63, 64, 65, 66, 67, 68, 69, 70, 71, 72, 73, 74, 75, 76, 77, 78, 79, 80, 81, 82, 83, 84, 85, 86, 87, 88, 89, 90, 91, 92, 93, 94, 95, 96, 97, 98, 99, 100, 101, 102, 103, 104, 105, 106] rfl (by decide +kernel)
set_option maxRecDepth 20000 in
theorem gX3_on_X3_foresee : GoodIn wsX3_on (wsV RX3 148 RX3 yX3_foresee wsX3_foresee) := goodIn_app (goodIn_of _ (by decide +kernel)) ggX3_on_X3_foresee
theorem dX3_on_0 : decode cX3_on 0 = .ok (.aload_n 0, 1) := by decide +kernel
theorem dX3_on_1 : decode cX3_on 1 = .ok (.getfield 10, 3) := by decide +kernel
theorem dX3_on_4 : decode cX3_on 4 = .ok (.iload_n 1, 1) := by decide +kernel
theorem dX3_on_5 : decode cX3_on 5 = .ok (.invokevirtual 61, 3) := by decide +kernel
theorem dX3_on_8 : decode cX3_on 8 = .ok (.ifCond .eq 23, 3) := by decide +kernel
theorem dX3_on_11 : decode cX3_on 11 = .ok (.iload_n 2, 1) := by decide +kernel
theorem dX3_on_12 : decode cX3_on 12 = .ok (.iconst 0, 1) := by decide +kernel
theorem dX3_on_13 : decode cX3_on 13 = .ok (.sipush 200, 3) := by decide +kernel
theorem dX3_on_16 : decode cX3_on 16 = .ok (.invokestatic 44, 3) := by decide +kernel
theorem dX3_on_19 : decode cX3_on 19 = .ok (.ifCond .eq 12, 3) := by decide +kernel
theorem dX3_on_22 : decode cX3_on 22 = .ok (.iload_n 3, 1) := by decide +kernel
theorem dX3_on_23 : decode cX3_on 23 = .ok (.iconst 0, 1) := by decide +kernel
theorem dX3_on_24 : decode cX3_on 24 = .ok (.iconst 1, 1) := by decide +kernel
theorem dX3_on_25 : decode cX3_on 25 = .ok (.invokestatic 44, 3) := by decide +kernel
theorem dX3_on_28 : decode cX3_on 28 = .ok (.ifCond .ne 10, 3) := by decide +kernel
theorem dX3_on_31 : decode cX3_on 31 = .ok (.aload_n 0, 1) := by decide +kernel
theorem dX3_on_32 : decode cX3_on 32 = .ok (.ldc 48, 2) := by decide +kernel
theorem dX3_on_34 : decode cX3_on 34 = .ok (.invokevirtual 49, 3) := by decide +kernel
theorem dX3_on_37 : decode cX3_on 37 = .ok (.ireturn, 1) := by decide +kernel
theorem dX3_on_38 : decode cX3_on 38 = .ok (.aload_n 0, 1) := by decide +kernel
theorem dX3_on_39 : decode cX3_on 39 = .ok (.iload_n 2, 1) := by decide +kernel
theorem dX3_on_40 : decode cX3_on 40 = .ok (.invokevirtual 148, 3) := by decide +kernel
theorem dX3_on_43 : decode cX3_on 43 = .ok (.iload_n 3, 1) := by decide +kernel
theorem dX3_on_44 : decode cX3_on 44 = .ok (.ifCond .ne 15, 3) := by decide +kernel
theorem dX3_on_47 : decode cX3_on 47 = .ok (.aload_n 0, 1) := by decide +kernel
theorem dX3_on_48 : decode cX3_on 48 = .ok (.getfield 19, 3) := by decide +kernel
theorem dX3_on_51 : decode cX3_on 51 = .ok (.getfield 87, 3) := by decide +kernel
theorem dX3_on_54 : decode cX3_on 54 = .ok (.iload_n 1, 1) := by decide +kernel
theorem dX3_on_55 : decode cX3_on 55 = .ok (.iaload, 1) := by decide +kernel
theorem dX3_on_56 : decode cX3_on 56 = .ok (.goto 12, 3) := by decide +kernel
theorem dX3_on_59 : decode cX3_on 59 = .ok (.aload_n 0, 1) := by decide +kernel
theorem dX3_on_60 : decode cX3_on 60 = .ok (.getfield 19, 3) := by decide +kernel
theorem dX3_on_63 : decode cX3_on 63 = .ok (.getfield 151, 3) := by decide +kernel
theorem dX3_on_66 : decode cX3_on 66 = .ok (.iload_n 1, 1) := by decide +kernel
theorem dX3_on_67 : decode cX3_on 67 = .ok (.iaload, 1) := by decide +kernel
theorem dX3_on_68 : decode cX3_on 68 = .ok (.ireturn, 1) := by decide +kernel
set_option maxRecDepth 20000 in
theorem ggX3_left_X0_hasSpeech : GoodIn wsX3_left wsX0_hasSpeech := goodIn_r _ [9, 10, 94, 95, 96, 97, 98, 99, 100, 101, 102, 103, 104, 105] rfl (by decide +kernel)
set_option maxRecDepth 20000 in
theorem gX3_left_X0_hasSpeech : GoodIn wsX3_left (wsV RX3 100 RX0 yX0_hasSpeech wsX0_hasSpeech) := goodIn_app (goodIn_of _ (by decide +kernel)) ggX3_left_X0_hasSpeech
set_option maxRecDepth 20000 in
theorem ggX3_left_X3_isWithin : GoodIn wsX3_left wsX3_isWithin := goodIn_r _ [14] rfl (by decide +kernel)
set_option maxRecDepth 20000 in
theorem gX3_left_X3_isWithin : GoodIn wsX3_left (va_wsS RX3 44 yX3_isWithin wsX3_isWithin) := goodIn_app (goodIn_of _ (by decide +kernel)) ggX3_left_X3_isWithin
set_option maxRecDepth 20000 in
theorem ggX3_left_X3_found : GoodIn wsX3_left wsX3_found := goodIn_r _ [18, 2, 19, 11, 12, 13, 14, 87, 88, 89, 90, 91, 92, 93] rfl (by decide +kernel)
set_option maxRecDepth 20000 in
theorem gX3_left_X3_found : GoodIn wsX3_left (wsV RX3 49 RX3 yX3_found wsX3_found) := goodIn_app (goodIn_of _ (by decide +kernel)) ggX3_left_X3_found
set_option maxRecDepth 20000 in
theorem ggX3_left_X3_foresee : GoodIn wsX3_left wsX3_foresee := goodIn_r _ [23, 3, 1, 24, 25, 26, 8, 27, 28, 29, 30, 31, 32, 33, 34, 35, 36, 37, 38, 10, 39, 40, 41, 42, 43, 44, 45, 46, 47, 48, 49, 50, 51, 52, 53, 54, 55, 56, 57, 58, 59, 60, 61, 62, 63, 64, 65, 66, 67, 68, 69, 70, 71, 72, 73, 74, 75, 76, 77, 78, 79, 80, 81, 82, 83, 84, 85, 86, 87, 88, 89, 90, 91, 92, 93, 94, 95, 96, 97, 98, 99, 100, 101, 102, 103, 104, 105] rfl (by decide +kernel)
set_option maxRecDepth 20000 in
theorem gX3_left_X3_foresee : GoodIn wsX3_left (wsV RX3 148 RX3 yX3_foresee wsX3_foresee) := goodIn_app (goodIn_of _ (by decide +kernel)) ggX3_left_X3_foresee
theorem dX3_left_0 : decode cX3_left 0 = .ok (.aload_n 0, 1) := by decide +kernel
theorem dX3_left_1 : decode cX3_left 1 = .ok (.getfield 10, 3) := by decide +kernel
theorem dX3_left_4 : decode cX3_left 4 = .ok (.iload_n 1, 1) := by decide +kernel
theorem dX3_left_5 : decode cX3_left 5 = .ok (.invokevirtual 100, 3) := by decide +kernel
theorem dX3_left_8 : decode cX3_left 8 = .ok (.ifCond .eq 14, 3) := by decide +kernel
theorem dX3_left_11 : decode cX3_left 11 = .ok (.iload_n 2, 1) := by decide +kernel
theorem dX3_left_12 : decode cX3_left 12 = .ok (.iconst 0, 1) := by decide +kernel
theorem dX3_left_13 : decode cX3_left 13 = .ok (.sipush 200, 3) := by decide +kernel
theorem dX3_left_16 : decode cX3_left 16 = .ok (.invokestatic 44, 3) := by decide +kernel
theorem dX3_left_19 : decode cX3_left 19 = .ok (.ifCond .ne 10, 3) := by decide +kernel
theorem dX3_left_22 : decode cX3_left 22 = .ok (.aload_n 0, 1) := by decide +kernel
theorem dX3_left_23 : decode cX3_left 23 = .ok (.ldc 48, 2) := by decide +kernel
theorem dX3_left_25 : decode cX3_left 25 = .ok (.invokevirtual 49, 3) := by decide +kernel
theorem dX3_left_28 : decode cX3_left 28 = .ok (.ireturn, 1) := by decide +kernel
theorem dX3_left_29 : decode cX3_left 29 = .ok (.aload_n 0, 1) := by decide +kernel
theorem dX3_left_30 : decode cX3_left 30 = .ok (.iload_n 2, 1) := by decide +kernel
theorem dX3_left_31 : decode cX3_left 31 = .ok (.invokevirtual 148, 3) := by decide +kernel
theorem dX3_left_34 : decode cX3_left 34 = .ok (.aload_n 0, 1) := by decide +kernel
theorem dX3_left_35 : decode cX3_left 35 = .ok (.getfield 19, 3) := by decide +kernel
theorem dX3_left_38 : decode cX3_left 38 = .ok (.getfield 112, 3) := by decide +kernel
theorem dX3_left_41 : decode cX3_left 41 = .ok (.iload_n 1, 1) := by decide +kernel
theorem dX3_left_42 : decode cX3_left 42 = .ok (.iaload, 1) := by decide +kernel
theorem dX3_left_43 : decode cX3_left 43 = .ok (.ireturn, 1) := by decide +kernel
set_option maxRecDepth 20000 in
theorem ggX3_weeps_X0_hasDelegate : GoodIn wsX3_weeps wsX0_hasDelegate := goodIn_r _ [9, 10, 95, 96, 97, 98, 99, 100, 101, 102, 103, 104, 105, 106] rfl (by decide +kernel)
set_option maxRecDepth 20000 in
theorem gX3_weeps_X0_hasDelegate : GoodIn wsX3_weeps (wsV RX3 61 RX0 yX0_hasDelegate wsX0_hasDelegate) := goodIn_app (goodIn_of _ (by decide +kernel)) ggX3_weeps_X0_hasDelegate
set_option maxRecDepth 20000 in
theorem ggX3_weeps_X3_found : GoodIn wsX3_weeps wsX3_found := goodIn_r _ [15, 2, 16, 17, 18, 14, 19, 88, 89, 90, 91, 92, 93, 94] rfl (by decide +kernel)
set_option maxRecDepth 20000 in
theorem gX3_weeps_X3_found : GoodIn wsX3_weeps (wsV RX3 49 RX3 yX3_found wsX3_found) := goodIn_app (goodIn_of _ (by decide +kernel)) ggX3_weeps_X3_found
set_option maxRecDepth 20000 in
theorem ggX3_weeps_X3_foresee : GoodIn wsX3_weeps wsX3_foresee := goodIn_r _ [23, 3, 1, 24, 25, 26, 8, 27, 28, 10, 29, 30, 31, 32, 33, 34, 35, 36, 37, 38, 39, 40, 41, 42, 43, 44, 45, 46, 47, 48, 49, 50, 51, 52, 53, 54, 55, 56, 57, 58, 59, 60, 61, 62, 63, 64, 65, 66, 67, 68, 69, 70, 71, 72, 73, 74, 75, 76, 77, 78, 79, 80, 81, 82, 83, 84, 85, 86, 88, 89, 90, 91, 92, 93, 94, 95, 96, 97, 98, 99, 100, 101, 102, 103, 104, 105, 106] rfl (by decide +kernel)
set_option maxRecDepth 20000 in
theorem gX3_weeps_X3_foresee : GoodIn wsX3_weeps (wsV RX3 148 RX3 yX3_foresee wsX3_foresee) := goodIn_app (goodIn_of _ (by decide +kernel)) ggX3_weeps_X3_foresee
set_option maxRecDepth 20000 in
theorem ggX3_weeps_X0_goOne : GoodIn wsX3_weeps wsX0_goOne := goodIn_r _ [50, 42, 28, 51, 52, 53, 8, 54, 38, 55, 56, 57, 58, 10, 39, 35, 40, 59, 60, 61, 62, 41, 29, 34, 63, 64, 65, 66, 67, 68, 69, 70, 71, 72, 73, 74, 75, 76, 77, 36, 78, 79, 80, 81, 82, 83, 84, 85, 86, 37, 95, 96, 97, 98, 99, 100, 101, 102, 103, 104, 105, 106] rfl (by decide +kernel)
set_option maxRecDepth 20000 in
theorem gX3_weeps_X0_goOne : GoodIn wsX3_weeps (wsV RX3 154 RX0 yX0_goOne wsX0_goOne) := goodIn_app (goodIn_of _ (by decide +kernel)) ggX3_weeps_X0_goOne
theorem dX3_weeps_0 : decode cX3_weeps 0 = .ok (.aload_n 0, 1) := by decide +kernel
theorem dX3_weeps_1 : decode cX3_weeps 1 = .ok (.getfield 10, 3) := by decide +kernel
theorem dX3_weeps_4 : decode cX3_weeps 4 = .ok (.iload_n 1, 1) := by decide +kernel
theorem dX3_weeps_5 : decode cX3_weeps 5 = .ok (.invokevirtual 61, 3) := by decide +kernel
theorem dX3_weeps_8 : decode cX3_weeps 8 = .ok (.ifCond .ne 10, 3) := by decide +kernel
theorem dX3_weeps_11 : decode cX3_weeps 11 = .ok (.aload_n 0, 1) := by decide +kernel
theorem dX3_weeps_12 : decode cX3_weeps 12 = .ok (.ldc 48, 2) := by decide +kernel
theorem dX3_weeps_14 : decode cX3_weeps 14 = .ok (.invokevirtual 49, 3) := by decide +kernel
theorem dX3_weeps_17 : decode cX3_weeps 17 = .ok (.ireturn, 1) := by decide +kernel
theorem dX3_weeps_18 : decode cX3_weeps 18 = .ok (.aload_n 0, 1) := by decide +kernel
theorem dX3_weeps_19 : decode cX3_weeps 19 = .ok (.iconst 0, 1) := by decide +kernel
theorem dX3_weeps_20 : decode cX3_weeps 20 = .ok (.invokevirtual 148, 3) := by decide +kernel
theorem dX3_weeps_23 : decode cX3_weeps 23 = .ok (.iconst 1, 1) := by decide +kernel
theorem dX3_weeps_24 : decode cX3_weeps 24 = .ok (.istore_n 2, 1) := by decide +kernel
theorem dX3_weeps_25 : decode cX3_weeps 25 = .ok (.iload_n 2, 1) := by decide +kernel
theorem dX3_weeps_26 : decode cX3_weeps 26 = .ok (.sipush 200, 3) := by decide +kernel
theorem dX3_weeps_29 : decode cX3_weeps 29 = .ok (.if_icmp .gt 22, 3) := by decide +kernel
theorem dX3_weeps_32 : decode cX3_weeps 32 = .ok (.aload_n 0, 1) := by decide +kernel
theorem dX3_weeps_33 : decode cX3_weeps 33 = .ok (.getfield 19, 3) := by decide +kernel
theorem dX3_weeps_36 : decode cX3_weeps 36 = .ok (.invokevirtual 154, 3) := by decide +kernel
theorem dX3_weeps_39 : decode cX3_weeps 39 = .ok (.iload_n 1, 1) := by decide +kernel
theorem dX3_weeps_40 : decode cX3_weeps 40 = .ok (.if_icmp .ne 5, 3) := by decide +kernel
theorem dX3_weeps_43 : decode cX3_weeps 43 = .ok (.iload_n 2, 1) := by decide +kernel
theorem dX3_weeps_44 : decode cX3_weeps 44 = .ok (.ireturn, 1) := by decide +kernel
theorem dX3_weeps_45 : decode cX3_weeps 45 = .ok (.iinc 2 1, 3) := by decide +kernel
theorem dX3_weeps_48 : decode cX3_weeps 48 = .ok (.goto (-23), 3) := by decide +kernel
theorem dX3_weeps_51 : decode cX3_weeps 51 = .ok (.aload_n 0, 1) := by decide +kernel
theorem dX3_weeps_52 : decode cX3_weeps 52 = .ok (.ldc 157, 2) := by decide +kernel
theorem dX3_weeps_54 : decode cX3_weeps 54 = .ok (.invokevirtual 49, 3) := by decide +kernel
theorem dX3_weeps_57 : decode cX3_weeps 57 = .ok (.ireturn, 1) := by decide +kernel
set_option maxRecDepth 20000 in
theorem ggX3_when_X0_hasDelegate : GoodIn wsX3_when wsX0_hasDelegate := goodIn_r _ [11, 12, 97, 98, 99, 100, 101, 102, 103, 104, 105, 106, 107, 108] rfl (by decide +kernel)
set_option maxRecDepth 20000 in
theorem gX3_when_X0_hasDelegate : GoodIn wsX3_when (wsV RX3 61 RX0 yX0_hasDelegate wsX0_hasDelegate) := goodIn_app (goodIn_of _ (by decide +kernel)) ggX3_when_X0_hasDelegate
set_option maxRecDepth 20000 in
theorem ggX3_when_X3_isWithin : GoodIn wsX3_when wsX3_isWithin := goodIn_r _ [16] rfl (by decide +kernel)
set_option maxRecDepth 20000 in
theorem gX3_when_X3_isWithin : GoodIn wsX3_when (va_wsS RX3 44 yX3_isWithin wsX3_isWithin) := goodIn_app (goodIn_of _ (by decide +kernel)) ggX3_when_X3_isWithin
set_option maxRecDepth 20000 in
theorem ggX3_when_X3_found : GoodIn wsX3_when wsX3_found := goodIn_r _ [20, 3, 21, 13, 14, 15, 16, 90, 91, 92, 93, 94, 95, 96] rfl (by decide +kernel)
set_option maxRecDepth 20000 in
theorem gX3_when_X3_found : GoodIn wsX3_when (wsV RX3 49 RX3 yX3_found wsX3_found) := goodIn_app (goodIn_of _ (by decide +kernel)) ggX3_when_X3_found
set_option maxRecDepth 20000 in
theorem ggX3_when_X3_foresee : GoodIn wsX3_when wsX3_foresee := goodIn_r _ [25, 4, 1, 26, 27, 28, 10, 29, 30, 12, 31, 32, 33, 34, 35, 36, 37, 38, 39, 40, 41, 42, 43, 44, 45, 46, 47, 48, 49, 50, 51, 52, 53, 54, 55, 56, 57, 58, 59, 60, 61, 62, 63, 64, 65, 66, 67, 68, 69, 70, 71, 72, 73, 74, 75, 76, 77, 78, 79, 80, 81, 82, 83, 84, 85, 86, 87, 88, 90, 91, 92, 93, 94, 95, 96, 97, 98, 99, 100, 101, 102, 103, 104, 105, 106, 107, 108] rfl (by decide +kernel)
set_option maxRecDepth 20000 in
theorem gX3_when_X3_foresee : GoodIn wsX3_when (wsV RX3 148 RX3 yX3_foresee wsX3_foresee) := goodIn_app (goodIn_of _ (by decide +kernel)) ggX3_when_X3_foresee
set_option maxRecDepth 20000 in
theorem ggX3_when_X0_goOne : GoodIn wsX3_when wsX0_goOne := goodIn_r _ [52, 44, 30, 53, 54, 55, 10, 56, 40, 57, 58, 59, 60, 12, 41, 37, 42, 61, 62, 63, 64, 43, 31, 36, 65, 66, 67, 68, 69, 70, 71, 72, 73, 74, 75, 76, 77, 78, 79, 38, 80, 81, 82, 83, 84, 85, 86, 87, 88, 39, 97, 98, 99, 100, 101, 102, 103, 104, 105, 106, 107, 108] rfl (by decide +kernel)
set_option maxRecDepth 20000 in
theorem gX3_when_X0_goOne : GoodIn wsX3_when (wsV RX3 154 RX0 yX0_goOne wsX0_goOne) := goodIn_app (goodIn_of _ (by decide +kernel)) ggX3_when_X0_goOne
theorem dX3_when_0 : decode cX3_when 0 = .ok (.aload_n 0, 1) := by decide +kernel
theorem dX3_when_1 : decode cX3_when 1 = .ok (.getfield 10, 3) := by decide +kernel
theorem dX3_when_4 : decode cX3_when 4 = .ok (.iload_n 1, 1) := by decide +kernel
theorem dX3_when_5 : decode cX3_when 5 = .ok (.invokevirtual 61, 3) := by decide +kernel
theorem dX3_when_8 : decode cX3_when 8 = .ok (.ifCond .eq 13, 3) := by decide +kernel
theorem dX3_when_11 : decode cX3_when 11 = .ok (.iload_n 2, 1) := by decide +kernel
theorem dX3_when_12 : decode cX3_when 12 = .ok (.iconst 0, 1) := by decide +kernel
theorem dX3_when_13 : decode cX3_when 13 = .ok (.ldc 129, 2) := by decide +kernel
theorem dX3_when_15 : decode cX3_when 15 = .ok (.invokestatic 44, 3) := by decide +kernel
theorem dX3_when_18 : decode cX3_when 18 = .ok (.ifCond .ne 10, 3) := by decide +kernel
theorem dX3_when_21 : decode cX3_when 21 = .ok (.aload_n 0, 1) := by decide +kernel
theorem dX3_when_22 : decode cX3_when 22 = .ok (.ldc 48, 2) := by decide +kernel
theorem dX3_when_24 : decode cX3_when 24 = .ok (.invokevirtual 49, 3) := by decide +kernel
theorem dX3_when_27 : decode cX3_when 27 = .ok (.ireturn, 1) := by decide +kernel
theorem dX3_when_28 : decode cX3_when 28 = .ok (.aload_n 0, 1) := by decide +kernel
theorem dX3_when_29 : decode cX3_when 29 = .ok (.iconst 0, 1) := by decide +kernel
theorem dX3_when_30 : decode cX3_when 30 = .ok (.invokevirtual 148, 3) := by decide +kernel
theorem dX3_when_33 : decode cX3_when 33 = .ok (.iconst 0, 1) := by decide +kernel
theorem dX3_when_34 : decode cX3_when 34 = .ok (.istore_n 3, 1) := by decide +kernel
theorem dX3_when_35 : decode cX3_when 35 = .ok (.iload_n 3, 1) := by decide +kernel
theorem dX3_when_36 : decode cX3_when 36 = .ok (.sipush 200, 3) := by decide +kernel
theorem dX3_when_39 : decode cX3_when 39 = .ok (.if_icmp .gt 32, 3) := by decide +kernel
theorem dX3_when_42 : decode cX3_when 42 = .ok (.aload_n 0, 1) := by decide +kernel
theorem dX3_when_43 : decode cX3_when 43 = .ok (.getfield 19, 3) := by decide +kernel
theorem dX3_when_46 : decode cX3_when 46 = .ok (.getfield 87, 3) := by decide +kernel
theorem dX3_when_49 : decode cX3_when 49 = .ok (.iload_n 1, 1) := by decide +kernel
theorem dX3_when_50 : decode cX3_when 50 = .ok (.iaload, 1) := by decide +kernel
theorem dX3_when_51 : decode cX3_when 51 = .ok (.iload_n 2, 1) := by decide +kernel
theorem dX3_when_52 : decode cX3_when 52 = .ok (.if_icmp .lt 5, 3) := by decide +kernel
theorem dX3_when_55 : decode cX3_when 55 = .ok (.iload_n 3, 1) := by decide +kernel
theorem dX3_when_56 : decode cX3_when 56 = .ok (.ireturn, 1) := by decide +kernel
theorem dX3_when_57 : decode cX3_when 57 = .ok (.aload_n 0, 1) := by decide +kernel
theorem dX3_when_58 : decode cX3_when 58 = .ok (.getfield 19, 3) := by decide +kernel
theorem dX3_when_61 : decode cX3_when 61 = .ok (.invokevirtual 154, 3) := by decide +kernel
theorem dX3_when_64 : decode cX3_when 64 = .ok (.pop, 1) := by decide +kernel
theorem dX3_when_65 : decode cX3_when 65 = .ok (.iinc 3 1, 3) := by decide +kernel
theorem dX3_when_68 : decode cX3_when 68 = .ok (.goto (-33), 3) := by decide +kernel
theorem dX3_when_71 : decode cX3_when 71 = .ok (.aload_n 0, 1) := by decide +kernel
theorem dX3_when_72 : decode cX3_when 72 = .ok (.ldc 157, 2) := by decide +kernel
theorem dX3_when_74 : decode cX3_when 74 = .ok (.invokevirtual 49, 3) := by decide +kernel
theorem dX3_when_77 : decode cX3_when 77 = .ok (.ireturn, 1) := by decide +kernel
set_option maxRecDepth 20000 in
theorem ggX3_tongue_X0_hasSpeech : GoodIn wsX3_tongue wsX0_hasSpeech := goodIn_r _ [7, 8, 109, 110, 111, 112, 113, 114, 115, 116, 117, 118, 119, 120] rfl (by decide +kernel)
set_option maxRecDepth 20000 in
theorem gX3_tongue_X0_hasSpeech : GoodIn wsX3_tongue (wsV RX3 100 RX0 yX0_hasSpeech wsX0_hasSpeech) := goodIn_app (goodIn_of _ (by decide +kernel)) ggX3_tongue_X0_hasSpeech
set_option maxRecDepth 20000 in
theorem ggX3_tongue_X3_isWithin : GoodIn wsX3_tongue wsX3_isWithin := goodIn_r _ [12] rfl (by decide +kernel)
set_option maxRecDepth 20000 in
theorem gX3_tongue_X3_isWithin : GoodIn wsX3_tongue (va_wsS RX3 44 yX3_isWithin wsX3_isWithin) := goodIn_app (goodIn_of _ (by decide +kernel)) ggX3_tongue_X3_isWithin
set_option maxRecDepth 20000 in
theorem ggX3_tongue_X3_found : GoodIn wsX3_tongue wsX3_found := goodIn_r _ [16, 2, 17, 9, 10, 11, 12, 102, 103, 104, 105, 106, 107, 108] rfl (by decide +kernel)
set_option maxRecDepth 20000 in
theorem gX3_tongue_X3_found : GoodIn wsX3_tongue (wsV RX3 49 RX3 yX3_found wsX3_found) := goodIn_app (goodIn_of _ (by decide +kernel)) ggX3_tongue_X3_found
set_option maxRecDepth 20000 in
theorem ggX3_tongue_X3_leastHurting : GoodIn wsX3_tongue wsX3_leastHurting := goodIn_r _ [21, 22, 23, 24, 11, 25, 26, 1, 27, 28, 29, 30, 6, 31, 32, 33, 34, 35, 36, 37, 38, 39, 40, 41, 42, 8, 43, 44, 45, 46, 47, 48, 49, 50, 51, 52, 53, 54, 55, 56, 57, 58, 59, 60, 61, 62, 63, 64, 65, 66, 67, 68, 69, 70, 71, 72, 73, 74, 75, 76, 77, 78, 79, 80, 81, 82, 83, 84, 85, 86, 87, 88, 89, 90, 91, 92, 93, 94, 95, 96, 97, 98, 99, 100, 101, 102, 103, 104, 105, 106, 107, 108, 109, 110, 111, 112, 113, 114, 115, 116, 117, 118, 119, 120] rfl (by decide +kernel)
set_option maxRecDepth 20000 in
theorem gX3_tongue_X3_leastHurting : GoodIn wsX3_tongue (wsV RX3 158 RX3 yX3_leastHurting wsX3_leastHurting) := goodIn_app (goodIn_of _ (by decide +kernel)) ggX3_tongue_X3_leastHurting
theorem dX3_tongue_0 : decode cX3_tongue 0 = .ok (.aload_n 0, 1) := by decide +kernel
theorem dX3_tongue_1 : decode cX3_tongue 1 = .ok (.getfield 10, 3) := by decide +kernel
theorem dX3_tongue_4 : decode cX3_tongue 4 = .ok (.iload_n 1, 1) := by decide +kernel
theorem dX3_tongue_5 : decode cX3_tongue 5 = .ok (.invokevirtual 100, 3) := by decide +kernel
theorem dX3_tongue_8 : decode cX3_tongue 8 = .ok (.ifCond .eq 13, 3) := by decide +kernel
theorem dX3_tongue_11 : decode cX3_tongue 11 = .ok (.iload_n 2, 1) := by decide +kernel
theorem dX3_tongue_12 : decode cX3_tongue 12 = .ok (.iconst 1, 1) := by decide +kernel
theorem dX3_tongue_13 : decode cX3_tongue 13 = .ok (.bipush 60, 2) := by decide +kernel
theorem dX3_tongue_15 : decode cX3_tongue 15 = .ok (.invokestatic 44, 3) := by decide +kernel
theorem dX3_tongue_18 : decode cX3_tongue 18 = .ok (.ifCond .ne 10, 3) := by decide +kernel
theorem dX3_tongue_21 : decode cX3_tongue 21 = .ok (.aload_n 0, 1) := by decide +kernel
theorem dX3_tongue_22 : decode cX3_tongue 22 = .ok (.ldc 48, 2) := by decide +kernel
theorem dX3_tongue_24 : decode cX3_tongue 24 = .ok (.invokevirtual 49, 3) := by decide +kernel
theorem dX3_tongue_27 : decode cX3_tongue 27 = .ok (.ireturn, 1) := by decide +kernel
theorem dX3_tongue_28 : decode cX3_tongue 28 = .ok (.aload_n 0, 1) := by decide +kernel
theorem dX3_tongue_29 : decode cX3_tongue 29 = .ok (.iconst 0, 1) := by decide +kernel
theorem dX3_tongue_30 : decode cX3_tongue 30 = .ok (.iload_n 1, 1) := by decide +kernel
theorem dX3_tongue_31 : decode cX3_tongue 31 = .ok (.iconst 4, 1) := by decide +kernel
theorem dX3_tongue_32 : decode cX3_tongue 32 = .ok (.iconst (-1), 1) := by decide +kernel
theorem dX3_tongue_33 : decode cX3_tongue 33 = .ok (.iload_n 2, 1) := by decide +kernel
theorem dX3_tongue_34 : decode cX3_tongue 34 = .ok (.invokevirtual 158, 3) := by decide +kernel
theorem dX3_tongue_37 : decode cX3_tongue 37 = .ok (.ireturn, 1) := by decide +kernel
set_option maxRecDepth 20000 in
theorem ggX3_aim_X0_hasSpeech : GoodIn wsX3_aim wsX0_hasSpeech := goodIn_r _ [8, 9, 110, 111, 112, 113, 114, 115, 116, 117, 118, 119, 120, 121] rfl (by decide +kernel)
set_option maxRecDepth 20000 in
theorem gX3_aim_X0_hasSpeech : GoodIn wsX3_aim (wsV RX3 100 RX0 yX0_hasSpeech wsX0_hasSpeech) := goodIn_app (goodIn_of _ (by decide +kernel)) ggX3_aim_X0_hasSpeech
set_option maxRecDepth 20000 in
theorem ggX3_aim_X0_hasDelegate : GoodIn wsX3_aim wsX0_hasDelegate := goodIn_r _ [13, 14, 110, 111, 112, 113, 114, 115, 116, 117, 118, 119, 120, 121] rfl (by decide +kernel)
set_option maxRecDepth 20000 in
theorem gX3_aim_X0_hasDelegate : GoodIn wsX3_aim (wsV RX3 61 RX0 yX0_hasDelegate wsX0_hasDelegate) := goodIn_app (goodIn_of _ (by decide +kernel)) ggX3_aim_X0_hasDelegate
set_option maxRecDepth 20000 in
theorem ggX3_aim_X3_isWithin : GoodIn wsX3_aim wsX3_isWithin := goodIn_r _ [18] rfl (by decide +kernel)
set_option maxRecDepth 20000 in
theorem gX3_aim_X3_isWithin : GoodIn wsX3_aim (va_wsS RX3 44 yX3_isWithin wsX3_isWithin) := goodIn_app (goodIn_of _ (by decide +kernel)) ggX3_aim_X3_isWithin
set_option maxRecDepth 20000 in
theorem ggX3_aim_X3_found : GoodIn wsX3_aim wsX3_found := goodIn_r _ [22, 2, 23, 15, 16, 17, 18, 103, 104, 105, 106, 107, 108, 109] rfl (by decide +kernel)
set_option maxRecDepth 20000 in
theorem gX3_aim_X3_found : GoodIn wsX3_aim (wsV RX3 49 RX3 yX3_found wsX3_found) := goodIn_app (goodIn_of _ (by decide +kernel)) ggX3_aim_X3_found
set_option maxRecDepth 20000 in
theorem ggX3_aim_X3_hurtIf : GoodIn wsX3_aim wsX3_hurtIf := goodIn_r _ [27, 28, 1, 29, 30, 31, 32, 7, 33, 34, 14, 35, 36, 37, 38, 39, 40, 41, 42, 43, 9, 44, 45, 46, 47, 48, 49, 50, 51, 52, 53, 54, 55, 56, 57, 58, 59, 60, 61, 62, 63, 64, 65, 66, 67, 68, 69, 70, 71, 72, 73, 74, 75, 76, 77, 78, 79, 80, 81, 82, 83, 84, 85, 86, 87, 88, 89, 90, 91, 92, 93, 94, 95, 96, 97, 98, 99, 100, 101, 102, 103, 104, 105, 106, 107, 108, 109, 110, 111, 112, 113, 114, 115, 116, 117, 118, 119, 120, 121] rfl (by decide +kernel)
set_option maxRecDepth 20000 in
theorem gX3_aim_X3_hurtIf : GoodIn wsX3_aim (wsV RX3 162 RX3 yX3_hurtIf wsX3_hurtIf) := goodIn_app (goodIn_of _ (by decide +kernel)) ggX3_aim_X3_hurtIf
theorem dX3_aim_0 : decode cX3_aim 0 = .ok (.aload_n 0, 1) := by decide +kernel
theorem dX3_aim_1 : decode cX3_aim 1 = .ok (.getfield 10, 3) := by decide +kernel
theorem dX3_aim_4 : decode cX3_aim 4 = .ok (.iload_n 1, 1) := by decide +kernel
theorem dX3_aim_5 : decode cX3_aim 5 = .ok (.invokevirtual 100, 3) := by decide +kernel
theorem dX3_aim_8 : decode cX3_aim 8 = .ok (.ifCond .eq 24, 3) := by decide +kernel
theorem dX3_aim_11 : decode cX3_aim 11 = .ok (.aload_n 0, 1) := by decide +kernel
theorem dX3_aim_12 : decode cX3_aim 12 = .ok (.getfield 10, 3) := by decide +kernel
theorem dX3_aim_15 : decode cX3_aim 15 = .ok (.iload_n 2, 1) := by decide +kernel
theorem dX3_aim_16 : decode cX3_aim 16 = .ok (.invokevirtual 61, 3) := by decide +kernel
theorem dX3_aim_19 : decode cX3_aim 19 = .ok (.ifCond .eq 13, 3) := by decide +kernel
theorem dX3_aim_22 : decode cX3_aim 22 = .ok (.iload_n 3, 1) := by decide +kernel
theorem dX3_aim_23 : decode cX3_aim 23 = .ok (.iconst 1, 1) := by decide +kernel
theorem dX3_aim_24 : decode cX3_aim 24 = .ok (.bipush 60, 2) := by decide +kernel
theorem dX3_aim_26 : decode cX3_aim 26 = .ok (.invokestatic 44, 3) := by decide +kernel
theorem dX3_aim_29 : decode cX3_aim 29 = .ok (.ifCond .ne 10, 3) := by decide +kernel
theorem dX3_aim_32 : decode cX3_aim 32 = .ok (.aload_n 0, 1) := by decide +kernel
theorem dX3_aim_33 : decode cX3_aim 33 = .ok (.ldc 48, 2) := by decide +kernel
theorem dX3_aim_35 : decode cX3_aim 35 = .ok (.invokevirtual 49, 3) := by decide +kernel
theorem dX3_aim_38 : decode cX3_aim 38 = .ok (.ireturn, 1) := by decide +kernel
theorem dX3_aim_39 : decode cX3_aim 39 = .ok (.iconst 0, 1) := by decide +kernel
theorem dX3_aim_40 : decode cX3_aim 40 = .ok (.istore 4, 2) := by decide +kernel
theorem dX3_aim_42 : decode cX3_aim 42 = .ok (.iconst (-1), 1) := by decide +kernel
theorem dX3_aim_43 : decode cX3_aim 43 = .ok (.istore 5, 2) := by decide +kernel
theorem dX3_aim_45 : decode cX3_aim 45 = .ok (.iconst 0, 1) := by decide +kernel
theorem dX3_aim_46 : decode cX3_aim 46 = .ok (.istore 6, 2) := by decide +kernel
theorem dX3_aim_48 : decode cX3_aim 48 = .ok (.iload 6, 2) := by decide +kernel
theorem dX3_aim_50 : decode cX3_aim 50 = .ok (.aload_n 0, 1) := by decide +kernel
theorem dX3_aim_51 : decode cX3_aim 51 = .ok (.getfield 10, 3) := by decide +kernel
theorem dX3_aim_54 : decode cX3_aim 54 = .ok (.getfield 53, 3) := by decide +kernel
theorem dX3_aim_57 : decode cX3_aim 57 = .ok (.if_icmp .gt 36, 3) := by decide +kernel
theorem dX3_aim_60 : decode cX3_aim 60 = .ok (.aload_n 0, 1) := by decide +kernel
theorem dX3_aim_61 : decode cX3_aim 61 = .ok (.iconst 1, 1) := by decide +kernel
theorem dX3_aim_62 : decode cX3_aim 62 = .ok (.iload_n 1, 1) := by decide +kernel
theorem dX3_aim_63 : decode cX3_aim 63 = .ok (.iload 6, 2) := by decide +kernel
theorem dX3_aim_65 : decode cX3_aim 65 = .ok (.iload_n 2, 1) := by decide +kernel
theorem dX3_aim_66 : decode cX3_aim 66 = .ok (.iload_n 3, 1) := by decide +kernel
theorem dX3_aim_67 : decode cX3_aim 67 = .ok (.invokevirtual 162, 3) := by decide +kernel
theorem dX3_aim_70 : decode cX3_aim 70 = .ok (.istore 7, 2) := by decide +kernel
theorem dX3_aim_72 : decode cX3_aim 72 = .ok (.iload 7, 2) := by decide +kernel
theorem dX3_aim_74 : decode cX3_aim 74 = .ok (.iload 5, 2) := by decide +kernel
theorem dX3_aim_76 : decode cX3_aim 76 = .ok (.if_icmp .le 11, 3) := by decide +kernel
theorem dX3_aim_79 : decode cX3_aim 79 = .ok (.iload 7, 2) := by decide +kernel
theorem dX3_aim_81 : decode cX3_aim 81 = .ok (.istore 5, 2) := by decide +kernel
theorem dX3_aim_83 : decode cX3_aim 83 = .ok (.iload 6, 2) := by decide +kernel
theorem dX3_aim_85 : decode cX3_aim 85 = .ok (.istore 4, 2) := by decide +kernel
theorem dX3_aim_87 : decode cX3_aim 87 = .ok (.iinc 6 1, 3) := by decide +kernel
theorem dX3_aim_90 : decode cX3_aim 90 = .ok (.goto (-42), 3) := by decide +kernel
theorem dX3_aim_93 : decode cX3_aim 93 = .ok (.iload 4, 2) := by decide +kernel
theorem dX3_aim_95 : decode cX3_aim 95 = .ok (.ireturn, 1) := by decide +kernel
set_option maxRecDepth 20000 in
theorem ggX3_kind_X0_hasDelegate : GoodIn wsX3_kind wsX0_hasDelegate := goodIn_r _ [7, 8, 109, 110, 111, 112, 113, 114, 115, 116, 117, 118, 119, 120] rfl (by decide +kernel)
set_option maxRecDepth 20000 in
theorem gX3_kind_X0_hasDelegate : GoodIn wsX3_kind (wsV RX3 61 RX0 yX0_hasDelegate wsX0_hasDelegate) := goodIn_app (goodIn_of _ (by decide +kernel)) ggX3_kind_X0_hasDelegate
set_option maxRecDepth 20000 in
theorem ggX3_kind_X3_isWithin : GoodIn wsX3_kind wsX3_isWithin := goodIn_r _ [12] rfl (by decide +kernel)
set_option maxRecDepth 20000 in
theorem gX3_kind_X3_isWithin : GoodIn wsX3_kind (va_wsS RX3 44 yX3_isWithin wsX3_isWithin) := goodIn_app (goodIn_of _ (by decide +kernel)) ggX3_kind_X3_isWithin
set_option maxRecDepth 20000 in
theorem ggX3_kind_X3_found : GoodIn wsX3_kind wsX3_found := goodIn_r _ [16, 2, 17, 9, 10, 11, 12, 102, 103, 104, 105, 106, 107, 108] rfl (by decide +kernel)
set_option maxRecDepth 20000 in
theorem gX3_kind_X3_found : GoodIn wsX3_kind (wsV RX3 49 RX3 yX3_found wsX3_found) := goodIn_app (goodIn_of _ (by decide +kernel)) ggX3_kind_X3_found
set_option maxRecDepth 20000 in
theorem ggX3_kind_X3_leastHurting : GoodIn wsX3_kind wsX3_leastHurting := goodIn_r _ [21, 22, 23, 24, 11, 25, 26, 1, 27, 28, 29, 30, 6, 31, 32, 8, 33, 34, 35, 36, 37, 38, 39, 40, 41, 42, 43, 44, 45, 46, 47, 48, 49, 50, 51, 52, 53, 54, 55, 56, 57, 58, 59, 60, 61, 62, 63, 64, 65, 66, 67, 68, 69, 70, 71, 72, 73, 74, 75, 76, 77, 78, 79, 80, 81, 82, 83, 84, 85, 86, 87, 88, 89, 90, 91, 92, 93, 94, 95, 96, 97, 98, 99, 100, 101, 102, 103, 104, 105, 106, 107, 108, 109, 110, 111, 112, 113, 114, 115, 116, 117, 118, 119, 120] rfl (by decide +kernel)
set_option maxRecDepth 20000 in
theorem gX3_kind_X3_leastHurting : GoodIn wsX3_kind (wsV RX3 158 RX3 yX3_leastHurting wsX3_leastHurting) := goodIn_app (goodIn_of _ (by decide +kernel)) ggX3_kind_X3_leastHurting
theorem dX3_kind_0 : decode cX3_kind 0 = .ok (.aload_n 0, 1) := by decide +kernel
theorem dX3_kind_1 : decode cX3_kind 1 = .ok (.getfield 10, 3) := by decide +kernel
theorem dX3_kind_4 : decode cX3_kind 4 = .ok (.iload_n 1, 1) := by decide +kernel
theorem dX3_kind_5 : decode cX3_kind 5 = .ok (.invokevirtual 61, 3) := by decide +kernel
theorem dX3_kind_8 : decode cX3_kind 8 = .ok (.ifCond .eq 13, 3) := by decide +kernel
theorem dX3_kind_11 : decode cX3_kind 11 = .ok (.iload_n 2, 1) := by decide +kernel
theorem dX3_kind_12 : decode cX3_kind 12 = .ok (.iconst 1, 1) := by decide +kernel
theorem dX3_kind_13 : decode cX3_kind 13 = .ok (.bipush 60, 2) := by decide +kernel
theorem dX3_kind_15 : decode cX3_kind 15 = .ok (.invokestatic 44, 3) := by decide +kernel
theorem dX3_kind_18 : decode cX3_kind 18 = .ok (.ifCond .ne 10, 3) := by decide +kernel
theorem dX3_kind_21 : decode cX3_kind 21 = .ok (.aload_n 0, 1) := by decide +kernel
theorem dX3_kind_22 : decode cX3_kind 22 = .ok (.ldc 48, 2) := by decide +kernel
theorem dX3_kind_24 : decode cX3_kind 24 = .ok (.invokevirtual 49, 3) := by decide +kernel
theorem dX3_kind_27 : decode cX3_kind 27 = .ok (.ireturn, 1) := by decide +kernel
theorem dX3_kind_28 : decode cX3_kind 28 = .ok (.aload_n 0, 1) := by decide +kernel
theorem dX3_kind_29 : decode cX3_kind 29 = .ok (.iconst 2, 1) := by decide +kernel
theorem dX3_kind_30 : decode cX3_kind 30 = .ok (.iload_n 1, 1) := by decide +kernel
theorem dX3_kind_31 : decode cX3_kind 31 = .ok (.bipush 6, 2) := by decide +kernel
theorem dX3_kind_33 : decode cX3_kind 33 = .ok (.iload_n 1, 1) := by decide +kernel
theorem dX3_kind_34 : decode cX3_kind 34 = .ok (.iload_n 2, 1) := by decide +kernel
theorem dX3_kind_35 : decode cX3_kind 35 = .ok (.invokevirtual 158, 3) := by decide +kernel
theorem dX3_kind_38 : decode cX3_kind 38 = .ok (.ireturn, 1) := by decide +kernel
set_option maxRecDepth 20000 in
theorem ggX3_pride_X0_hasDelegate : GoodIn wsX3_pride wsX0_hasDelegate := goodIn_r _ [9, 10, 107, 108, 109, 110, 111, 112, 113, 114, 115, 116, 117, 118] rfl (by decide +kernel)
set_option maxRecDepth 20000 in
theorem gX3_pride_X0_hasDelegate : GoodIn wsX3_pride (wsV RX3 61 RX0 yX0_hasDelegate wsX0_hasDelegate) := goodIn_app (goodIn_of _ (by decide +kernel)) ggX3_pride_X0_hasDelegate
set_option maxRecDepth 20000 in
theorem ggX3_pride_X3_isWithin : GoodIn wsX3_pride wsX3_isWithin := goodIn_r _ [14] rfl (by decide +kernel)
set_option maxRecDepth 20000 in
theorem gX3_pride_X3_isWithin : GoodIn wsX3_pride (va_wsS RX3 44 yX3_isWithin wsX3_isWithin) := goodIn_app (goodIn_of _ (by decide +kernel)) ggX3_pride_X3_isWithin
set_option maxRecDepth 20000 in
theorem ggX3_pride_X3_found : GoodIn wsX3_pride wsX3_found := goodIn_r _ [18, 3, 19, 11, 12, 13, 14, 100, 101, 102, 103, 104, 105, 106] rfl (by decide +kernel)
set_option maxRecDepth 20000 in
theorem gX3_pride_X3_found : GoodIn wsX3_pride (wsV RX3 49 RX3 yX3_found wsX3_found) := goodIn_app (goodIn_of _ (by decide +kernel)) ggX3_pride_X3_found
set_option maxRecDepth 20000 in
theorem ggX3_pride_X3_hurtIf : GoodIn wsX3_pride wsX3_hurtIf := goodIn_r _ [23, 24, 1, 25, 26, 27, 28, 8, 29, 30, 10, 31, 32, 33, 34, 35, 36, 37, 38, 39, 40, 41, 42, 43, 44, 45, 46, 47, 48, 49, 50, 51, 52, 53, 54, 55, 56, 57, 58, 59, 60, 61, 62, 63, 64, 65, 66, 67, 68, 69, 70, 71, 72, 73, 74, 75, 76, 77, 78, 79, 80, 81, 82, 83, 84, 85, 86, 87, 88, 89, 90, 91, 92, 93, 94, 95, 96, 97, 98, 99, 100, 101, 102, 103, 104, 105, 106, 107, 108, 109, 110, 111, 112, 113, 114, 115, 116, 117, 118] rfl (by decide +kernel)
set_option maxRecDepth 20000 in
theorem gX3_pride_X3_hurtIf : GoodIn wsX3_pride (wsV RX3 162 RX3 yX3_hurtIf wsX3_hurtIf) := goodIn_app (goodIn_of _ (by decide +kernel)) ggX3_pride_X3_hurtIf
theorem dX3_pride_0 : decode cX3_pride 0 = .ok (.aload_n 0, 1) := by decide +kernel
theorem dX3_pride_1 : decode cX3_pride 1 = .ok (.getfield 10, 3) := by decide +kernel
theorem dX3_pride_4 : decode cX3_pride 4 = .ok (.iload_n 1, 1) := by decide +kernel
theorem dX3_pride_5 : decode cX3_pride 5 = .ok (.invokevirtual 61, 3) := by decide +kernel
theorem dX3_pride_8 : decode cX3_pride 8 = .ok (.ifCond .eq 23, 3) := by decide +kernel
theorem dX3_pride_11 : decode cX3_pride 11 = .ok (.iload_n 2, 1) := by decide +kernel
theorem dX3_pride_12 : decode cX3_pride 12 = .ok (.iconst 1, 1) := by decide +kernel
theorem dX3_pride_13 : decode cX3_pride 13 = .ok (.bipush 60, 2) := by decide +kernel
theorem dX3_pride_15 : decode cX3_pride 15 = .ok (.invokestatic 44, 3) := by decide +kernel
theorem dX3_pride_18 : decode cX3_pride 18 = .ok (.ifCond .eq 13, 3) := by decide +kernel
theorem dX3_pride_21 : decode cX3_pride 21 = .ok (.iload_n 3, 1) := by decide +kernel
theorem dX3_pride_22 : decode cX3_pride 22 = .ok (.iconst 0, 1) := by decide +kernel
theorem dX3_pride_23 : decode cX3_pride 23 = .ok (.ldc 129, 2) := by decide +kernel
theorem dX3_pride_25 : decode cX3_pride 25 = .ok (.invokestatic 44, 3) := by decide +kernel
theorem dX3_pride_28 : decode cX3_pride 28 = .ok (.ifCond .ne 10, 3) := by decide +kernel
theorem dX3_pride_31 : decode cX3_pride 31 = .ok (.aload_n 0, 1) := by decide +kernel
theorem dX3_pride_32 : decode cX3_pride 32 = .ok (.ldc 48, 2) := by decide +kernel
theorem dX3_pride_34 : decode cX3_pride 34 = .ok (.invokevirtual 49, 3) := by decide +kernel
theorem dX3_pride_37 : decode cX3_pride 37 = .ok (.ireturn, 1) := by decide +kernel
theorem dX3_pride_38 : decode cX3_pride 38 = .ok (.iconst 0, 1) := by decide +kernel
theorem dX3_pride_39 : decode cX3_pride 39 = .ok (.istore 4, 2) := by decide +kernel
theorem dX3_pride_41 : decode cX3_pride 41 = .ok (.iload 4, 2) := by decide +kernel
theorem dX3_pride_43 : decode cX3_pride 43 = .ok (.bipush 20, 2) := by decide +kernel
theorem dX3_pride_45 : decode cX3_pride 45 = .ok (.if_icmp .gt 26, 3) := by decide +kernel
theorem dX3_pride_48 : decode cX3_pride 48 = .ok (.aload_n 0, 1) := by decide +kernel
theorem dX3_pride_49 : decode cX3_pride 49 = .ok (.iconst 3, 1) := by decide +kernel
theorem dX3_pride_50 : decode cX3_pride 50 = .ok (.iload_n 1, 1) := by decide +kernel
theorem dX3_pride_51 : decode cX3_pride 51 = .ok (.iload 4, 2) := by decide +kernel
theorem dX3_pride_53 : decode cX3_pride 53 = .ok (.iconst (-1), 1) := by decide +kernel
theorem dX3_pride_54 : decode cX3_pride 54 = .ok (.iload_n 2, 1) := by decide +kernel
theorem dX3_pride_55 : decode cX3_pride 55 = .ok (.invokevirtual 162, 3) := by decide +kernel
theorem dX3_pride_58 : decode cX3_pride 58 = .ok (.iload_n 3, 1) := by decide +kernel
theorem dX3_pride_59 : decode cX3_pride 59 = .ok (.if_icmp .gt 6, 3) := by decide +kernel
theorem dX3_pride_62 : decode cX3_pride 62 = .ok (.iload 4, 2) := by decide +kernel
theorem dX3_pride_64 : decode cX3_pride 64 = .ok (.ireturn, 1) := by decide +kernel
theorem dX3_pride_65 : decode cX3_pride 65 = .ok (.iinc 4 1, 3) := by decide +kernel
theorem dX3_pride_68 : decode cX3_pride 68 = .ok (.goto (-27), 3) := by decide +kernel
theorem dX3_pride_71 : decode cX3_pride 71 = .ok (.aload_n 0, 1) := by decide +kernel
theorem dX3_pride_72 : decode cX3_pride 72 = .ok (.ldc 157, 2) := by decide +kernel
theorem dX3_pride_74 : decode cX3_pride 74 = .ok (.invokevirtual 49, 3) := by decide +kernel
theorem dX3_pride_77 : decode cX3_pride 77 = .ok (.ireturn, 1) := by decide +kernel
set_option maxRecDepth 20000 in
theorem ggX3_learn_X0_hasDelegate : GoodIn wsX3_learn wsX0_hasDelegate := goodIn_r _ [7, 8, 109, 110, 111, 112, 113, 114, 115, 116, 117, 118, 119, 120] rfl (by decide +kernel)
set_option maxRecDepth 20000 in
theorem gX3_learn_X0_hasDelegate : GoodIn wsX3_learn (wsV RX3 61 RX0 yX0_hasDelegate wsX0_hasDelegate) := goodIn_app (goodIn_of _ (by decide +kernel)) ggX3_learn_X0_hasDelegate
set_option maxRecDepth 20000 in
theorem ggX3_learn_X3_isWithin : GoodIn wsX3_learn wsX3_isWithin := goodIn_r _ [12] rfl (by decide +kernel)
set_option maxRecDepth 20000 in
theorem gX3_learn_X3_isWithin : GoodIn wsX3_learn (va_wsS RX3 44 yX3_isWithin wsX3_isWithin) := goodIn_app (goodIn_of _ (by decide +kernel)) ggX3_learn_X3_isWithin
set_option maxRecDepth 20000 in
theorem ggX3_learn_X3_found : GoodIn wsX3_learn wsX3_found := goodIn_r _ [16, 2, 17, 9, 10, 11, 12, 102, 103, 104, 105, 106, 107, 108] rfl (by decide +kernel)
set_option maxRecDepth 20000 in
theorem gX3_learn_X3_found : GoodIn wsX3_learn (wsV RX3 49 RX3 yX3_found wsX3_found) := goodIn_app (goodIn_of _ (by decide +kernel)) ggX3_learn_X3_found
set_option maxRecDepth 20000 in
theorem ggX3_learn_X3_leastHurting : GoodIn wsX3_learn wsX3_leastHurting := goodIn_r _ [21, 22, 23, 24, 11, 25, 26, 1, 27, 28, 29, 30, 6, 31, 32, 8, 33, 34, 35, 36, 37, 38, 39, 40, 41, 42, 43, 44, 45, 46, 47, 48, 49, 50, 51, 52, 53, 54, 55, 56, 57, 58, 59, 60, 61, 62, 63, 64, 65, 66, 67, 68, 69, 70, 71, 72, 73, 74, 75, 76, 77, 78, 79, 80, 81, 82, 83, 84, 85, 86, 87, 88, 89, 90, 91, 92, 93, 94, 95, 96, 97, 98, 99, 100, 101, 102, 103, 104, 105, 106, 107, 108, 109, 110, 111, 112, 113, 114, 115, 116, 117, 118, 119, 120] rfl (by decide +kernel)
set_option maxRecDepth 20000 in
theorem gX3_learn_X3_leastHurting : GoodIn wsX3_learn (wsV RX3 158 RX3 yX3_leastHurting wsX3_leastHurting) := goodIn_app (goodIn_of _ (by decide +kernel)) ggX3_learn_X3_leastHurting
theorem dX3_learn_0 : decode cX3_learn 0 = .ok (.aload_n 0, 1) := by decide +kernel
theorem dX3_learn_1 : decode cX3_learn 1 = .ok (.getfield 10, 3) := by decide +kernel
theorem dX3_learn_4 : decode cX3_learn 4 = .ok (.iload_n 1, 1) := by decide +kernel
theorem dX3_learn_5 : decode cX3_learn 5 = .ok (.invokevirtual 61, 3) := by decide +kernel
theorem dX3_learn_8 : decode cX3_learn 8 = .ok (.ifCond .eq 13, 3) := by decide +kernel
theorem dX3_learn_11 : decode cX3_learn 11 = .ok (.iload_n 2, 1) := by decide +kernel
theorem dX3_learn_12 : decode cX3_learn 12 = .ok (.iconst 1, 1) := by decide +kernel
theorem dX3_learn_13 : decode cX3_learn 13 = .ok (.bipush 60, 2) := by decide +kernel
theorem dX3_learn_15 : decode cX3_learn 15 = .ok (.invokestatic 44, 3) := by decide +kernel
theorem dX3_learn_18 : decode cX3_learn 18 = .ok (.ifCond .ne 10, 3) := by decide +kernel
theorem dX3_learn_21 : decode cX3_learn 21 = .ok (.aload_n 0, 1) := by decide +kernel
theorem dX3_learn_22 : decode cX3_learn 22 = .ok (.ldc 48, 2) := by decide +kernel
theorem dX3_learn_24 : decode cX3_learn 24 = .ok (.invokevirtual 49, 3) := by decide +kernel
theorem dX3_learn_27 : decode cX3_learn 27 = .ok (.ireturn, 1) := by decide +kernel
theorem dX3_learn_28 : decode cX3_learn 28 = .ok (.aload_n 0, 1) := by decide +kernel
theorem dX3_learn_29 : decode cX3_learn 29 = .ok (.iconst 4, 1) := by decide +kernel
theorem dX3_learn_30 : decode cX3_learn 30 = .ok (.iload_n 1, 1) := by decide +kernel
theorem dX3_learn_31 : decode cX3_learn 31 = .ok (.bipush 16, 2) := by decide +kernel
theorem dX3_learn_33 : decode cX3_learn 33 = .ok (.iload_n 1, 1) := by decide +kernel
theorem dX3_learn_34 : decode cX3_learn 34 = .ok (.iload_n 2, 1) := by decide +kernel
theorem dX3_learn_35 : decode cX3_learn 35 = .ok (.invokevirtual 158, 3) := by decide +kernel
theorem dX3_learn_38 : decode cX3_learn 38 = .ok (.ireturn, 1) := by decide +kernel
set_option maxRecDepth 20000 in
theorem ggX3_withdraw_X3_isWithin : GoodIn wsX3_withdraw wsX3_isWithin := goodIn_r _ [8] rfl (by decide +kernel)
set_option maxRecDepth 20000 in
theorem gX3_withdraw_X3_isWithin : GoodIn wsX3_withdraw (va_wsS RX3 44 yX3_isWithin wsX3_isWithin) := goodIn_app (goodIn_of _ (by decide +kernel)) ggX3_withdraw_X3_isWithin
set_option maxRecDepth 20000 in
theorem ggX3_withdraw_X3_found : GoodIn wsX3_withdraw wsX3_found := goodIn_r _ [12, 1, 13, 5, 6, 7, 8, 100, 101, 102, 103, 104, 105, 106] rfl (by decide +kernel)
set_option maxRecDepth 20000 in
theorem gX3_withdraw_X3_found : GoodIn wsX3_withdraw (wsV RX3 49 RX3 yX3_found wsX3_found) := goodIn_app (goodIn_of _ (by decide +kernel)) ggX3_withdraw_X3_found
set_option maxRecDepth 20000 in
theorem ggX3_withdraw_X3_leastHurting : GoodIn wsX3_withdraw wsX3_leastHurting := goodIn_r _ [17, 18, 19, 20, 7, 21, 22, 2, 23, 24, 25, 26, 27, 28, 29, 30, 31, 32, 33, 34, 35, 36, 37, 38, 39, 40, 41, 42, 43, 44, 45, 46, 47, 48, 49, 50, 51, 52, 53, 54, 55, 56, 57, 58, 59, 60, 61, 62, 63, 64, 65, 66, 67, 68, 69, 70, 71, 72, 73, 74, 75, 76, 77, 78, 79, 80, 81, 82, 83, 84, 85, 86, 87, 88, 89, 90, 91, 92, 93, 94, 95, 96, 97, 98, 99, 100, 101, 102, 103, 104, 105, 106, 107, 108, 109, 110, 111, 112, 113, 114, 115, 116, 117, 118] rfl (by decide +kernel)
set_option maxRecDepth 20000 in
theorem gX3_withdraw_X3_leastHurting : GoodIn wsX3_withdraw (wsV RX3 158 RX3 yX3_leastHurting wsX3_leastHurting) := goodIn_app (goodIn_of _ (by decide +kernel)) ggX3_withdraw_X3_leastHurting
theorem dX3_withdraw_0 : decode cX3_withdraw 0 = .ok (.iload_n 1, 1) := by decide +kernel
theorem dX3_withdraw_1 : decode cX3_withdraw 1 = .ok (.iconst 1, 1) := by decide +kernel
theorem dX3_withdraw_2 : decode cX3_withdraw 2 = .ok (.bipush 60, 2) := by decide +kernel
theorem dX3_withdraw_4 : decode cX3_withdraw 4 = .ok (.invokestatic 44, 3) := by decide +kernel
theorem dX3_withdraw_7 : decode cX3_withdraw 7 = .ok (.ifCond .ne 10, 3) := by decide +kernel
theorem dX3_withdraw_10 : decode cX3_withdraw 10 = .ok (.aload_n 0, 1) := by decide +kernel
theorem dX3_withdraw_11 : decode cX3_withdraw 11 = .ok (.ldc 48, 2) := by decide +kernel
theorem dX3_withdraw_13 : decode cX3_withdraw 13 = .ok (.invokevirtual 49, 3) := by decide +kernel
theorem dX3_withdraw_16 : decode cX3_withdraw 16 = .ok (.ireturn, 1) := by decide +kernel
theorem dX3_withdraw_17 : decode cX3_withdraw 17 = .ok (.aload_n 0, 1) := by decide +kernel
theorem dX3_withdraw_18 : decode cX3_withdraw 18 = .ok (.getfield 10, 3) := by decide +kernel
theorem dX3_withdraw_21 : decode cX3_withdraw 21 = .ok (.getfield 93, 3) := by decide +kernel
theorem dX3_withdraw_24 : decode cX3_withdraw 24 = .ok (.ifCond .ne 10, 3) := by decide +kernel
theorem dX3_withdraw_27 : decode cX3_withdraw 27 = .ok (.aload_n 0, 1) := by decide +kernel
theorem dX3_withdraw_28 : decode cX3_withdraw 28 = .ok (.ldc 157, 2) := by decide +kernel
theorem dX3_withdraw_30 : decode cX3_withdraw 30 = .ok (.invokevirtual 49, 3) := by decide +kernel
theorem dX3_withdraw_33 : decode cX3_withdraw 33 = .ok (.ireturn, 1) := by decide +kernel
theorem dX3_withdraw_34 : decode cX3_withdraw 34 = .ok (.aload_n 0, 1) := by decide +kernel
theorem dX3_withdraw_35 : decode cX3_withdraw 35 = .ok (.iconst 5, 1) := by decide +kernel
theorem dX3_withdraw_36 : decode cX3_withdraw 36 = .ok (.iconst 0, 1) := by decide +kernel
theorem dX3_withdraw_37 : decode cX3_withdraw 37 = .ok (.aload_n 0, 1) := by decide +kernel
theorem dX3_withdraw_38 : decode cX3_withdraw 38 = .ok (.getfield 10, 3) := by decide +kernel
theorem dX3_withdraw_41 : decode cX3_withdraw 41 = .ok (.getfield 93, 3) := by decide +kernel
theorem dX3_withdraw_44 : decode cX3_withdraw 44 = .ok (.iconst (-1), 1) := by decide +kernel
theorem dX3_withdraw_45 : decode cX3_withdraw 45 = .ok (.iload_n 1, 1) := by decide +kernel
theorem dX3_withdraw_46 : decode cX3_withdraw 46 = .ok (.invokevirtual 158, 3) := by decide +kernel
theorem dX3_withdraw_49 : decode cX3_withdraw 49 = .ok (.ireturn, 1) := by decide +kernel
set_option maxRecDepth 20000 in
theorem ggX3_saddest_X3_isWithin : GoodIn wsX3_saddest wsX3_isWithin := goodIn_r _ [9] rfl (by decide +kernel)
set_option maxRecDepth 20000 in
theorem gX3_saddest_X3_isWithin : GoodIn wsX3_saddest (va_wsS RX3 44 yX3_isWithin wsX3_isWithin) := goodIn_app (goodIn_of _ (by decide +kernel)) ggX3_saddest_X3_isWithin
set_option maxRecDepth 20000 in
theorem ggX3_saddest_X3_found : GoodIn wsX3_saddest wsX3_found := goodIn_r _ [13, 1, 14, 6, 7, 8, 9, 88, 89, 90, 91, 92, 93, 94] rfl (by decide +kernel)
set_option maxRecDepth 20000 in
theorem gX3_saddest_X3_found : GoodIn wsX3_saddest (wsV RX3 49 RX3 yX3_found wsX3_found) := goodIn_app (goodIn_of _ (by decide +kernel)) ggX3_saddest_X3_found
set_option maxRecDepth 20000 in
theorem ggX3_saddest_X3_foresee : GoodIn wsX3_saddest wsX3_foresee := goodIn_r _ [18, 5, 2, 19, 20, 21, 22, 23, 24, 25, 26, 27, 28, 29, 30, 31, 32, 33, 34, 35, 36, 37, 38, 39, 40, 41, 42, 43, 44, 45, 46, 47, 48, 49, 50, 51, 52, 53, 54, 55, 56, 57, 58, 59, 60, 61, 62, 63, 64, 65, 66, 67, 68, 69, 70, 71, 72, 73, 74, 75, 76, 77, 78, 79, 80, 81, 82, 83, 88, 89, 90, 91, 92, 93, 94, 95, 96, 97, 98, 99, 100, 101, 102, 103, 104, 105, 106] rfl (by decide +kernel)
set_option maxRecDepth 20000 in
theorem gX3_saddest_X3_foresee : GoodIn wsX3_saddest (wsV RX3 148 RX3 yX3_foresee wsX3_foresee) := goodIn_app (goodIn_of _ (by decide +kernel)) ggX3_saddest_X3_foresee
set_option maxRecDepth 20000 in
theorem ggX3_saddest_X0_mostHurt : GoodIn wsX3_saddest wsX0_mostHurt := goodIn_r _ [87, 25, 33, 95, 96, 97, 98, 99, 100, 101, 102, 103, 104, 105, 106] rfl (by decide +kernel)
set_option maxRecDepth 20000 in
theorem gX3_saddest_X0_mostHurt : GoodIn wsX3_saddest (wsV RX3 165 RX0 yX0_mostHurt wsX0_mostHurt) := goodIn_app (goodIn_of _ (by decide +kernel)) ggX3_saddest_X0_mostHurt
theorem dX3_saddest_0 : decode cX3_saddest 0 = .ok (.iload_n 1, 1) := by decide +kernel
theorem dX3_saddest_1 : decode cX3_saddest 1 = .ok (.iconst 0, 1) := by decide +kernel
theorem dX3_saddest_2 : decode cX3_saddest 2 = .ok (.sipush 200, 3) := by decide +kernel
theorem dX3_saddest_5 : decode cX3_saddest 5 = .ok (.invokestatic 44, 3) := by decide +kernel
theorem dX3_saddest_8 : decode cX3_saddest 8 = .ok (.ifCond .ne 10, 3) := by decide +kernel
theorem dX3_saddest_11 : decode cX3_saddest 11 = .ok (.aload_n 0, 1) := by decide +kernel
theorem dX3_saddest_12 : decode cX3_saddest 12 = .ok (.ldc 48, 2) := by decide +kernel
theorem dX3_saddest_14 : decode cX3_saddest 14 = .ok (.invokevirtual 49, 3) := by decide +kernel
theorem dX3_saddest_17 : decode cX3_saddest 17 = .ok (.ireturn, 1) := by decide +kernel
theorem dX3_saddest_18 : decode cX3_saddest 18 = .ok (.aload_n 0, 1) := by decide +kernel
theorem dX3_saddest_19 : decode cX3_saddest 19 = .ok (.getfield 10, 3) := by decide +kernel
theorem dX3_saddest_22 : decode cX3_saddest 22 = .ok (.getfield 53, 3) := by decide +kernel
theorem dX3_saddest_25 : decode cX3_saddest 25 = .ok (.ifCond .ne 10, 3) := by decide +kernel
theorem dX3_saddest_28 : decode cX3_saddest 28 = .ok (.aload_n 0, 1) := by decide +kernel
theorem dX3_saddest_29 : decode cX3_saddest 29 = .ok (.ldc 157, 2) := by decide +kernel
theorem dX3_saddest_31 : decode cX3_saddest 31 = .ok (.invokevirtual 49, 3) := by decide +kernel
theorem dX3_saddest_34 : decode cX3_saddest 34 = .ok (.ireturn, 1) := by decide +kernel
theorem dX3_saddest_35 : decode cX3_saddest 35 = .ok (.aload_n 0, 1) := by decide +kernel
theorem dX3_saddest_36 : decode cX3_saddest 36 = .ok (.iload_n 1, 1) := by decide +kernel
theorem dX3_saddest_37 : decode cX3_saddest 37 = .ok (.invokevirtual 148, 3) := by decide +kernel
theorem dX3_saddest_40 : decode cX3_saddest 40 = .ok (.aload_n 0, 1) := by decide +kernel
theorem dX3_saddest_41 : decode cX3_saddest 41 = .ok (.getfield 19, 3) := by decide +kernel
theorem dX3_saddest_44 : decode cX3_saddest 44 = .ok (.invokevirtual 165, 3) := by decide +kernel
theorem dX3_saddest_47 : decode cX3_saddest 47 = .ok (.ireturn, 1) := by decide +kernel
set_option maxRecDepth 20000 in
theorem ggX3_feed_X3_isWithin : GoodIn wsX3_feed wsX3_isWithin := goodIn_r _ [8] rfl (by decide +kernel)
set_option maxRecDepth 20000 in
theorem gX3_feed_X3_isWithin : GoodIn wsX3_feed (va_wsS RX3 44 yX3_isWithin wsX3_isWithin) := goodIn_app (goodIn_of _ (by decide +kernel)) ggX3_feed_X3_isWithin
set_option maxRecDepth 20000 in
theorem ggX3_feed_X3_found : GoodIn wsX3_feed wsX3_found := goodIn_r _ [12, 1, 13, 5, 6, 7, 8, 21, 22, 23, 24, 25, 26, 27] rfl (by decide +kernel)
set_option maxRecDepth 20000 in
theorem gX3_feed_X3_found : GoodIn wsX3_feed (wsV RX3 49 RX3 yX3_found wsX3_found) := goodIn_app (goodIn_of _ (by decide +kernel)) ggX3_feed_X3_found
set_option maxRecDepth 20000 in
theorem ggX3_feed_X2_add : GoodIn wsX3_feed wsX2_add := goodIn_r _ [18, 19, 20, 28, 29, 30, 31, 32, 33] rfl (by decide +kernel)
set_option maxRecDepth 20000 in
theorem gX3_feed_X2_add : GoodIn wsX3_feed (wsV RX3 171 RX2 yX2_add wsX2_add) := goodIn_app (goodIn_of _ (by decide +kernel)) ggX3_feed_X2_add
theorem dX3_feed_0 : decode cX3_feed 0 = .ok (.iload_n 2, 1) := by decide +kernel
theorem dX3_feed_1 : decode cX3_feed 1 = .ok (.iconst 1, 1) := by decide +kernel
theorem dX3_feed_2 : decode cX3_feed 2 = .ok (.iconst 4, 1) := by decide +kernel
theorem dX3_feed_3 : decode cX3_feed 3 = .ok (.invokestatic 44, 3) := by decide +kernel
theorem dX3_feed_6 : decode cX3_feed 6 = .ok (.ifCond .ne 10, 3) := by decide +kernel
theorem dX3_feed_9 : decode cX3_feed 9 = .ok (.aload_n 0, 1) := by decide +kernel
theorem dX3_feed_10 : decode cX3_feed 10 = .ok (.ldc 48, 2) := by decide +kernel
theorem dX3_feed_12 : decode cX3_feed 12 = .ok (.invokevirtual 49, 3) := by decide +kernel
theorem dX3_feed_15 : decode cX3_feed 15 = .ok (.ireturn, 1) := by decide +kernel
theorem dX3_feed_16 : decode cX3_feed 16 = .ok (.aload_n 0, 1) := by decide +kernel
theorem dX3_feed_17 : decode cX3_feed 17 = .ok (.getfield 25, 3) := by decide +kernel
theorem dX3_feed_20 : decode cX3_feed 20 = .ok (.getfield 168, 3) := by decide +kernel
theorem dX3_feed_23 : decode cX3_feed 23 = .ok (.iload_n 2, 1) := by decide +kernel
theorem dX3_feed_24 : decode cX3_feed 24 = .ok (.iadd, 1) := by decide +kernel
theorem dX3_feed_25 : decode cX3_feed 25 = .ok (.bipush 120, 2) := by decide +kernel
theorem dX3_feed_27 : decode cX3_feed 27 = .ok (.if_icmp .le 10, 3) := by decide +kernel
theorem dX3_feed_30 : decode cX3_feed 30 = .ok (.aload_n 0, 1) := by decide +kernel
theorem dX3_feed_31 : decode cX3_feed 31 = .ok (.ldc 57, 2) := by decide +kernel
theorem dX3_feed_33 : decode cX3_feed 33 = .ok (.invokevirtual 49, 3) := by decide +kernel
theorem dX3_feed_36 : decode cX3_feed 36 = .ok (.ireturn, 1) := by decide +kernel
theorem dX3_feed_37 : decode cX3_feed 37 = .ok (.aload_n 0, 1) := by decide +kernel
theorem dX3_feed_38 : decode cX3_feed 38 = .ok (.getfield 25, 3) := by decide +kernel
theorem dX3_feed_41 : decode cX3_feed 41 = .ok (.iload_n 1, 1) := by decide +kernel
theorem dX3_feed_42 : decode cX3_feed 42 = .ok (.iload_n 2, 1) := by decide +kernel
theorem dX3_feed_43 : decode cX3_feed 43 = .ok (.invokevirtual 171, 3) := by decide +kernel
theorem dX3_feed_46 : decode cX3_feed 46 = .ok (.aload_n 0, 1) := by decide +kernel
theorem dX3_feed_47 : decode cX3_feed 47 = .ok (.getfield 25, 3) := by decide +kernel
theorem dX3_feed_50 : decode cX3_feed 50 = .ok (.getfield 168, 3) := by decide +kernel
theorem dX3_feed_53 : decode cX3_feed 53 = .ok (.ireturn, 1) := by decide +kernel
set_option maxRecDepth 20000 in
theorem ggX3_wipe_X2_clear : GoodIn wsX3_wipe wsX2_clear := goodIn_r _ [6, 7, 15, 16, 17, 18, 19, 20] rfl (by decide +kernel)
set_option maxRecDepth 20000 in
theorem gX3_wipe_X2_clear : GoodIn wsX3_wipe (wsV RX3 175 RX2 yX2_clear wsX2_clear) := goodIn_app (goodIn_of _ (by decide +kernel)) ggX3_wipe_X2_clear
theorem dX3_wipe_0 : decode cX3_wipe 0 = .ok (.aload_n 0, 1) := by decide +kernel
theorem dX3_wipe_1 : decode cX3_wipe 1 = .ok (.getfield 25, 3) := by decide +kernel
theorem dX3_wipe_4 : decode cX3_wipe 4 = .ok (.invokevirtual 175, 3) := by decide +kernel
theorem dX3_wipe_7 : decode cX3_wipe 7 = .ok (.ireturn, 1) := by decide +kernel
set_option maxRecDepth 20000 in
theorem ggX3_congress_X3_foresee : GoodIn wsX3_congress wsX3_foresee := goodIn_r _ [8, 2, 3, 9, 10, 11, 12, 13, 14, 15, 16, 17, 18, 19, 20, 21, 22, 23, 24, 25, 26, 27, 28, 29, 30, 31, 32, 33, 34, 35, 36, 37, 38, 39, 40, 41, 42, 43, 44, 45, 46, 47, 48, 49, 50, 51, 52, 53, 54, 55, 56, 57, 58, 59, 60, 61, 62, 63, 64, 65, 66, 67, 68, 69, 70, 71, 72, 73, 200, 201, 202, 203, 204, 205, 206, 207, 208, 209, 210, 211, 212, 213, 214, 215, 216, 217, 218] rfl (by decide +kernel)
set_option maxRecDepth 20000 in
theorem gX3_congress_X3_foresee : GoodIn wsX3_congress (wsV RX3 148 RX3 yX3_foresee wsX3_foresee) := goodIn_app (goodIn_of _ (by decide +kernel)) ggX3_congress_X3_foresee
set_option maxRecDepth 20000 in
theorem ggX3_congress_X2_tellTo : GoodIn wsX3_congress wsX2_tellTo := goodIn_r _ [78, 79, 80, 81, 82, 83, 84, 77, 85, 86, 87, 88, 89, 90, 91, 92, 93, 94, 95, 96, 97, 98, 99, 100, 101, 59, 52, 60, 102, 103, 104, 105, 106, 107, 108, 109, 110, 111, 112, 113, 114, 115, 116, 117, 118, 119, 120, 121, 122, 123, 124, 125, 126, 127, 128, 129, 130, 131, 132, 133, 134, 135, 136, 137, 138, 139, 140, 141, 142, 143, 144, 145, 146, 147, 148, 149, 150, 151, 152, 153, 154, 155, 156, 157, 158, 159, 160, 161, 162, 163, 164, 165, 166, 167, 168, 169, 170, 171, 12, 172, 25, 26, 27, 28, 29, 173, 174, 175, 176, 177, 178, 179, 180, 181, 182, 183, 184, 185, 186, 187, 188, 189, 190, 15, 16, 21, 22, 23, 24, 191, 192, 193, 194, 195, 219, 220, 221, 222, 223, 224, 207, 208, 209, 210, 211, 212, 213, 214, 215, 216, 217, 218] rfl (by decide +kernel)
set_option maxRecDepth 20000 in
theorem gX3_congress_X2_tellTo : GoodIn wsX3_congress (wsV RX3 178 RX2 yX2_tellTo wsX2_tellTo) := goodIn_app (goodIn_of _ (by decide +kernel)) ggX3_congress_X2_tellTo
set_option maxRecDepth 20000 in
theorem ggX3_congress_X2_clear : GoodIn wsX3_congress wsX2_clear := goodIn_r _ [199, 86, 219, 220, 221, 222, 223, 224] rfl (by decide +kernel)
set_option maxRecDepth 20000 in
theorem gX3_congress_X2_clear : GoodIn wsX3_congress (wsV RX3 175 RX2 yX2_clear wsX2_clear) := goodIn_app (goodIn_of _ (by decide +kernel)) ggX3_congress_X2_clear
set_option maxRecDepth 20000 in
theorem ggX3_congress_X0_takeFrom : GoodIn wsX3_congress wsX0_takeFrom := goodIn_r _ [13, 14, 15, 16, 17, 18, 19, 20, 21, 22, 23, 24, 25, 26, 27, 28, 29, 207, 208, 209, 210, 211, 212, 213, 214, 215, 216, 217, 218] rfl (by decide +kernel)
set_option maxRecDepth 20000 in
theorem gX3_congress_X0_takeFrom : GoodIn wsX3_congress (wsV RX3 182 RX0 yX0_takeFrom wsX0_takeFrom) := goodIn_app (goodIn_of _ (by decide +kernel)) ggX3_congress_X0_takeFrom
theorem dX3_congress_0 : decode cX3_congress 0 = .ok (.aload_n 0, 1) := by decide +kernel
theorem dX3_congress_1 : decode cX3_congress 1 = .ok (.iconst 0, 1) := by decide +kernel
theorem dX3_congress_2 : decode cX3_congress 2 = .ok (.invokevirtual 148, 3) := by decide +kernel
theorem dX3_congress_5 : decode cX3_congress 5 = .ok (.aload_n 0, 1) := by decide +kernel
theorem dX3_congress_6 : decode cX3_congress 6 = .ok (.getfield 25, 3) := by decide +kernel
theorem dX3_congress_9 : decode cX3_congress 9 = .ok (.aload_n 0, 1) := by decide +kernel
theorem dX3_congress_10 : decode cX3_congress 10 = .ok (.getfield 19, 3) := by decide +kernel
theorem dX3_congress_13 : decode cX3_congress 13 = .ok (.invokevirtual 178, 3) := by decide +kernel
theorem dX3_congress_16 : decode cX3_congress 16 = .ok (.istore_n 1, 1) := by decide +kernel
theorem dX3_congress_17 : decode cX3_congress 17 = .ok (.aload_n 0, 1) := by decide +kernel
theorem dX3_congress_18 : decode cX3_congress 18 = .ok (.getfield 25, 3) := by decide +kernel
theorem dX3_congress_21 : decode cX3_congress 21 = .ok (.invokevirtual 175, 3) := by decide +kernel
theorem dX3_congress_24 : decode cX3_congress 24 = .ok (.pop, 1) := by decide +kernel
theorem dX3_congress_25 : decode cX3_congress 25 = .ok (.iload_n 1, 1) := by decide +kernel
theorem dX3_congress_26 : decode cX3_congress 26 = .ok (.ifCond .le 14, 3) := by decide +kernel
theorem dX3_congress_29 : decode cX3_congress 29 = .ok (.aload_n 0, 1) := by decide +kernel
theorem dX3_congress_30 : decode cX3_congress 30 = .ok (.getfield 10, 3) := by decide +kernel
theorem dX3_congress_33 : decode cX3_congress 33 = .ok (.aload_n 0, 1) := by decide +kernel
theorem dX3_congress_34 : decode cX3_congress 34 = .ok (.getfield 19, 3) := by decide +kernel
theorem dX3_congress_37 : decode cX3_congress 37 = .ok (.invokevirtual 182, 3) := by decide +kernel
theorem dX3_congress_40 : decode cX3_congress 40 = .ok (.iload_n 1, 1) := by decide +kernel
theorem dX3_congress_41 : decode cX3_congress 41 = .ok (.ireturn, 1) := by decide +kernel
set_option maxRecDepth 20000 in
theorem ggX3_sheet_X1_isOne : GoodIn wsX3_sheet wsX1_isOne := goodIn_r _ [7] rfl (by decide +kernel)
set_option maxRecDepth 20000 in
theorem gX3_sheet_X1_isOne : GoodIn wsX3_sheet (va_wsS RX3 186 yX1_isOne wsX1_isOne) := goodIn_app (goodIn_of _ (by decide +kernel)) ggX3_sheet_X1_isOne
set_option maxRecDepth 20000 in
theorem ggX3_sheet_X1_mayHave : GoodIn wsX3_sheet wsX1_mayHave := goodIn_r _ [10] rfl (by decide +kernel)
set_option maxRecDepth 20000 in
theorem gX3_sheet_X1_mayHave : GoodIn wsX3_sheet (va_wsS RX3 189 yX1_mayHave wsX1_mayHave) := goodIn_app (goodIn_of _ (by decide +kernel)) ggX3_sheet_X1_mayHave
set_option maxRecDepth 20000 in
theorem ggX3_sheet_X3_found : GoodIn wsX3_sheet wsX3_found := goodIn_r _ [15, 1, 16, 17, 18, 14, 19, 27, 28, 29, 30, 31, 32, 33] rfl (by decide +kernel)
set_option maxRecDepth 20000 in
theorem gX3_sheet_X3_found : GoodIn wsX3_sheet (wsV RX3 49 RX3 yX3_found wsX3_found) := goodIn_app (goodIn_of _ (by decide +kernel)) ggX3_sheet_X3_found
set_option maxRecDepth 20000 in
theorem ggX3_sheet_X1_lay : GoodIn wsX3_sheet wsX1_lay := goodIn_r _ [23, 24, 25, 26, 34, 35, 36] rfl (by decide +kernel)
set_option maxRecDepth 20000 in
theorem gX3_sheet_X1_lay : GoodIn wsX3_sheet (wsV RX3 193 RX1 yX1_lay wsX1_lay) := goodIn_app (goodIn_of _ (by decide +kernel)) ggX3_sheet_X1_lay
theorem dX3_sheet_0 : decode cX3_sheet 0 = .ok (.iload_n 1, 1) := by decide +kernel
theorem dX3_sheet_1 : decode cX3_sheet 1 = .ok (.invokestatic 186, 3) := by decide +kernel
theorem dX3_sheet_4 : decode cX3_sheet 4 = .ok (.ifCond .eq 10, 3) := by decide +kernel
theorem dX3_sheet_7 : decode cX3_sheet 7 = .ok (.iload_n 2, 1) := by decide +kernel
theorem dX3_sheet_8 : decode cX3_sheet 8 = .ok (.invokestatic 189, 3) := by decide +kernel
theorem dX3_sheet_11 : decode cX3_sheet 11 = .ok (.ifCond .ne 10, 3) := by decide +kernel
theorem dX3_sheet_14 : decode cX3_sheet 14 = .ok (.aload_n 0, 1) := by decide +kernel
theorem dX3_sheet_15 : decode cX3_sheet 15 = .ok (.ldc 48, 2) := by decide +kernel
theorem dX3_sheet_17 : decode cX3_sheet 17 = .ok (.invokevirtual 49, 3) := by decide +kernel
theorem dX3_sheet_20 : decode cX3_sheet 20 = .ok (.ireturn, 1) := by decide +kernel
theorem dX3_sheet_21 : decode cX3_sheet 21 = .ok (.iload_n 3, 1) := by decide +kernel
theorem dX3_sheet_22 : decode cX3_sheet 22 = .ok (.ifCond .ge 10, 3) := by decide +kernel
theorem dX3_sheet_25 : decode cX3_sheet 25 = .ok (.aload_n 0, 1) := by decide +kernel
theorem dX3_sheet_26 : decode cX3_sheet 26 = .ok (.ldc 192, 2) := by decide +kernel
theorem dX3_sheet_28 : decode cX3_sheet 28 = .ok (.invokevirtual 49, 3) := by decide +kernel
theorem dX3_sheet_31 : decode cX3_sheet 31 = .ok (.ireturn, 1) := by decide +kernel
theorem dX3_sheet_32 : decode cX3_sheet 32 = .ok (.iload_n 3, 1) := by decide +kernel
theorem dX3_sheet_33 : decode cX3_sheet 33 = .ok (.bipush 40, 2) := by decide +kernel
theorem dX3_sheet_35 : decode cX3_sheet 35 = .ok (.if_icmp .le 10, 3) := by decide +kernel
theorem dX3_sheet_38 : decode cX3_sheet 38 = .ok (.aload_n 0, 1) := by decide +kernel
theorem dX3_sheet_39 : decode cX3_sheet 39 = .ok (.ldc 48, 2) := by decide +kernel
theorem dX3_sheet_41 : decode cX3_sheet 41 = .ok (.invokevirtual 49, 3) := by decide +kernel
theorem dX3_sheet_44 : decode cX3_sheet 44 = .ok (.ireturn, 1) := by decide +kernel
theorem dX3_sheet_45 : decode cX3_sheet 45 = .ok (.aload_n 0, 1) := by decide +kernel
theorem dX3_sheet_46 : decode cX3_sheet 46 = .ok (.getfield 32, 3) := by decide +kernel
theorem dX3_sheet_49 : decode cX3_sheet 49 = .ok (.iload_n 1, 1) := by decide +kernel
theorem dX3_sheet_50 : decode cX3_sheet 50 = .ok (.iload_n 2, 1) := by decide +kernel
theorem dX3_sheet_51 : decode cX3_sheet 51 = .ok (.iload_n 3, 1) := by decide +kernel
theorem dX3_sheet_52 : decode cX3_sheet 52 = .ok (.invokevirtual 193, 3) := by decide +kernel
theorem dX3_sheet_55 : decode cX3_sheet 55 = .ok (.ireturn, 1) := by decide +kernel
set_option maxRecDepth 20000 in
theorem ggX3_write_X3_findingOfSheet : GoodIn wsX3_write wsX3_findingOfSheet := goodIn_r _ [8, 3, 1, 9, 10, 11, 12, 13, 14, 15, 16, 17, 18, 39, 40, 41, 42, 43, 44, 45, 46, 47, 48] rfl (by decide +kernel)
set_option maxRecDepth 20000 in
theorem gX3_write_X3_findingOfSheet : GoodIn wsX3_write (wsV RX3 196 RX3 yX3_findingOfSheet wsX3_findingOfSheet) := goodIn_app (goodIn_of _ (by decide +kernel)) ggX3_write_X3_findingOfSheet
set_option maxRecDepth 20000 in
theorem ggX3_write_X3_found : GoodIn wsX3_write wsX3_found := goodIn_r _ [22, 3, 23, 24, 25, 7, 26, 39, 40, 41, 42, 43, 44, 45] rfl (by decide +kernel)
set_option maxRecDepth 20000 in
theorem gX3_write_X3_found : GoodIn wsX3_write (wsV RX3 49 RX3 yX3_found wsX3_found) := goodIn_app (goodIn_of _ (by decide +kernel)) ggX3_write_X3_found
set_option maxRecDepth 20000 in
theorem ggX3_write_X3_isWithin : GoodIn wsX3_write wsX3_isWithin := goodIn_r _ [26] rfl (by decide +kernel)
set_option maxRecDepth 20000 in
theorem gX3_write_X3_isWithin : GoodIn wsX3_write (va_wsS RX3 44 yX3_isWithin wsX3_isWithin) := goodIn_app (goodIn_of _ (by decide +kernel)) ggX3_write_X3_isWithin
set_option maxRecDepth 20000 in
theorem ggX3_write_X1_numberAt : GoodIn wsX3_write wsX1_numberAt := goodIn_r _ [30, 31, 46, 47, 48] rfl (by decide +kernel)
set_option maxRecDepth 20000 in
theorem gX3_write_X1_numberAt : GoodIn wsX3_write (wsV RX3 202 RX1 yX1_numberAt wsX1_numberAt) := goodIn_app (goodIn_of _ (by decide +kernel)) ggX3_write_X1_numberAt
set_option maxRecDepth 20000 in
theorem ggX3_write_X1_put : GoodIn wsX3_write wsX1_put := goodIn_r _ [35, 31, 18, 36, 37, 12, 38, 46, 47, 48] rfl (by decide +kernel)
set_option maxRecDepth 20000 in
theorem gX3_write_X1_put : GoodIn wsX3_write (wsV RX3 206 RX1 yX1_put wsX1_put) := goodIn_app (goodIn_of _ (by decide +kernel)) ggX3_write_X1_put
theorem dX3_write_0 : decode cX3_write 0 = .ok (.aload_n 0, 1) := by decide +kernel
theorem dX3_write_1 : decode cX3_write 1 = .ok (.iload_n 1, 1) := by decide +kernel
theorem dX3_write_2 : decode cX3_write 2 = .ok (.invokevirtual 196, 3) := by decide +kernel
theorem dX3_write_5 : decode cX3_write 5 = .ok (.istore 5, 2) := by decide +kernel
theorem dX3_write_7 : decode cX3_write 7 = .ok (.iload 5, 2) := by decide +kernel
theorem dX3_write_9 : decode cX3_write 9 = .ok (.ifCond .eq 11, 3) := by decide +kernel
theorem dX3_write_12 : decode cX3_write 12 = .ok (.aload_n 0, 1) := by decide +kernel
theorem dX3_write_13 : decode cX3_write 13 = .ok (.iload 5, 2) := by decide +kernel
theorem dX3_write_15 : decode cX3_write 15 = .ok (.invokevirtual 49, 3) := by decide +kernel
theorem dX3_write_18 : decode cX3_write 18 = .ok (.i2l, 1) := by decide +kernel
theorem dX3_write_19 : decode cX3_write 19 = .ok (.lreturn, 1) := by decide +kernel
theorem dX3_write_20 : decode cX3_write 20 = .ok (.iload_n 2, 1) := by decide +kernel
theorem dX3_write_21 : decode cX3_write 21 = .ok (.iconst 0, 1) := by decide +kernel
theorem dX3_write_22 : decode cX3_write 22 = .ok (.aload_n 0, 1) := by decide +kernel
theorem dX3_write_23 : decode cX3_write 23 = .ok (.getfield 32, 3) := by decide +kernel
theorem dX3_write_26 : decode cX3_write 26 = .ok (.getfield 199, 3) := by decide +kernel
theorem dX3_write_29 : decode cX3_write 29 = .ok (.iload_n 1, 1) := by decide +kernel
theorem dX3_write_30 : decode cX3_write 30 = .ok (.iaload, 1) := by decide +kernel
theorem dX3_write_31 : decode cX3_write 31 = .ok (.iconst 1, 1) := by decide +kernel
theorem dX3_write_32 : decode cX3_write 32 = .ok (.isub, 1) := by decide +kernel
theorem dX3_write_33 : decode cX3_write 33 = .ok (.invokestatic 44, 3) := by decide +kernel
theorem dX3_write_36 : decode cX3_write 36 = .ok (.ifCond .ne 11, 3) := by decide +kernel
theorem dX3_write_39 : decode cX3_write 39 = .ok (.aload_n 0, 1) := by decide +kernel
theorem dX3_write_40 : decode cX3_write 40 = .ok (.ldc 48, 2) := by decide +kernel
theorem dX3_write_42 : decode cX3_write 42 = .ok (.invokevirtual 49, 3) := by decide +kernel
theorem dX3_write_45 : decode cX3_write 45 = .ok (.i2l, 1) := by decide +kernel
theorem dX3_write_46 : decode cX3_write 46 = .ok (.lreturn, 1) := by decide +kernel
theorem dX3_write_47 : decode cX3_write 47 = .ok (.aload_n 0, 1) := by decide +kernel
theorem dX3_write_48 : decode cX3_write 48 = .ok (.getfield 32, 3) := by decide +kernel
theorem dX3_write_51 : decode cX3_write 51 = .ok (.iload_n 1, 1) := by decide +kernel
theorem dX3_write_52 : decode cX3_write 52 = .ok (.iload_n 2, 1) := by decide +kernel
theorem dX3_write_53 : decode cX3_write 53 = .ok (.invokevirtual 202, 3) := by decide +kernel
theorem dX3_write_56 : decode cX3_write 56 = .ok (.lstore 6, 2) := by decide +kernel
theorem dX3_write_58 : decode cX3_write 58 = .ok (.aload_n 0, 1) := by decide +kernel
theorem dX3_write_59 : decode cX3_write 59 = .ok (.getfield 32, 3) := by decide +kernel
theorem dX3_write_62 : decode cX3_write 62 = .ok (.iload_n 1, 1) := by decide +kernel
theorem dX3_write_63 : decode cX3_write 63 = .ok (.iload_n 2, 1) := by decide +kernel
theorem dX3_write_64 : decode cX3_write 64 = .ok (.lload_n 3, 1) := by decide +kernel
theorem dX3_write_65 : decode cX3_write 65 = .ok (.invokevirtual 206, 3) := by decide +kernel
theorem dX3_write_68 : decode cX3_write 68 = .ok (.lload 6, 2) := by decide +kernel
theorem dX3_write_70 : decode cX3_write 70 = .ok (.lreturn, 1) := by decide +kernel
set_option maxRecDepth 20000 in
theorem ggX3_copy_X1_isOne : GoodIn wsX3_copy wsX1_isOne := goodIn_r _ [9] rfl (by decide +kernel)
set_option maxRecDepth 20000 in
theorem gX3_copy_X1_isOne : GoodIn wsX3_copy (va_wsS RX3 186 yX1_isOne wsX1_isOne) := goodIn_app (goodIn_of _ (by decide +kernel)) ggX3_copy_X1_isOne
set_option maxRecDepth 20000 in
theorem ggX3_copy_X3_found : GoodIn wsX3_copy wsX3_found := goodIn_r _ [14, 1, 15, 16, 17, 13, 18, 38, 39, 40, 41, 42, 43, 44] rfl (by decide +kernel)
set_option maxRecDepth 20000 in
theorem gX3_copy_X3_found : GoodIn wsX3_copy (wsV RX3 49 RX3 yX3_found wsX3_found) := goodIn_app (goodIn_of _ (by decide +kernel)) ggX3_copy_X3_found
set_option maxRecDepth 20000 in
theorem ggX3_copy_X1_isMissing : GoodIn wsX3_copy wsX1_isMissing := goodIn_r _ [22, 23, 45, 46, 47] rfl (by decide +kernel)
set_option maxRecDepth 20000 in
theorem gX3_copy_X1_isMissing : GoodIn wsX3_copy (wsV RX3 210 RX1 yX1_isMissing wsX1_isMissing) := goodIn_app (goodIn_of _ (by decide +kernel)) ggX3_copy_X1_isMissing
set_option maxRecDepth 20000 in
theorem ggX3_copy_X1_hasPart : GoodIn wsX3_copy wsX1_hasPart := goodIn_r _ [27, 28, 45, 46, 47] rfl (by decide +kernel)
set_option maxRecDepth 20000 in
theorem gX3_copy_X1_hasPart : GoodIn wsX3_copy (wsV RX3 217 RX1 yX1_hasPart wsX1_hasPart) := goodIn_app (goodIn_of _ (by decide +kernel)) ggX3_copy_X1_hasPart
set_option maxRecDepth 20000 in
theorem ggX3_copy_X1_move : GoodIn wsX3_copy wsX1_move := goodIn_r _ [32, 33, 34, 35, 36, 37, 45, 46, 47] rfl (by decide +kernel)
set_option maxRecDepth 20000 in
theorem gX3_copy_X1_move : GoodIn wsX3_copy (wsV RX3 220 RX1 yX1_move wsX1_move) := goodIn_app (goodIn_of _ (by decide +kernel)) ggX3_copy_X1_move
theorem dX3_copy_0 : decode cX3_copy 0 = .ok (.iload_n 1, 1) := by decide +kernel
theorem dX3_copy_1 : decode cX3_copy 1 = .ok (.invokestatic 186, 3) := by decide +kernel
theorem dX3_copy_4 : decode cX3_copy 4 = .ok (.ifCond .eq 10, 3) := by decide +kernel
theorem dX3_copy_7 : decode cX3_copy 7 = .ok (.iload_n 3, 1) := by decide +kernel
theorem dX3_copy_8 : decode cX3_copy 8 = .ok (.invokestatic 186, 3) := by decide +kernel
theorem dX3_copy_11 : decode cX3_copy 11 = .ok (.ifCond .ne 10, 3) := by decide +kernel
theorem dX3_copy_14 : decode cX3_copy 14 = .ok (.aload_n 0, 1) := by decide +kernel
theorem dX3_copy_15 : decode cX3_copy 15 = .ok (.ldc 48, 2) := by decide +kernel
theorem dX3_copy_17 : decode cX3_copy 17 = .ok (.invokevirtual 49, 3) := by decide +kernel
theorem dX3_copy_20 : decode cX3_copy 20 = .ok (.ireturn, 1) := by decide +kernel
theorem dX3_copy_21 : decode cX3_copy 21 = .ok (.aload_n 0, 1) := by decide +kernel
theorem dX3_copy_22 : decode cX3_copy 22 = .ok (.getfield 32, 3) := by decide +kernel
theorem dX3_copy_25 : decode cX3_copy 25 = .ok (.iload_n 1, 1) := by decide +kernel
theorem dX3_copy_26 : decode cX3_copy 26 = .ok (.invokevirtual 210, 3) := by decide +kernel
theorem dX3_copy_29 : decode cX3_copy 29 = .ok (.ifCond .ne 14, 3) := by decide +kernel
theorem dX3_copy_32 : decode cX3_copy 32 = .ok (.aload_n 0, 1) := by decide +kernel
theorem dX3_copy_33 : decode cX3_copy 33 = .ok (.getfield 32, 3) := by decide +kernel
theorem dX3_copy_36 : decode cX3_copy 36 = .ok (.iload_n 3, 1) := by decide +kernel
theorem dX3_copy_37 : decode cX3_copy 37 = .ok (.invokevirtual 210, 3) := by decide +kernel
theorem dX3_copy_40 : decode cX3_copy 40 = .ok (.ifCond .eq 10, 3) := by decide +kernel
theorem dX3_copy_43 : decode cX3_copy 43 = .ok (.aload_n 0, 1) := by decide +kernel
theorem dX3_copy_44 : decode cX3_copy 44 = .ok (.ldc 213, 2) := by decide +kernel
theorem dX3_copy_46 : decode cX3_copy 46 = .ok (.invokevirtual 49, 3) := by decide +kernel
theorem dX3_copy_49 : decode cX3_copy 49 = .ok (.ireturn, 1) := by decide +kernel
theorem dX3_copy_50 : decode cX3_copy 50 = .ok (.aload_n 0, 1) := by decide +kernel
theorem dX3_copy_51 : decode cX3_copy 51 = .ok (.getfield 32, 3) := by decide +kernel
theorem dX3_copy_54 : decode cX3_copy 54 = .ok (.getfield 214, 3) := by decide +kernel
theorem dX3_copy_57 : decode cX3_copy 57 = .ok (.iload_n 1, 1) := by decide +kernel
theorem dX3_copy_58 : decode cX3_copy 58 = .ok (.iaload, 1) := by decide +kernel
theorem dX3_copy_59 : decode cX3_copy 59 = .ok (.aload_n 0, 1) := by decide +kernel
theorem dX3_copy_60 : decode cX3_copy 60 = .ok (.getfield 32, 3) := by decide +kernel
theorem dX3_copy_63 : decode cX3_copy 63 = .ok (.getfield 214, 3) := by decide +kernel
theorem dX3_copy_66 : decode cX3_copy 66 = .ok (.iload_n 3, 1) := by decide +kernel
theorem dX3_copy_67 : decode cX3_copy 67 = .ok (.iaload, 1) := by decide +kernel
theorem dX3_copy_68 : decode cX3_copy 68 = .ok (.if_icmp .eq 10, 3) := by decide +kernel
theorem dX3_copy_71 : decode cX3_copy 71 = .ok (.aload_n 0, 1) := by decide +kernel
theorem dX3_copy_72 : decode cX3_copy 72 = .ok (.ldc 86, 2) := by decide +kernel
theorem dX3_copy_74 : decode cX3_copy 74 = .ok (.invokevirtual 49, 3) := by decide +kernel
theorem dX3_copy_77 : decode cX3_copy 77 = .ok (.ireturn, 1) := by decide +kernel
theorem dX3_copy_78 : decode cX3_copy 78 = .ok (.aload_n 0, 1) := by decide +kernel
theorem dX3_copy_79 : decode cX3_copy 79 = .ok (.getfield 32, 3) := by decide +kernel
theorem dX3_copy_82 : decode cX3_copy 82 = .ok (.iload_n 1, 1) := by decide +kernel
theorem dX3_copy_83 : decode cX3_copy 83 = .ok (.iload_n 2, 1) := by decide +kernel
theorem dX3_copy_84 : decode cX3_copy 84 = .ok (.iload 5, 2) := by decide +kernel
theorem dX3_copy_86 : decode cX3_copy 86 = .ok (.invokevirtual 217, 3) := by decide +kernel
theorem dX3_copy_89 : decode cX3_copy 89 = .ok (.ifCond .eq 18, 3) := by decide +kernel
theorem dX3_copy_92 : decode cX3_copy 92 = .ok (.aload_n 0, 1) := by decide +kernel
theorem dX3_copy_93 : decode cX3_copy 93 = .ok (.getfield 32, 3) := by decide +kernel
theorem dX3_copy_96 : decode cX3_copy 96 = .ok (.iload_n 3, 1) := by decide +kernel
theorem dX3_copy_97 : decode cX3_copy 97 = .ok (.iload 4, 2) := by decide +kernel
theorem dX3_copy_99 : decode cX3_copy 99 = .ok (.iload 5, 2) := by decide +kernel
theorem dX3_copy_101 : decode cX3_copy 101 = .ok (.invokevirtual 217, 3) := by decide +kernel
theorem dX3_copy_104 : decode cX3_copy 104 = .ok (.ifCond .ne 10, 3) := by decide +kernel
theorem dX3_copy_107 : decode cX3_copy 107 = .ok (.aload_n 0, 1) := by decide +kernel
theorem dX3_copy_108 : decode cX3_copy 108 = .ok (.ldc 48, 2) := by decide +kernel
theorem dX3_copy_110 : decode cX3_copy 110 = .ok (.invokevirtual 49, 3) := by decide +kernel
theorem dX3_copy_113 : decode cX3_copy 113 = .ok (.ireturn, 1) := by decide +kernel
theorem dX3_copy_114 : decode cX3_copy 114 = .ok (.aload_n 0, 1) := by decide +kernel
theorem dX3_copy_115 : decode cX3_copy 115 = .ok (.getfield 32, 3) := by decide +kernel
theorem dX3_copy_118 : decode cX3_copy 118 = .ok (.iload_n 1, 1) := by decide +kernel
theorem dX3_copy_119 : decode cX3_copy 119 = .ok (.iload_n 2, 1) := by decide +kernel
theorem dX3_copy_120 : decode cX3_copy 120 = .ok (.iload_n 3, 1) := by decide +kernel
theorem dX3_copy_121 : decode cX3_copy 121 = .ok (.iload 4, 2) := by decide +kernel
theorem dX3_copy_123 : decode cX3_copy 123 = .ok (.iload 5, 2) := by decide +kernel
theorem dX3_copy_125 : decode cX3_copy 125 = .ok (.invokevirtual 220, 3) := by decide +kernel
theorem dX3_copy_128 : decode cX3_copy 128 = .ok (.iload 5, 2) := by decide +kernel
theorem dX3_copy_130 : decode cX3_copy 130 = .ok (.ireturn, 1) := by decide +kernel
set_option maxRecDepth 20000 in
theorem ggX3_lays_X3_findingOfSheet : GoodIn wsX3_lays wsX3_findingOfSheet := goodIn_r _ [11, 12, 1, 13, 14, 15, 16, 17, 18, 19, 20, 21, 22, 36, 37, 38, 39, 40, 41, 42, 43, 44, 45] rfl (by decide +kernel)
set_option maxRecDepth 20000 in
theorem gX3_lays_X3_findingOfSheet : GoodIn wsX3_lays (wsV RX3 196 RX3 yX3_findingOfSheet wsX3_findingOfSheet) := goodIn_app (goodIn_of _ (by decide +kernel)) ggX3_lays_X3_findingOfSheet
set_option maxRecDepth 20000 in
theorem ggX3_lays_X3_found : GoodIn wsX3_lays wsX3_found := goodIn_r _ [26, 12, 27, 28, 29, 10, 30, 36, 37, 38, 39, 40, 41, 42] rfl (by decide +kernel)
set_option maxRecDepth 20000 in
theorem gX3_lays_X3_found : GoodIn wsX3_lays (wsV RX3 49 RX3 yX3_found wsX3_found) := goodIn_app (goodIn_of _ (by decide +kernel)) ggX3_lays_X3_found
set_option maxRecDepth 20000 in
theorem ggX3_lays_X1_numberAt : GoodIn wsX3_lays wsX1_numberAt := goodIn_r _ [34, 35, 43, 44, 45] rfl (by decide +kernel)
set_option maxRecDepth 20000 in
theorem gX3_lays_X1_numberAt : GoodIn wsX3_lays (wsV RX3 202 RX1 yX1_numberAt wsX1_numberAt) := goodIn_app (goodIn_of _ (by decide +kernel)) ggX3_lays_X1_numberAt
theorem dX3_lays_0 : decode cX3_lays 0 = .ok (.aload_n 0, 1) := by decide +kernel
theorem dX3_lays_1 : decode cX3_lays 1 = .ok (.iload_n 1, 1) := by decide +kernel
theorem dX3_lays_2 : decode cX3_lays 2 = .ok (.invokevirtual 196, 3) := by decide +kernel
theorem dX3_lays_5 : decode cX3_lays 5 = .ok (.istore_n 2, 1) := by decide +kernel
theorem dX3_lays_6 : decode cX3_lays 6 = .ok (.iload_n 2, 1) := by decide +kernel
theorem dX3_lays_7 : decode cX3_lays 7 = .ok (.ifCond .eq 9, 3) := by decide +kernel
theorem dX3_lays_10 : decode cX3_lays 10 = .ok (.aload_n 0, 1) := by decide +kernel
theorem dX3_lays_11 : decode cX3_lays 11 = .ok (.iload_n 2, 1) := by decide +kernel
theorem dX3_lays_12 : decode cX3_lays 12 = .ok (.invokevirtual 49, 3) := by decide +kernel
theorem dX3_lays_15 : decode cX3_lays 15 = .ok (.ireturn, 1) := by decide +kernel
theorem dX3_lays_16 : decode cX3_lays 16 = .ok (.iconst 0, 1) := by decide +kernel
theorem dX3_lays_17 : decode cX3_lays 17 = .ok (.istore_n 3, 1) := by decide +kernel
theorem dX3_lays_18 : decode cX3_lays 18 = .ok (.iconst 0, 1) := by decide +kernel
theorem dX3_lays_19 : decode cX3_lays 19 = .ok (.istore 4, 2) := by decide +kernel
theorem dX3_lays_21 : decode cX3_lays 21 = .ok (.iload 4, 2) := by decide +kernel
theorem dX3_lays_23 : decode cX3_lays 23 = .ok (.aload_n 0, 1) := by decide +kernel
theorem dX3_lays_24 : decode cX3_lays 24 = .ok (.getfield 32, 3) := by decide +kernel
theorem dX3_lays_27 : decode cX3_lays 27 = .ok (.getfield 199, 3) := by decide +kernel
theorem dX3_lays_30 : decode cX3_lays 30 = .ok (.iload_n 1, 1) := by decide +kernel
theorem dX3_lays_31 : decode cX3_lays 31 = .ok (.iaload, 1) := by decide +kernel
theorem dX3_lays_32 : decode cX3_lays 32 = .ok (.if_icmp .ge 65, 3) := by decide +kernel
theorem dX3_lays_35 : decode cX3_lays 35 = .ok (.iload 4, 2) := by decide +kernel
theorem dX3_lays_37 : decode cX3_lays 37 = .ok (.aload_n 0, 1) := by decide +kernel
theorem dX3_lays_38 : decode cX3_lays 38 = .ok (.getfield 10, 3) := by decide +kernel
theorem dX3_lays_41 : decode cX3_lays 41 = .ok (.getfield 93, 3) := by decide +kernel
theorem dX3_lays_44 : decode cX3_lays 44 = .ok (.if_icmp .ge 53, 3) := by decide +kernel
theorem dX3_lays_47 : decode cX3_lays 47 = .ok (.aload_n 0, 1) := by decide +kernel
theorem dX3_lays_48 : decode cX3_lays 48 = .ok (.getfield 32, 3) := by decide +kernel
theorem dX3_lays_51 : decode cX3_lays 51 = .ok (.iload_n 1, 1) := by decide +kernel
theorem dX3_lays_52 : decode cX3_lays 52 = .ok (.iload 4, 2) := by decide +kernel
theorem dX3_lays_54 : decode cX3_lays 54 = .ok (.invokevirtual 202, 3) := by decide +kernel
theorem dX3_lays_57 : decode cX3_lays 57 = .ok (.lstore 5, 2) := by decide +kernel
theorem dX3_lays_59 : decode cX3_lays 59 = .ok (.lload 5, 2) := by decide +kernel
theorem dX3_lays_61 : decode cX3_lays 61 = .ok (.lconst 0, 1) := by decide +kernel
theorem dX3_lays_62 : decode cX3_lays 62 = .ok (.lcmp, 1) := by decide +kernel
theorem dX3_lays_63 : decode cX3_lays 63 = .ok (.ifCond .lt 28, 3) := by decide +kernel
theorem dX3_lays_66 : decode cX3_lays 66 = .ok (.lload 5, 2) := by decide +kernel
theorem dX3_lays_68 : decode cX3_lays 68 = .ok (.ldc2_w 224, 3) := by decide +kernel
theorem dX3_lays_71 : decode cX3_lays 71 = .ok (.lcmp, 1) := by decide +kernel
theorem dX3_lays_72 : decode cX3_lays 72 = .ok (.ifCond .gt 19, 3) := by decide +kernel
theorem dX3_lays_75 : decode cX3_lays 75 = .ok (.aload_n 0, 1) := by decide +kernel
theorem dX3_lays_76 : decode cX3_lays 76 = .ok (.getfield 10, 3) := by decide +kernel
theorem dX3_lays_79 : decode cX3_lays 79 = .ok (.getfield 112, 3) := by decide +kernel
theorem dX3_lays_82 : decode cX3_lays 82 = .ok (.iload 4, 2) := by decide +kernel
theorem dX3_lays_84 : decode cX3_lays 84 = .ok (.lload 5, 2) := by decide +kernel
theorem dX3_lays_86 : decode cX3_lays 86 = .ok (.l2i, 1) := by decide +kernel
theorem dX3_lays_87 : decode cX3_lays 87 = .ok (.iastore, 1) := by decide +kernel
theorem dX3_lays_88 : decode cX3_lays 88 = .ok (.iinc 3 1, 3) := by decide +kernel
theorem dX3_lays_91 : decode cX3_lays 91 = .ok (.iinc 4 1, 3) := by decide +kernel
theorem dX3_lays_94 : decode cX3_lays 94 = .ok (.goto (-73), 3) := by decide +kernel
theorem dX3_lays_97 : decode cX3_lays 97 = .ok (.iload_n 3, 1) := by decide +kernel
theorem dX3_lays_98 : decode cX3_lays 98 = .ok (.ireturn, 1) := by decide +kernel
set_option maxRecDepth 20000 in
theorem ggX3_book_X3_findingOfSheet : GoodIn wsX3_book wsX3_findingOfSheet := goodIn_r _ [11, 2, 3, 12, 13, 14, 15, 16, 17, 18, 19, 20, 21, 112, 113, 114, 115, 116, 117, 118, 119, 120, 121] rfl (by decide +kernel)
set_option maxRecDepth 20000 in
theorem gX3_book_X3_findingOfSheet : GoodIn wsX3_book (wsV RX3 196 RX3 yX3_findingOfSheet wsX3_findingOfSheet) := goodIn_app (goodIn_of _ (by decide +kernel)) ggX3_book_X3_findingOfSheet
set_option maxRecDepth 20000 in
theorem ggX3_book_X3_found : GoodIn wsX3_book wsX3_found := goodIn_r _ [25, 2, 26, 27, 28, 10, 29, 112, 113, 114, 115, 116, 117, 118] rfl (by decide +kernel)
set_option maxRecDepth 20000 in
theorem gX3_book_X3_found : GoodIn wsX3_book (wsV RX3 49 RX3 yX3_found wsX3_found) := goodIn_app (goodIn_of _ (by decide +kernel)) ggX3_book_X3_found
set_option maxRecDepth 20000 in
theorem ggX3_book_X0_hasDelegate : GoodIn wsX3_book wsX0_hasDelegate := goodIn_r _ [34, 35, 122, 123, 124, 125, 126, 127, 128, 129, 130, 131, 132, 133] rfl (by decide +kernel)
set_option maxRecDepth 20000 in
theorem gX3_book_X0_hasDelegate : GoodIn wsX3_book (wsV RX3 61 RX0 yX0_hasDelegate wsX0_hasDelegate) := goodIn_app (goodIn_of _ (by decide +kernel)) ggX3_book_X0_hasDelegate
set_option maxRecDepth 20000 in
theorem ggX3_book_X3_foresee : GoodIn wsX3_book wsX3_foresee := goodIn_r _ [39, 5, 1, 40, 41, 42, 33, 43, 44, 35, 45, 46, 47, 48, 49, 50, 51, 52, 53, 54, 55, 56, 57, 58, 59, 60, 61, 62, 63, 64, 65, 66, 67, 68, 69, 70, 71, 72, 73, 74, 75, 76, 77, 78, 79, 80, 81, 82, 83, 84, 85, 86, 87, 88, 89, 90, 91, 92, 93, 94, 95, 96, 97, 98, 99, 100, 101, 102, 112, 113, 114, 115, 116, 117, 118, 122, 123, 124, 125, 126, 127, 128, 129, 130, 131, 132, 133] rfl (by decide +kernel)
set_option maxRecDepth 20000 in
theorem gX3_book_X3_foresee : GoodIn wsX3_book (wsV RX3 148 RX3 yX3_foresee wsX3_foresee) := goodIn_app (goodIn_of _ (by decide +kernel)) ggX3_book_X3_foresee
set_option maxRecDepth 20000 in
theorem ggX3_book_X1_put : GoodIn wsX3_book wsX1_put := goodIn_r _ [106, 107, 21, 108, 109, 15, 110, 119, 120, 121] rfl (by decide +kernel)
set_option maxRecDepth 20000 in
theorem gX3_book_X1_put : GoodIn wsX3_book (wsV RX3 206 RX1 yX1_put wsX1_put) := goodIn_app (goodIn_of _ (by decide +kernel)) ggX3_book_X1_put
set_option maxRecDepth 20000 in
theorem ggX3_book_X0_goOne : GoodIn wsX3_book wsX0_goOne := goodIn_r _ [66, 58, 44, 67, 68, 69, 33, 70, 54, 71, 72, 73, 74, 35, 55, 51, 56, 75, 76, 77, 78, 57, 45, 50, 79, 80, 81, 82, 83, 84, 85, 86, 87, 88, 89, 90, 91, 92, 93, 52, 94, 95, 96, 97, 98, 99, 100, 101, 102, 53, 122, 123, 124, 125, 126, 127, 128, 129, 130, 131, 132, 133] rfl (by decide +kernel)
set_option maxRecDepth 20000 in
theorem gX3_book_X0_goOne : GoodIn wsX3_book (wsV RX3 154 RX0 yX0_goOne wsX0_goOne) := goodIn_app (goodIn_of _ (by decide +kernel)) ggX3_book_X0_goOne
theorem dX3_book_0 : decode cX3_book 0 = .ok (.aload_n 0, 1) := by decide +kernel
theorem dX3_book_1 : decode cX3_book 1 = .ok (.iload_n 1, 1) := by decide +kernel
theorem dX3_book_2 : decode cX3_book 2 = .ok (.invokevirtual 196, 3) := by decide +kernel
theorem dX3_book_5 : decode cX3_book 5 = .ok (.istore_n 3, 1) := by decide +kernel
theorem dX3_book_6 : decode cX3_book 6 = .ok (.iload_n 3, 1) := by decide +kernel
theorem dX3_book_7 : decode cX3_book 7 = .ok (.ifCond .eq 9, 3) := by decide +kernel
theorem dX3_book_10 : decode cX3_book 10 = .ok (.aload_n 0, 1) := by decide +kernel
theorem dX3_book_11 : decode cX3_book 11 = .ok (.iload_n 3, 1) := by decide +kernel
theorem dX3_book_12 : decode cX3_book 12 = .ok (.invokevirtual 49, 3) := by decide +kernel
theorem dX3_book_15 : decode cX3_book 15 = .ok (.ireturn, 1) := by decide +kernel
theorem dX3_book_16 : decode cX3_book 16 = .ok (.aload_n 0, 1) := by decide +kernel
theorem dX3_book_17 : decode cX3_book 17 = .ok (.getfield 10, 3) := by decide +kernel
theorem dX3_book_20 : decode cX3_book 20 = .ok (.iload_n 2, 1) := by decide +kernel
theorem dX3_book_21 : decode cX3_book 21 = .ok (.invokevirtual 61, 3) := by decide +kernel
theorem dX3_book_24 : decode cX3_book 24 = .ok (.ifCond .ne 10, 3) := by decide +kernel
theorem dX3_book_27 : decode cX3_book 27 = .ok (.aload_n 0, 1) := by decide +kernel
theorem dX3_book_28 : decode cX3_book 28 = .ok (.ldc 48, 2) := by decide +kernel
theorem dX3_book_30 : decode cX3_book 30 = .ok (.invokevirtual 49, 3) := by decide +kernel
theorem dX3_book_33 : decode cX3_book 33 = .ok (.ireturn, 1) := by decide +kernel
theorem dX3_book_34 : decode cX3_book 34 = .ok (.aload_n 0, 1) := by decide +kernel
theorem dX3_book_35 : decode cX3_book 35 = .ok (.iconst 0, 1) := by decide +kernel
theorem dX3_book_36 : decode cX3_book 36 = .ok (.invokevirtual 148, 3) := by decide +kernel
theorem dX3_book_39 : decode cX3_book 39 = .ok (.iconst 0, 1) := by decide +kernel
theorem dX3_book_40 : decode cX3_book 40 = .ok (.istore 4, 2) := by decide +kernel
theorem dX3_book_42 : decode cX3_book 42 = .ok (.iload 4, 2) := by decide +kernel
theorem dX3_book_44 : decode cX3_book 44 = .ok (.aload_n 0, 1) := by decide +kernel
theorem dX3_book_45 : decode cX3_book 45 = .ok (.getfield 32, 3) := by decide +kernel
theorem dX3_book_48 : decode cX3_book 48 = .ok (.getfield 199, 3) := by decide +kernel
theorem dX3_book_51 : decode cX3_book 51 = .ok (.iload_n 1, 1) := by decide +kernel
theorem dX3_book_52 : decode cX3_book 52 = .ok (.iaload, 1) := by decide +kernel
theorem dX3_book_53 : decode cX3_book 53 = .ok (.if_icmp .ge 37, 3) := by decide +kernel
theorem dX3_book_56 : decode cX3_book 56 = .ok (.aload_n 0, 1) := by decide +kernel
theorem dX3_book_57 : decode cX3_book 57 = .ok (.getfield 32, 3) := by decide +kernel
theorem dX3_book_60 : decode cX3_book 60 = .ok (.iload_n 1, 1) := by decide +kernel
theorem dX3_book_61 : decode cX3_book 61 = .ok (.iload 4, 2) := by decide +kernel
theorem dX3_book_63 : decode cX3_book 63 = .ok (.aload_n 0, 1) := by decide +kernel
theorem dX3_book_64 : decode cX3_book 64 = .ok (.getfield 19, 3) := by decide +kernel
theorem dX3_book_67 : decode cX3_book 67 = .ok (.getfield 87, 3) := by decide +kernel
theorem dX3_book_70 : decode cX3_book 70 = .ok (.iload_n 2, 1) := by decide +kernel
theorem dX3_book_71 : decode cX3_book 71 = .ok (.iaload, 1) := by decide +kernel
theorem dX3_book_72 : decode cX3_book 72 = .ok (.i2l, 1) := by decide +kernel
theorem dX3_book_73 : decode cX3_book 73 = .ok (.invokevirtual 206, 3) := by decide +kernel
theorem dX3_book_76 : decode cX3_book 76 = .ok (.aload_n 0, 1) := by decide +kernel
theorem dX3_book_77 : decode cX3_book 77 = .ok (.getfield 19, 3) := by decide +kernel
theorem dX3_book_80 : decode cX3_book 80 = .ok (.invokevirtual 154, 3) := by decide +kernel
theorem dX3_book_83 : decode cX3_book 83 = .ok (.pop, 1) := by decide +kernel
theorem dX3_book_84 : decode cX3_book 84 = .ok (.iinc 4 1, 3) := by decide +kernel
theorem dX3_book_87 : decode cX3_book 87 = .ok (.goto (-45), 3) := by decide +kernel
theorem dX3_book_90 : decode cX3_book 90 = .ok (.aload_n 0, 1) := by decide +kernel
theorem dX3_book_91 : decode cX3_book 91 = .ok (.getfield 32, 3) := by decide +kernel
theorem dX3_book_94 : decode cX3_book 94 = .ok (.getfield 199, 3) := by decide +kernel
theorem dX3_book_97 : decode cX3_book 97 = .ok (.iload_n 1, 1) := by decide +kernel
theorem dX3_book_98 : decode cX3_book 98 = .ok (.iaload, 1) := by decide +kernel
theorem dX3_book_99 : decode cX3_book 99 = .ok (.ireturn, 1) := by decide +kernel
set_option maxRecDepth 20000 in
theorem ggX3_read_X3_findingOfSheet : GoodIn wsX3_read wsX3_findingOfSheet := goodIn_r _ [10, 2, 11, 12, 13, 14, 15, 16, 17, 18, 19, 20, 21, 119, 120, 121, 122, 123, 124, 125, 138, 139, 140] rfl (by decide +kernel)
set_option maxRecDepth 20000 in
theorem gX3_read_X3_findingOfSheet : GoodIn wsX3_read (wsV RX3 196 RX3 yX3_findingOfSheet wsX3_findingOfSheet) := goodIn_app (goodIn_of _ (by decide +kernel)) ggX3_read_X3_findingOfSheet
set_option maxRecDepth 20000 in
theorem ggX3_read_X3_found : GoodIn wsX3_read wsX3_found := goodIn_r _ [25, 2, 26, 27, 28, 9, 29, 119, 120, 121, 122, 123, 124, 125] rfl (by decide +kernel)
set_option maxRecDepth 20000 in
theorem gX3_read_X3_found : GoodIn wsX3_read (wsV RX3 49 RX3 yX3_found wsX3_found) := goodIn_app (goodIn_of _ (by decide +kernel)) ggX3_read_X3_found
set_option maxRecDepth 20000 in
theorem ggX3_read_X0_hasDelegate : GoodIn wsX3_read wsX0_hasDelegate := goodIn_r _ [34, 35, 126, 127, 128, 129, 130, 131, 132, 133, 134, 135, 136, 137] rfl (by decide +kernel)
set_option maxRecDepth 20000 in
theorem gX3_read_X0_hasDelegate : GoodIn wsX3_read (wsV RX3 61 RX0 yX0_hasDelegate wsX0_hasDelegate) := goodIn_app (goodIn_of _ (by decide +kernel)) ggX3_read_X0_hasDelegate
set_option maxRecDepth 20000 in
theorem ggX3_read_X0_hasSpeech : GoodIn wsX3_read wsX0_hasSpeech := goodIn_r _ [39, 40, 126, 127, 128, 129, 130, 131, 132, 133, 134, 135, 136, 137] rfl (by decide +kernel)
set_option maxRecDepth 20000 in
theorem gX3_read_X0_hasSpeech : GoodIn wsX3_read (wsV RX3 100 RX0 yX0_hasSpeech wsX0_hasSpeech) := goodIn_app (goodIn_of _ (by decide +kernel)) ggX3_read_X0_hasSpeech
set_option maxRecDepth 20000 in
theorem ggX3_read_X3_foresee : GoodIn wsX3_read wsX3_foresee := goodIn_r _ [44, 3, 1, 45, 46, 47, 33, 48, 49, 35, 50, 51, 52, 53, 54, 55, 56, 57, 58, 40, 59, 60, 61, 62, 63, 64, 65, 66, 67, 68, 69, 70, 71, 72, 73, 74, 75, 76, 77, 78, 79, 80, 81, 82, 83, 84, 85, 86, 87, 88, 89, 90, 91, 92, 93, 94, 95, 96, 97, 98, 99, 100, 101, 102, 103, 104, 105, 106, 119, 120, 121, 122, 123, 124, 125, 126, 127, 128, 129, 130, 131, 132, 133, 134, 135, 136, 137] rfl (by decide +kernel)
set_option maxRecDepth 20000 in
theorem gX3_read_X3_foresee : GoodIn wsX3_read (wsV RX3 148 RX3 yX3_foresee wsX3_foresee) := goodIn_app (goodIn_of _ (by decide +kernel)) ggX3_read_X3_foresee
set_option maxRecDepth 20000 in
theorem ggX3_read_X3_isHurtAsOnSheet : GoodIn wsX3_read wsX3_isHurtAsOnSheet := goodIn_r _ [110, 11, 111, 3, 112, 113, 114, 115, 15, 116, 117, 118, 68, 69, 33, 70, 62, 49, 71, 72, 73, 74, 40, 75, 76, 77, 78, 35, 59, 56, 60, 79, 80, 81, 82, 61, 50, 55, 83, 84, 85, 86, 87, 88, 89, 90, 91, 92, 93, 94, 95, 96, 97, 57, 98, 99, 100, 101, 102, 103, 104, 105, 106, 58, 119, 120, 121, 122, 123, 124, 125, 138, 139, 140, 126, 127, 128, 129, 130, 131, 132, 133, 134, 135, 136, 137] rfl (by decide +kernel)
set_option maxRecDepth 20000 in
theorem gX3_read_X3_isHurtAsOnSheet : GoodIn wsX3_read (wsV RX3 226 RX3 yX3_isHurtAsOnSheet wsX3_isHurtAsOnSheet) := goodIn_app (goodIn_of _ (by decide +kernel)) ggX3_read_X3_isHurtAsOnSheet
theorem dX3_read_0 : decode cX3_read 0 = .ok (.aload_n 0, 1) := by decide +kernel
theorem dX3_read_1 : decode cX3_read 1 = .ok (.iload_n 1, 1) := by decide +kernel
theorem dX3_read_2 : decode cX3_read 2 = .ok (.invokevirtual 196, 3) := by decide +kernel
theorem dX3_read_5 : decode cX3_read 5 = .ok (.istore 4, 2) := by decide +kernel
theorem dX3_read_7 : decode cX3_read 7 = .ok (.iload 4, 2) := by decide +kernel
theorem dX3_read_9 : decode cX3_read 9 = .ok (.ifCond .eq 10, 3) := by decide +kernel
theorem dX3_read_12 : decode cX3_read 12 = .ok (.aload_n 0, 1) := by decide +kernel
theorem dX3_read_13 : decode cX3_read 13 = .ok (.iload 4, 2) := by decide +kernel
theorem dX3_read_15 : decode cX3_read 15 = .ok (.invokevirtual 49, 3) := by decide +kernel
theorem dX3_read_18 : decode cX3_read 18 = .ok (.ireturn, 1) := by decide +kernel
theorem dX3_read_19 : decode cX3_read 19 = .ok (.aload_n 0, 1) := by decide +kernel
theorem dX3_read_20 : decode cX3_read 20 = .ok (.getfield 10, 3) := by decide +kernel
theorem dX3_read_23 : decode cX3_read 23 = .ok (.iload_n 2, 1) := by decide +kernel
theorem dX3_read_24 : decode cX3_read 24 = .ok (.invokevirtual 61, 3) := by decide +kernel
theorem dX3_read_27 : decode cX3_read 27 = .ok (.ifCond .eq 14, 3) := by decide +kernel
theorem dX3_read_30 : decode cX3_read 30 = .ok (.aload_n 0, 1) := by decide +kernel
theorem dX3_read_31 : decode cX3_read 31 = .ok (.getfield 10, 3) := by decide +kernel
theorem dX3_read_34 : decode cX3_read 34 = .ok (.iload_n 3, 1) := by decide +kernel
theorem dX3_read_35 : decode cX3_read 35 = .ok (.invokevirtual 100, 3) := by decide +kernel
theorem dX3_read_38 : decode cX3_read 38 = .ok (.ifCond .ne 10, 3) := by decide +kernel
theorem dX3_read_41 : decode cX3_read 41 = .ok (.aload_n 0, 1) := by decide +kernel
theorem dX3_read_42 : decode cX3_read 42 = .ok (.ldc 48, 2) := by decide +kernel
theorem dX3_read_44 : decode cX3_read 44 = .ok (.invokevirtual 49, 3) := by decide +kernel
theorem dX3_read_47 : decode cX3_read 47 = .ok (.ireturn, 1) := by decide +kernel
theorem dX3_read_48 : decode cX3_read 48 = .ok (.iconst 0, 1) := by decide +kernel
theorem dX3_read_49 : decode cX3_read 49 = .ok (.istore 5, 2) := by decide +kernel
theorem dX3_read_51 : decode cX3_read 51 = .ok (.iconst 0, 1) := by decide +kernel
theorem dX3_read_52 : decode cX3_read 52 = .ok (.istore 6, 2) := by decide +kernel
theorem dX3_read_54 : decode cX3_read 54 = .ok (.iload 6, 2) := by decide +kernel
theorem dX3_read_56 : decode cX3_read 56 = .ok (.bipush 6, 2) := by decide +kernel
theorem dX3_read_58 : decode cX3_read 58 = .ok (.if_icmp .ge 64, 3) := by decide +kernel
theorem dX3_read_61 : decode cX3_read 61 = .ok (.iconst 0, 1) := by decide +kernel
theorem dX3_read_62 : decode cX3_read 62 = .ok (.istore 7, 2) := by decide +kernel
theorem dX3_read_64 : decode cX3_read 64 = .ok (.iload 7, 2) := by decide +kernel
theorem dX3_read_66 : decode cX3_read 66 = .ok (.bipush 99, 2) := by decide +kernel
theorem dX3_read_68 : decode cX3_read 68 = .ok (.if_icmp .gt 48, 3) := by decide +kernel
theorem dX3_read_71 : decode cX3_read 71 = .ok (.aload_n 0, 1) := by decide +kernel
theorem dX3_read_72 : decode cX3_read 72 = .ok (.iconst 0, 1) := by decide +kernel
theorem dX3_read_73 : decode cX3_read 73 = .ok (.invokevirtual 148, 3) := by decide +kernel
theorem dX3_read_76 : decode cX3_read 76 = .ok (.aload_n 0, 1) := by decide +kernel
theorem dX3_read_77 : decode cX3_read 77 = .ok (.getfield 19, 3) := by decide +kernel
theorem dX3_read_80 : decode cX3_read 80 = .ok (.getfield 79, 3) := by decide +kernel
theorem dX3_read_83 : decode cX3_read 83 = .ok (.iload_n 2, 1) := by decide +kernel
theorem dX3_read_84 : decode cX3_read 84 = .ok (.iload 6, 2) := by decide +kernel
theorem dX3_read_86 : decode cX3_read 86 = .ok (.iastore, 1) := by decide +kernel
theorem dX3_read_87 : decode cX3_read 87 = .ok (.aload_n 0, 1) := by decide +kernel
theorem dX3_read_88 : decode cX3_read 88 = .ok (.getfield 19, 3) := by decide +kernel
theorem dX3_read_91 : decode cX3_read 91 = .ok (.getfield 112, 3) := by decide +kernel
theorem dX3_read_94 : decode cX3_read 94 = .ok (.iload_n 3, 1) := by decide +kernel
theorem dX3_read_95 : decode cX3_read 95 = .ok (.iload 7, 2) := by decide +kernel
theorem dX3_read_97 : decode cX3_read 97 = .ok (.iastore, 1) := by decide +kernel
theorem dX3_read_98 : decode cX3_read 98 = .ok (.aload_n 0, 1) := by decide +kernel
theorem dX3_read_99 : decode cX3_read 99 = .ok (.iload_n 2, 1) := by decide +kernel
theorem dX3_read_100 : decode cX3_read 100 = .ok (.iload_n 1, 1) := by decide +kernel
theorem dX3_read_101 : decode cX3_read 101 = .ok (.invokevirtual 226, 3) := by decide +kernel
theorem dX3_read_104 : decode cX3_read 104 = .ok (.ifCond .eq 6, 3) := by decide +kernel
theorem dX3_read_107 : decode cX3_read 107 = .ok (.iinc 5 1, 3) := by decide +kernel
theorem dX3_read_110 : decode cX3_read 110 = .ok (.iinc 7 1, 3) := by decide +kernel
theorem dX3_read_113 : decode cX3_read 113 = .ok (.goto (-49), 3) := by decide +kernel
theorem dX3_read_116 : decode cX3_read 116 = .ok (.iinc 6 1, 3) := by decide +kernel
theorem dX3_read_119 : decode cX3_read 119 = .ok (.goto (-65), 3) := by decide +kernel
theorem dX3_read_122 : decode cX3_read 122 = .ok (.iload 5, 2) := by decide +kernel
theorem dX3_read_124 : decode cX3_read 124 = .ok (.ireturn, 1) := by decide +kernel
set_option maxRecDepth 20000 in
theorem ggX3_image_X0_takeFrom : GoodIn wsX3_image wsX0_takeFrom := goodIn_r _ [8, 9, 10, 11, 12, 13, 14, 15, 16, 17, 18, 19, 20, 21, 22, 23, 24, 32, 33, 34, 35, 36, 37, 38, 39, 40, 41, 42, 43] rfl (by decide +kernel)
set_option maxRecDepth 20000 in
theorem gX3_image_X0_takeFrom : GoodIn wsX3_image (wsV RX3 182 RX0 yX0_takeFrom wsX0_takeFrom) := goodIn_app (goodIn_of _ (by decide +kernel)) ggX3_image_X0_takeFrom
theorem dX3_image_0 : decode cX3_image 0 = .ok (.aload_n 0, 1) := by decide +kernel
theorem dX3_image_1 : decode cX3_image 1 = .ok (.getfield 16, 3) := by decide +kernel
theorem dX3_image_4 : decode cX3_image 4 = .ok (.aload_n 0, 1) := by decide +kernel
theorem dX3_image_5 : decode cX3_image 5 = .ok (.getfield 10, 3) := by decide +kernel
theorem dX3_image_8 : decode cX3_image 8 = .ok (.invokevirtual 182, 3) := by decide +kernel
theorem dX3_image_11 : decode cX3_image 11 = .ok (.aload_n 0, 1) := by decide +kernel
theorem dX3_image_12 : decode cX3_image 12 = .ok (.iconst 1, 1) := by decide +kernel
theorem dX3_image_13 : decode cX3_image 13 = .ok (.putfield 40, 3) := by decide +kernel
theorem dX3_image_16 : decode cX3_image 16 = .ok (.iconst 1, 1) := by decide +kernel
theorem dX3_image_17 : decode cX3_image 17 = .ok (.ireturn, 1) := by decide +kernel
set_option maxRecDepth 20000 in
theorem ggX3_undo_X3_found : GoodIn wsX3_undo wsX3_found := goodIn_r _ [10, 11, 12, 13, 14, 9, 15, 37, 38, 39, 40, 41, 42, 43] rfl (by decide +kernel)
set_option maxRecDepth 20000 in
theorem gX3_undo_X3_found : GoodIn wsX3_undo (wsV RX3 49 RX3 yX3_found wsX3_found) := goodIn_app (goodIn_of _ (by decide +kernel)) ggX3_undo_X3_found
set_option maxRecDepth 20000 in
theorem ggX3_undo_X0_takeFrom : GoodIn wsX3_undo wsX0_takeFrom := goodIn_r _ [20, 21, 22, 23, 24, 25, 26, 27, 28, 29, 30, 31, 32, 33, 34, 35, 36, 44, 45, 46, 47, 48, 49, 50, 51, 52, 53, 54, 55] rfl (by decide +kernel)
set_option maxRecDepth 20000 in
theorem gX3_undo_X0_takeFrom : GoodIn wsX3_undo (wsV RX3 182 RX0 yX0_takeFrom wsX0_takeFrom) := goodIn_app (goodIn_of _ (by decide +kernel)) ggX3_undo_X0_takeFrom
theorem dX3_undo_0 : decode cX3_undo 0 = .ok (.aload_n 0, 1) := by decide +kernel
theorem dX3_undo_1 : decode cX3_undo 1 = .ok (.getfield 40, 3) := by decide +kernel
theorem dX3_undo_4 : decode cX3_undo 4 = .ok (.ifCond .ne 10, 3) := by decide +kernel
theorem dX3_undo_7 : decode cX3_undo 7 = .ok (.aload_n 0, 1) := by decide +kernel
theorem dX3_undo_8 : decode cX3_undo 8 = .ok (.ldc 157, 2) := by decide +kernel
theorem dX3_undo_10 : decode cX3_undo 10 = .ok (.invokevirtual 49, 3) := by decide +kernel
theorem dX3_undo_13 : decode cX3_undo 13 = .ok (.ireturn, 1) := by decide +kernel
theorem dX3_undo_14 : decode cX3_undo 14 = .ok (.aload_n 0, 1) := by decide +kernel
theorem dX3_undo_15 : decode cX3_undo 15 = .ok (.getfield 10, 3) := by decide +kernel
theorem dX3_undo_18 : decode cX3_undo 18 = .ok (.aload_n 0, 1) := by decide +kernel
theorem dX3_undo_19 : decode cX3_undo 19 = .ok (.getfield 16, 3) := by decide +kernel
theorem dX3_undo_22 : decode cX3_undo 22 = .ok (.invokevirtual 182, 3) := by decide +kernel
theorem dX3_undo_25 : decode cX3_undo 25 = .ok (.aload_n 0, 1) := by decide +kernel
theorem dX3_undo_26 : decode cX3_undo 26 = .ok (.getfield 10, 3) := by decide +kernel
theorem dX3_undo_29 : decode cX3_undo 29 = .ok (.getfield 53, 3) := by decide +kernel
theorem dX3_undo_32 : decode cX3_undo 32 = .ok (.ireturn, 1) := by decide +kernel
theorem dX3_tear_0 : decode cX3_tear 0 = .ok (.aload_n 0, 1) := by decide +kernel
theorem dX3_tear_1 : decode cX3_tear 1 = .ok (.getfield 40, 3) := by decide +kernel
theorem dX3_tear_4 : decode cX3_tear 4 = .ok (.ifCond .eq 7, 3) := by decide +kernel
theorem dX3_tear_7 : decode cX3_tear 7 = .ok (.iconst 1, 1) := by decide +kernel
theorem dX3_tear_8 : decode cX3_tear 8 = .ok (.goto 4, 3) := by decide +kernel
theorem dX3_tear_11 : decode cX3_tear 11 = .ok (.iconst 0, 1) := by decide +kernel
theorem dX3_tear_12 : decode cX3_tear 12 = .ok (.istore_n 1, 1) := by decide +kernel
theorem dX3_tear_13 : decode cX3_tear 13 = .ok (.aload_n 0, 1) := by decide +kernel
theorem dX3_tear_14 : decode cX3_tear 14 = .ok (.iconst 0, 1) := by decide +kernel
theorem dX3_tear_15 : decode cX3_tear 15 = .ok (.putfield 40, 3) := by decide +kernel
theorem dX3_tear_18 : decode cX3_tear 18 = .ok (.iload_n 1, 1) := by decide +kernel
theorem dX3_tear_19 : decode cX3_tear 19 = .ok (.ireturn, 1) := by decide +kernel
set_option maxRecDepth 20000 in
theorem ggX3_count_X0_weptOfAll : GoodIn wsX3_count wsX0_weptOfAll := goodIn_r _ [11, 12, 13, 14, 15, 10, 16, 33, 34, 35, 36, 37, 38, 39, 40, 41, 42, 43, 44] rfl (by decide +kernel)
set_option maxRecDepth 20000 in
theorem gX3_count_X0_weptOfAll : GoodIn wsX3_count (wsV RX3 229 RX0 yX0_weptOfAll wsX0_weptOfAll) := goodIn_app (goodIn_of _ (by decide +kernel)) ggX3_count_X0_weptOfAll
set_option maxRecDepth 20000 in
theorem ggX3_count_X3_found : GoodIn wsX3_count wsX3_found := goodIn_r _ [21, 6, 22, 23, 24, 20, 25, 26, 27, 28, 29, 30, 31, 32] rfl (by decide +kernel)
set_option maxRecDepth 20000 in
theorem gX3_count_X3_found : GoodIn wsX3_count (wsV RX3 49 RX3 yX3_found wsX3_found) := goodIn_app (goodIn_of _ (by decide +kernel)) ggX3_count_X3_found
theorem dX3_count_0 : decode cX3_count 0 = .ok (.iload_n 1, 1) := by decide +kernel
theorem dX3_count_1 : decode cX3_count 1 = .ok (.tableswitch 63 0 3 #[31, 39, 47, 55], 31) := by decide +kernel
theorem dX3_count_32 : decode cX3_count 32 = .ok (.aload_n 0, 1) := by decide +kernel
theorem dX3_count_33 : decode cX3_count 33 = .ok (.getfield 10, 3) := by decide +kernel
theorem dX3_count_36 : decode cX3_count 36 = .ok (.getfield 53, 3) := by decide +kernel
theorem dX3_count_39 : decode cX3_count 39 = .ok (.ireturn, 1) := by decide +kernel
theorem dX3_count_40 : decode cX3_count 40 = .ok (.aload_n 0, 1) := by decide +kernel
theorem dX3_count_41 : decode cX3_count 41 = .ok (.getfield 10, 3) := by decide +kernel
theorem dX3_count_44 : decode cX3_count 44 = .ok (.getfield 93, 3) := by decide +kernel
theorem dX3_count_47 : decode cX3_count 47 = .ok (.ireturn, 1) := by decide +kernel
theorem dX3_count_48 : decode cX3_count 48 = .ok (.aload_n 0, 1) := by decide +kernel
theorem dX3_count_49 : decode cX3_count 49 = .ok (.getfield 25, 3) := by decide +kernel
theorem dX3_count_52 : decode cX3_count 52 = .ok (.getfield 168, 3) := by decide +kernel
theorem dX3_count_55 : decode cX3_count 55 = .ok (.ireturn, 1) := by decide +kernel
theorem dX3_count_56 : decode cX3_count 56 = .ok (.aload_n 0, 1) := by decide +kernel
theorem dX3_count_57 : decode cX3_count 57 = .ok (.getfield 10, 3) := by decide +kernel
theorem dX3_count_60 : decode cX3_count 60 = .ok (.invokevirtual 229, 3) := by decide +kernel
theorem dX3_count_63 : decode cX3_count 63 = .ok (.ireturn, 1) := by decide +kernel
theorem dX3_count_64 : decode cX3_count 64 = .ok (.aload_n 0, 1) := by decide +kernel
theorem dX3_count_65 : decode cX3_count 65 = .ok (.ldc 48, 2) := by decide +kernel
theorem dX3_count_67 : decode cX3_count 67 = .ok (.invokevirtual 49, 3) := by decide +kernel
theorem dX3_count_70 : decode cX3_count 70 = .ok (.ireturn, 1) := by decide +kernel
set_option maxRecDepth 20000 in
theorem ggX3_status_X3_isWithin : GoodIn wsX3_status wsX3_isWithin := goodIn_r _ [6] rfl (by decide +kernel)
set_option maxRecDepth 20000 in
theorem gX3_status_X3_isWithin : GoodIn wsX3_status (va_wsS RX3 44 yX3_isWithin wsX3_isWithin) := goodIn_app (goodIn_of _ (by decide +kernel)) ggX3_status_X3_isWithin
set_option maxRecDepth 20000 in
theorem ggX3_status_X3_found : GoodIn wsX3_status wsX3_found := goodIn_r _ [10, 1, 2, 3, 4, 5, 6, 11, 12, 13, 14, 15, 16, 17] rfl (by decide +kernel)
set_option maxRecDepth 20000 in
theorem gX3_status_X3_found : GoodIn wsX3_status (wsV RX3 49 RX3 yX3_found wsX3_found) := goodIn_app (goodIn_of _ (by decide +kernel)) ggX3_status_X3_found
theorem dX3_status_0 : decode cX3_status 0 = .ok (.iload_n 1, 1) := by decide +kernel
theorem dX3_status_1 : decode cX3_status 1 = .ok (.iconst (-1), 1) := by decide +kernel
theorem dX3_status_2 : decode cX3_status 2 = .ok (.bipush 6, 2) := by decide +kernel
theorem dX3_status_4 : decode cX3_status 4 = .ok (.invokestatic 44, 3) := by decide +kernel
theorem dX3_status_7 : decode cX3_status 7 = .ok (.ifCond .ne 10, 3) := by decide +kernel
theorem dX3_status_10 : decode cX3_status 10 = .ok (.aload_n 0, 1) := by decide +kernel
theorem dX3_status_11 : decode cX3_status 11 = .ok (.ldc 48, 2) := by decide +kernel
theorem dX3_status_13 : decode cX3_status 13 = .ok (.invokevirtual 49, 3) := by decide +kernel
theorem dX3_status_16 : decode cX3_status 16 = .ok (.ireturn, 1) := by decide +kernel
theorem dX3_status_17 : decode cX3_status 17 = .ok (.iload_n 1, 1) := by decide +kernel
theorem dX3_status_18 : decode cX3_status 18 = .ok (.ifCond .lt 10, 3) := by decide +kernel
theorem dX3_status_21 : decode cX3_status 21 = .ok (.aload_n 0, 1) := by decide +kernel
theorem dX3_status_22 : decode cX3_status 22 = .ok (.getfield 36, 3) := by decide +kernel
theorem dX3_status_25 : decode cX3_status 25 = .ok (.iload_n 1, 1) := by decide +kernel
theorem dX3_status_26 : decode cX3_status 26 = .ok (.iaload, 1) := by decide +kernel
theorem dX3_status_27 : decode cX3_status 27 = .ok (.ireturn, 1) := by decide +kernel
theorem dX3_status_28 : decode cX3_status 28 = .ok (.iconst 0, 1) := by decide +kernel
theorem dX3_status_29 : decode cX3_status 29 = .ok (.istore_n 2, 1) := by decide +kernel
theorem dX3_status_30 : decode cX3_status 30 = .ok (.iconst 0, 1) := by decide +kernel
theorem dX3_status_31 : decode cX3_status 31 = .ok (.istore_n 3, 1) := by decide +kernel
theorem dX3_status_32 : decode cX3_status 32 = .ok (.iload_n 3, 1) := by decide +kernel
theorem dX3_status_33 : decode cX3_status 33 = .ok (.bipush 7, 2) := by decide +kernel
theorem dX3_status_35 : decode cX3_status 35 = .ok (.if_icmp .ge 18, 3) := by decide +kernel
theorem dX3_status_38 : decode cX3_status 38 = .ok (.iload_n 2, 1) := by decide +kernel
theorem dX3_status_39 : decode cX3_status 39 = .ok (.aload_n 0, 1) := by decide +kernel
theorem dX3_status_40 : decode cX3_status 40 = .ok (.getfield 36, 3) := by decide +kernel
theorem dX3_status_43 : decode cX3_status 43 = .ok (.iload_n 3, 1) := by decide +kernel
theorem dX3_status_44 : decode cX3_status 44 = .ok (.iaload, 1) := by decide +kernel
theorem dX3_status_45 : decode cX3_status 45 = .ok (.iadd, 1) := by decide +kernel
theorem dX3_status_46 : decode cX3_status 46 = .ok (.istore_n 2, 1) := by decide +kernel
theorem dX3_status_47 : decode cX3_status 47 = .ok (.iinc 3 1, 3) := by decide +kernel
theorem dX3_status_50 : decode cX3_status 50 = .ok (.goto (-18), 3) := by decide +kernel
theorem dX3_status_53 : decode cX3_status 53 = .ok (.iload_n 2, 1) := by decide +kernel
theorem dX3_status_54 : decode cX3_status 54 = .ok (.ireturn, 1) := by decide +kernel
theorem dX3_isWithin_0 : decode cX3_isWithin 0 = .ok (.iload_n 0, 1) := by decide +kernel
theorem dX3_isWithin_1 : decode cX3_isWithin 1 = .ok (.iload_n 1, 1) := by decide +kernel
theorem dX3_isWithin_2 : decode cX3_isWithin 2 = .ok (.if_icmp .lt 12, 3) := by decide +kernel
theorem dX3_isWithin_5 : decode cX3_isWithin 5 = .ok (.iload_n 0, 1) := by decide +kernel
theorem dX3_isWithin_6 : decode cX3_isWithin 6 = .ok (.iload_n 2, 1) := by decide +kernel
theorem dX3_isWithin_7 : decode cX3_isWithin 7 = .ok (.if_icmp .gt 7, 3) := by decide +kernel
theorem dX3_isWithin_10 : decode cX3_isWithin 10 = .ok (.iconst 1, 1) := by decide +kernel
theorem dX3_isWithin_11 : decode cX3_isWithin 11 = .ok (.goto 4, 3) := by decide +kernel
theorem dX3_isWithin_14 : decode cX3_isWithin 14 = .ok (.iconst 0, 1) := by decide +kernel
theorem dX3_isWithin_15 : decode cX3_isWithin 15 = .ok (.ireturn, 1) := by decide +kernel
theorem dX3_exchange_0 : decode cX3_exchange 0 = .ok (.aload_n 0, 1) := by decide +kernel
theorem dX3_exchange_1 : decode cX3_exchange 1 = .ok (.iload_n 1, 1) := by decide +kernel
theorem dX3_exchange_2 : decode cX3_exchange 2 = .ok (.iaload, 1) := by decide +kernel
theorem dX3_exchange_3 : decode cX3_exchange 3 = .ok (.istore_n 3, 1) := by decide +kernel
theorem dX3_exchange_4 : decode cX3_exchange 4 = .ok (.aload_n 0, 1) := by decide +kernel
theorem dX3_exchange_5 : decode cX3_exchange 5 = .ok (.iload_n 1, 1) := by decide +kernel
theorem dX3_exchange_6 : decode cX3_exchange 6 = .ok (.iload_n 2, 1) := by decide +kernel
theorem dX3_exchange_7 : decode cX3_exchange 7 = .ok (.iastore, 1) := by decide +kernel
theorem dX3_exchange_8 : decode cX3_exchange 8 = .ok (.iload_n 3, 1) := by decide +kernel
theorem dX3_exchange_9 : decode cX3_exchange 9 = .ok (.ireturn, 1) := by decide +kernel
set_option maxRecDepth 20000 in
theorem ggX3_found_X3_isWithin : GoodIn wsX3_found wsX3_isWithin := goodIn_r _ [6] rfl (by decide +kernel)
set_option maxRecDepth 20000 in
theorem gX3_found_X3_isWithin : GoodIn wsX3_found (va_wsS RX3 44 yX3_isWithin wsX3_isWithin) := goodIn_app (goodIn_of _ (by decide +kernel)) ggX3_found_X3_isWithin
theorem dX3_found_0 : decode cX3_found 0 = .ok (.ldc 48, 2) := by decide +kernel
theorem dX3_found_2 : decode cX3_found 2 = .ok (.iload_n 1, 1) := by decide +kernel
theorem dX3_found_3 : decode cX3_found 3 = .ok (.isub, 1) := by decide +kernel
theorem dX3_found_4 : decode cX3_found 4 = .ok (.istore_n 2, 1) := by decide +kernel
theorem dX3_found_5 : decode cX3_found 5 = .ok (.iload_n 2, 1) := by decide +kernel
theorem dX3_found_6 : decode cX3_found 6 = .ok (.iconst 0, 1) := by decide +kernel
theorem dX3_found_7 : decode cX3_found 7 = .ok (.bipush 6, 2) := by decide +kernel
theorem dX3_found_9 : decode cX3_found 9 = .ok (.invokestatic 44, 3) := by decide +kernel
theorem dX3_found_12 : decode cX3_found 12 = .ok (.ifCond .eq 13, 3) := by decide +kernel
theorem dX3_found_15 : decode cX3_found 15 = .ok (.aload_n 0, 1) := by decide +kernel
theorem dX3_found_16 : decode cX3_found 16 = .ok (.getfield 36, 3) := by decide +kernel
theorem dX3_found_19 : decode cX3_found 19 = .ok (.iload_n 2, 1) := by decide +kernel
theorem dX3_found_20 : decode cX3_found 20 = .ok (.dup2, 1) := by decide +kernel
theorem dX3_found_21 : decode cX3_found 21 = .ok (.iaload, 1) := by decide +kernel
theorem dX3_found_22 : decode cX3_found 22 = .ok (.iconst 1, 1) := by decide +kernel
theorem dX3_found_23 : decode cX3_found 23 = .ok (.iadd, 1) := by decide +kernel
theorem dX3_found_24 : decode cX3_found 24 = .ok (.iastore, 1) := by decide +kernel
theorem dX3_found_25 : decode cX3_found 25 = .ok (.iload_n 1, 1) := by decide +kernel
theorem dX3_found_26 : decode cX3_found 26 = .ok (.ireturn, 1) := by decide +kernel
set_option maxRecDepth 20000 in
theorem ggX3_findingOfSheet_X1_isOne : GoodIn wsX3_findingOfSheet wsX1_isOne := goodIn_r _ [7] rfl (by decide +kernel)
set_option maxRecDepth 20000 in
theorem gX3_findingOfSheet_X1_isOne : GoodIn wsX3_findingOfSheet (va_wsS RX3 186 yX1_isOne wsX1_isOne) := goodIn_app (goodIn_of _ (by decide +kernel)) ggX3_findingOfSheet_X1_isOne
set_option maxRecDepth 20000 in
theorem ggX3_findingOfSheet_X1_isMissing : GoodIn wsX3_findingOfSheet wsX1_isMissing := goodIn_r _ [11, 12, 20, 21, 22] rfl (by decide +kernel)
set_option maxRecDepth 20000 in
theorem gX3_findingOfSheet_X1_isMissing : GoodIn wsX3_findingOfSheet (wsV RX3 210 RX1 yX1_isMissing wsX1_isMissing) := goodIn_app (goodIn_of _ (by decide +kernel)) ggX3_findingOfSheet_X1_isMissing
theorem dX3_findingOfSheet_0 : decode cX3_findingOfSheet 0 = .ok (.iload_n 1, 1) := by decide +kernel
theorem dX3_findingOfSheet_1 : decode cX3_findingOfSheet 1 = .ok (.invokestatic 186, 3) := by decide +kernel
theorem dX3_findingOfSheet_4 : decode cX3_findingOfSheet 4 = .ok (.ifCond .ne 6, 3) := by decide +kernel
theorem dX3_findingOfSheet_7 : decode cX3_findingOfSheet 7 = .ok (.ldc 48, 2) := by decide +kernel
theorem dX3_findingOfSheet_9 : decode cX3_findingOfSheet 9 = .ok (.ireturn, 1) := by decide +kernel
theorem dX3_findingOfSheet_10 : decode cX3_findingOfSheet 10 = .ok (.aload_n 0, 1) := by decide +kernel
theorem dX3_findingOfSheet_11 : decode cX3_findingOfSheet 11 = .ok (.getfield 32, 3) := by decide +kernel
theorem dX3_findingOfSheet_14 : decode cX3_findingOfSheet 14 = .ok (.iload_n 1, 1) := by decide +kernel
theorem dX3_findingOfSheet_15 : decode cX3_findingOfSheet 15 = .ok (.invokevirtual 210, 3) := by decide +kernel
theorem dX3_findingOfSheet_18 : decode cX3_findingOfSheet 18 = .ok (.ifCond .eq 8, 3) := by decide +kernel
theorem dX3_findingOfSheet_21 : decode cX3_findingOfSheet 21 = .ok (.ldc 213, 2) := by decide +kernel
theorem dX3_findingOfSheet_23 : decode cX3_findingOfSheet 23 = .ok (.goto 4, 3) := by decide +kernel
theorem dX3_findingOfSheet_26 : decode cX3_findingOfSheet 26 = .ok (.iconst 0, 1) := by decide +kernel
theorem dX3_findingOfSheet_27 : decode cX3_findingOfSheet 27 = .ok (.ireturn, 1) := by decide +kernel
set_option maxRecDepth 20000 in
theorem ggX3_foresee_X0_takeFrom : GoodIn wsX3_foresee wsX0_takeFrom := goodIn_r _ [7, 8, 9, 10, 11, 12, 13, 14, 15, 16, 17, 18, 19, 20, 21, 22, 23, 75, 76, 77, 78, 79, 80, 81, 82, 83, 84, 85, 86] rfl (by decide +kernel)
set_option maxRecDepth 20000 in
theorem gX3_foresee_X0_takeFrom : GoodIn wsX3_foresee (wsV RX3 182 RX0 yX0_takeFrom wsX0_takeFrom) := goodIn_app (goodIn_of _ (by decide +kernel)) ggX3_foresee_X0_takeFrom
set_option maxRecDepth 20000 in
theorem ggX3_foresee_X0_goOn : GoodIn wsX3_foresee wsX0_goOn := goodIn_r _ [27, 28, 29, 30, 6, 31, 23, 8, 32, 33, 34, 35, 19, 36, 37, 38, 39, 9, 20, 16, 21, 40, 41, 42, 43, 22, 10, 15, 44, 45, 46, 47, 48, 49, 50, 51, 52, 53, 54, 55, 56, 57, 58, 17, 59, 60, 61, 62, 63, 64, 65, 66, 67, 18, 75, 76, 77, 78, 79, 80, 81, 82, 83, 84, 85, 86] rfl (by decide +kernel)
set_option maxRecDepth 20000 in
theorem gX3_foresee_X0_goOn : GoodIn wsX3_foresee (wsV RX3 131 RX0 yX0_goOn wsX0_goOn) := goodIn_app (goodIn_of _ (by decide +kernel)) ggX3_foresee_X0_goOn
theorem dX3_foresee_0 : decode cX3_foresee 0 = .ok (.aload_n 0, 1) := by decide +kernel
theorem dX3_foresee_1 : decode cX3_foresee 1 = .ok (.getfield 19, 3) := by decide +kernel
theorem dX3_foresee_4 : decode cX3_foresee 4 = .ok (.aload_n 0, 1) := by decide +kernel
theorem dX3_foresee_5 : decode cX3_foresee 5 = .ok (.getfield 10, 3) := by decide +kernel
theorem dX3_foresee_8 : decode cX3_foresee 8 = .ok (.invokevirtual 182, 3) := by decide +kernel
theorem dX3_foresee_11 : decode cX3_foresee 11 = .ok (.aload_n 0, 1) := by decide +kernel
theorem dX3_foresee_12 : decode cX3_foresee 12 = .ok (.getfield 19, 3) := by decide +kernel
theorem dX3_foresee_15 : decode cX3_foresee 15 = .ok (.iload_n 1, 1) := by decide +kernel
theorem dX3_foresee_16 : decode cX3_foresee 16 = .ok (.invokevirtual 131, 3) := by decide +kernel
theorem dX3_foresee_19 : decode cX3_foresee 19 = .ok (.return_, 1) := by decide +kernel
set_option maxRecDepth 20000 in
theorem ggX3_hurtIf_X0_takeFrom : GoodIn wsX3_hurtIf wsX0_takeFrom := goodIn_r _ [8, 9, 10, 11, 12, 13, 14, 15, 16, 17, 18, 19, 20, 21, 22, 23, 24, 87, 88, 89, 90, 91, 92, 93, 94, 95, 96, 97, 98] rfl (by decide +kernel)
set_option maxRecDepth 20000 in
theorem gX3_hurtIf_X0_takeFrom : GoodIn wsX3_hurtIf (wsV RX3 182 RX0 yX0_takeFrom wsX0_takeFrom) := goodIn_app (goodIn_of _ (by decide +kernel)) ggX3_hurtIf_X0_takeFrom
set_option maxRecDepth 20000 in
theorem ggX3_hurtIf_X0_alter : GoodIn wsX3_hurtIf wsX0_alter := goodIn_r _ [28, 22, 23, 11, 16, 17, 24, 87, 88, 89, 90, 91, 92, 93, 94, 95, 96, 97, 98] rfl (by decide +kernel)
set_option maxRecDepth 20000 in
theorem gX3_hurtIf_X0_alter : GoodIn wsX3_hurtIf (wsV RX3 232 RX0 yX0_alter wsX0_alter) := goodIn_app (goodIn_of _ (by decide +kernel)) ggX3_hurtIf_X0_alter
set_option maxRecDepth 20000 in
theorem ggX3_hurtIf_X0_goOn : GoodIn wsX3_hurtIf wsX0_goOn := goodIn_r _ [32, 33, 34, 35, 7, 36, 24, 9, 37, 38, 39, 40, 20, 41, 42, 43, 44, 10, 21, 17, 22, 45, 46, 47, 48, 23, 11, 16, 49, 50, 51, 52, 53, 54, 55, 56, 57, 58, 59, 60, 61, 62, 63, 18, 64, 65, 66, 67, 68, 69, 70, 71, 72, 19, 87, 88, 89, 90, 91, 92, 93, 94, 95, 96, 97, 98] rfl (by decide +kernel)
set_option maxRecDepth 20000 in
theorem gX3_hurtIf_X0_goOn : GoodIn wsX3_hurtIf (wsV RX3 131 RX0 yX0_goOn wsX0_goOn) := goodIn_app (goodIn_of _ (by decide +kernel)) ggX3_hurtIf_X0_goOn
set_option maxRecDepth 20000 in
theorem ggX3_hurtIf_X0_hurtOfAll : GoodIn wsX3_hurtIf wsX0_hurtOfAll := goodIn_r _ [76, 18, 10, 77, 78, 7, 79, 87, 88, 89, 90, 91, 92, 93, 94, 95, 96, 97, 98] rfl (by decide +kernel)
set_option maxRecDepth 20000 in
theorem gX3_hurtIf_X0_hurtOfAll : GoodIn wsX3_hurtIf (wsV RX3 135 RX0 yX0_hurtOfAll wsX0_hurtOfAll) := goodIn_app (goodIn_of _ (by decide +kernel)) ggX3_hurtIf_X0_hurtOfAll
theorem dX3_hurtIf_0 : decode cX3_hurtIf 0 = .ok (.aload_n 0, 1) := by decide +kernel
theorem dX3_hurtIf_1 : decode cX3_hurtIf 1 = .ok (.getfield 19, 3) := by decide +kernel
theorem dX3_hurtIf_4 : decode cX3_hurtIf 4 = .ok (.aload_n 0, 1) := by decide +kernel
theorem dX3_hurtIf_5 : decode cX3_hurtIf 5 = .ok (.getfield 10, 3) := by decide +kernel
theorem dX3_hurtIf_8 : decode cX3_hurtIf 8 = .ok (.invokevirtual 182, 3) := by decide +kernel
theorem dX3_hurtIf_11 : decode cX3_hurtIf 11 = .ok (.aload_n 0, 1) := by decide +kernel
theorem dX3_hurtIf_12 : decode cX3_hurtIf 12 = .ok (.getfield 19, 3) := by decide +kernel
theorem dX3_hurtIf_15 : decode cX3_hurtIf 15 = .ok (.iload_n 1, 1) := by decide +kernel
theorem dX3_hurtIf_16 : decode cX3_hurtIf 16 = .ok (.iload_n 2, 1) := by decide +kernel
theorem dX3_hurtIf_17 : decode cX3_hurtIf 17 = .ok (.iload_n 3, 1) := by decide +kernel
theorem dX3_hurtIf_18 : decode cX3_hurtIf 18 = .ok (.invokevirtual 232, 3) := by decide +kernel
theorem dX3_hurtIf_21 : decode cX3_hurtIf 21 = .ok (.aload_n 0, 1) := by decide +kernel
theorem dX3_hurtIf_22 : decode cX3_hurtIf 22 = .ok (.getfield 19, 3) := by decide +kernel
theorem dX3_hurtIf_25 : decode cX3_hurtIf 25 = .ok (.iload 5, 2) := by decide +kernel
theorem dX3_hurtIf_27 : decode cX3_hurtIf 27 = .ok (.invokevirtual 131, 3) := by decide +kernel
theorem dX3_hurtIf_30 : decode cX3_hurtIf 30 = .ok (.iload 4, 2) := by decide +kernel
theorem dX3_hurtIf_32 : decode cX3_hurtIf 32 = .ok (.iconst (-1), 1) := by decide +kernel
theorem dX3_hurtIf_33 : decode cX3_hurtIf 33 = .ok (.if_icmp .ne 13, 3) := by decide +kernel
theorem dX3_hurtIf_36 : decode cX3_hurtIf 36 = .ok (.aload_n 0, 1) := by decide +kernel
theorem dX3_hurtIf_37 : decode cX3_hurtIf 37 = .ok (.getfield 19, 3) := by decide +kernel
theorem dX3_hurtIf_40 : decode cX3_hurtIf 40 = .ok (.invokevirtual 135, 3) := by decide +kernel
theorem dX3_hurtIf_43 : decode cX3_hurtIf 43 = .ok (.goto 13, 3) := by decide +kernel
theorem dX3_hurtIf_46 : decode cX3_hurtIf 46 = .ok (.aload_n 0, 1) := by decide +kernel
theorem dX3_hurtIf_47 : decode cX3_hurtIf 47 = .ok (.getfield 19, 3) := by decide +kernel
theorem dX3_hurtIf_50 : decode cX3_hurtIf 50 = .ok (.getfield 87, 3) := by decide +kernel
theorem dX3_hurtIf_53 : decode cX3_hurtIf 53 = .ok (.iload 4, 2) := by decide +kernel
theorem dX3_hurtIf_55 : decode cX3_hurtIf 55 = .ok (.iaload, 1) := by decide +kernel
theorem dX3_hurtIf_56 : decode cX3_hurtIf 56 = .ok (.ireturn, 1) := by decide +kernel
set_option maxRecDepth 20000 in
theorem ggX3_leastHurting_X3_hurtIf : GoodIn wsX3_leastHurting wsX3_hurtIf := goodIn_r _ [5, 6, 7, 8, 9, 10, 11, 12, 13, 14, 15, 16, 17, 18, 19, 20, 21, 22, 23, 24, 25, 26, 27, 28, 29, 30, 31, 32, 33, 34, 35, 36, 37, 38, 39, 40, 41, 42, 43, 44, 45, 46, 47, 48, 49, 50, 51, 52, 53, 54, 55, 56, 57, 58, 59, 60, 61, 62, 63, 64, 65, 66, 67, 68, 69, 70, 71, 72, 73, 74, 75, 76, 77, 78, 79, 80, 81, 82, 83, 84, 85, 86, 87, 88, 89, 90, 91, 92, 93, 94, 95, 96, 97, 98, 99, 100, 101, 102, 103] rfl (by decide +kernel)
set_option maxRecDepth 20000 in
theorem gX3_leastHurting_X3_hurtIf : GoodIn wsX3_leastHurting (wsV RX3 162 RX3 yX3_hurtIf wsX3_hurtIf) := goodIn_app (goodIn_of _ (by decide +kernel)) ggX3_leastHurting_X3_hurtIf
theorem dX3_leastHurting_0 : decode cX3_leastHurting 0 = .ok (.iconst 0, 1) := by decide +kernel
theorem dX3_leastHurting_1 : decode cX3_leastHurting 1 = .ok (.istore 6, 2) := by decide +kernel
theorem dX3_leastHurting_3 : decode cX3_leastHurting 3 = .ok (.aload_n 0, 1) := by decide +kernel
theorem dX3_leastHurting_4 : decode cX3_leastHurting 4 = .ok (.iload_n 1, 1) := by decide +kernel
theorem dX3_leastHurting_5 : decode cX3_leastHurting 5 = .ok (.iload_n 2, 1) := by decide +kernel
theorem dX3_leastHurting_6 : decode cX3_leastHurting 6 = .ok (.iconst 0, 1) := by decide +kernel
theorem dX3_leastHurting_7 : decode cX3_leastHurting 7 = .ok (.iload 4, 2) := by decide +kernel
theorem dX3_leastHurting_9 : decode cX3_leastHurting 9 = .ok (.iload 5, 2) := by decide +kernel
theorem dX3_leastHurting_11 : decode cX3_leastHurting 11 = .ok (.invokevirtual 162, 3) := by decide +kernel
theorem dX3_leastHurting_14 : decode cX3_leastHurting 14 = .ok (.istore 7, 2) := by decide +kernel
theorem dX3_leastHurting_16 : decode cX3_leastHurting 16 = .ok (.iconst 1, 1) := by decide +kernel
theorem dX3_leastHurting_17 : decode cX3_leastHurting 17 = .ok (.istore 8, 2) := by decide +kernel
theorem dX3_leastHurting_19 : decode cX3_leastHurting 19 = .ok (.iload 8, 2) := by decide +kernel
theorem dX3_leastHurting_21 : decode cX3_leastHurting 21 = .ok (.iload_n 3, 1) := by decide +kernel
theorem dX3_leastHurting_22 : decode cX3_leastHurting 22 = .ok (.if_icmp .ge 38, 3) := by decide +kernel
theorem dX3_leastHurting_25 : decode cX3_leastHurting 25 = .ok (.aload_n 0, 1) := by decide +kernel
theorem dX3_leastHurting_26 : decode cX3_leastHurting 26 = .ok (.iload_n 1, 1) := by decide +kernel
theorem dX3_leastHurting_27 : decode cX3_leastHurting 27 = .ok (.iload_n 2, 1) := by decide +kernel
theorem dX3_leastHurting_28 : decode cX3_leastHurting 28 = .ok (.iload 8, 2) := by decide +kernel
theorem dX3_leastHurting_30 : decode cX3_leastHurting 30 = .ok (.iload 4, 2) := by decide +kernel
theorem dX3_leastHurting_32 : decode cX3_leastHurting 32 = .ok (.iload 5, 2) := by decide +kernel
theorem dX3_leastHurting_34 : decode cX3_leastHurting 34 = .ok (.invokevirtual 162, 3) := by decide +kernel
theorem dX3_leastHurting_37 : decode cX3_leastHurting 37 = .ok (.istore 9, 2) := by decide +kernel
theorem dX3_leastHurting_39 : decode cX3_leastHurting 39 = .ok (.iload 9, 2) := by decide +kernel
theorem dX3_leastHurting_41 : decode cX3_leastHurting 41 = .ok (.iload 7, 2) := by decide +kernel
theorem dX3_leastHurting_43 : decode cX3_leastHurting 43 = .ok (.if_icmp .ge 11, 3) := by decide +kernel
theorem dX3_leastHurting_46 : decode cX3_leastHurting 46 = .ok (.iload 9, 2) := by decide +kernel
theorem dX3_leastHurting_48 : decode cX3_leastHurting 48 = .ok (.istore 7, 2) := by decide +kernel
theorem dX3_leastHurting_50 : decode cX3_leastHurting 50 = .ok (.iload 8, 2) := by decide +kernel
theorem dX3_leastHurting_52 : decode cX3_leastHurting 52 = .ok (.istore 6, 2) := by decide +kernel
theorem dX3_leastHurting_54 : decode cX3_leastHurting 54 = .ok (.iinc 8 1, 3) := by decide +kernel
theorem dX3_leastHurting_57 : decode cX3_leastHurting 57 = .ok (.goto (-38), 3) := by decide +kernel
theorem dX3_leastHurting_60 : decode cX3_leastHurting 60 = .ok (.iload 6, 2) := by decide +kernel
theorem dX3_leastHurting_62 : decode cX3_leastHurting 62 = .ok (.ireturn, 1) := by decide +kernel
set_option maxRecDepth 20000 in
theorem ggX3_isHurtAsOnSheet_X1_numberAt : GoodIn wsX3_isHurtAsOnSheet wsX1_numberAt := goodIn_r _ [9, 10, 71, 72, 73] rfl (by decide +kernel)
set_option maxRecDepth 20000 in
theorem gX3_isHurtAsOnSheet_X1_numberAt : GoodIn wsX3_isHurtAsOnSheet (wsV RX3 202 RX1 yX1_numberAt wsX1_numberAt) := goodIn_app (goodIn_of _ (by decide +kernel)) ggX3_isHurtAsOnSheet_X1_numberAt
set_option maxRecDepth 20000 in
theorem ggX3_isHurtAsOnSheet_X0_goOne : GoodIn wsX3_isHurtAsOnSheet wsX0_goOne := goodIn_r _ [15, 16, 17, 18, 19, 20, 14, 21, 22, 23, 24, 25, 26, 27, 28, 29, 30, 31, 32, 33, 34, 35, 36, 37, 38, 39, 40, 41, 42, 43, 44, 45, 46, 47, 48, 49, 50, 51, 52, 53, 54, 55, 56, 57, 58, 59, 60, 61, 62, 63, 74, 75, 76, 77, 78, 79, 80, 81, 82, 83, 84, 85] rfl (by decide +kernel)
set_option maxRecDepth 20000 in
theorem gX3_isHurtAsOnSheet_X0_goOne : GoodIn wsX3_isHurtAsOnSheet (wsV RX3 154 RX0 yX0_goOne wsX0_goOne) := goodIn_app (goodIn_of _ (by decide +kernel)) ggX3_isHurtAsOnSheet_X0_goOne
theorem dX3_isHurtAsOnSheet_0 : decode cX3_isHurtAsOnSheet 0 = .ok (.iconst 0, 1) := by decide +kernel
theorem dX3_isHurtAsOnSheet_1 : decode cX3_isHurtAsOnSheet 1 = .ok (.istore_n 3, 1) := by decide +kernel
theorem dX3_isHurtAsOnSheet_2 : decode cX3_isHurtAsOnSheet 2 = .ok (.iload_n 3, 1) := by decide +kernel
theorem dX3_isHurtAsOnSheet_3 : decode cX3_isHurtAsOnSheet 3 = .ok (.aload_n 0, 1) := by decide +kernel
theorem dX3_isHurtAsOnSheet_4 : decode cX3_isHurtAsOnSheet 4 = .ok (.getfield 32, 3) := by decide +kernel
theorem dX3_isHurtAsOnSheet_7 : decode cX3_isHurtAsOnSheet 7 = .ok (.getfield 199, 3) := by decide +kernel
theorem dX3_isHurtAsOnSheet_10 : decode cX3_isHurtAsOnSheet 10 = .ok (.iload_n 2, 1) := by decide +kernel
theorem dX3_isHurtAsOnSheet_11 : decode cX3_isHurtAsOnSheet 11 = .ok (.iaload, 1) := by decide +kernel
theorem dX3_isHurtAsOnSheet_12 : decode cX3_isHurtAsOnSheet 12 = .ok (.if_icmp .ge 42, 3) := by decide +kernel
theorem dX3_isHurtAsOnSheet_15 : decode cX3_isHurtAsOnSheet 15 = .ok (.aload_n 0, 1) := by decide +kernel
theorem dX3_isHurtAsOnSheet_16 : decode cX3_isHurtAsOnSheet 16 = .ok (.getfield 19, 3) := by decide +kernel
theorem dX3_isHurtAsOnSheet_19 : decode cX3_isHurtAsOnSheet 19 = .ok (.getfield 87, 3) := by decide +kernel
theorem dX3_isHurtAsOnSheet_22 : decode cX3_isHurtAsOnSheet 22 = .ok (.iload_n 1, 1) := by decide +kernel
theorem dX3_isHurtAsOnSheet_23 : decode cX3_isHurtAsOnSheet 23 = .ok (.iaload, 1) := by decide +kernel
theorem dX3_isHurtAsOnSheet_24 : decode cX3_isHurtAsOnSheet 24 = .ok (.i2l, 1) := by decide +kernel
theorem dX3_isHurtAsOnSheet_25 : decode cX3_isHurtAsOnSheet 25 = .ok (.aload_n 0, 1) := by decide +kernel
theorem dX3_isHurtAsOnSheet_26 : decode cX3_isHurtAsOnSheet 26 = .ok (.getfield 32, 3) := by decide +kernel
theorem dX3_isHurtAsOnSheet_29 : decode cX3_isHurtAsOnSheet 29 = .ok (.iload_n 2, 1) := by decide +kernel
theorem dX3_isHurtAsOnSheet_30 : decode cX3_isHurtAsOnSheet 30 = .ok (.iload_n 3, 1) := by decide +kernel
theorem dX3_isHurtAsOnSheet_31 : decode cX3_isHurtAsOnSheet 31 = .ok (.invokevirtual 202, 3) := by decide +kernel
theorem dX3_isHurtAsOnSheet_34 : decode cX3_isHurtAsOnSheet 34 = .ok (.lcmp, 1) := by decide +kernel
theorem dX3_isHurtAsOnSheet_35 : decode cX3_isHurtAsOnSheet 35 = .ok (.ifCond .eq 5, 3) := by decide +kernel
theorem dX3_isHurtAsOnSheet_38 : decode cX3_isHurtAsOnSheet 38 = .ok (.iconst 0, 1) := by decide +kernel
theorem dX3_isHurtAsOnSheet_39 : decode cX3_isHurtAsOnSheet 39 = .ok (.ireturn, 1) := by decide +kernel
theorem dX3_isHurtAsOnSheet_40 : decode cX3_isHurtAsOnSheet 40 = .ok (.aload_n 0, 1) := by decide +kernel
theorem dX3_isHurtAsOnSheet_41 : decode cX3_isHurtAsOnSheet 41 = .ok (.getfield 19, 3) := by decide +kernel
theorem dX3_isHurtAsOnSheet_44 : decode cX3_isHurtAsOnSheet 44 = .ok (.invokevirtual 154, 3) := by decide +kernel
theorem dX3_isHurtAsOnSheet_47 : decode cX3_isHurtAsOnSheet 47 = .ok (.pop, 1) := by decide +kernel
theorem dX3_isHurtAsOnSheet_48 : decode cX3_isHurtAsOnSheet 48 = .ok (.iinc 3 1, 3) := by decide +kernel
theorem dX3_isHurtAsOnSheet_51 : decode cX3_isHurtAsOnSheet 51 = .ok (.goto (-49), 3) := by decide +kernel
theorem dX3_isHurtAsOnSheet_54 : decode cX3_isHurtAsOnSheet 54 = .ok (.iconst 1, 1) := by decide +kernel
theorem dX3_isHurtAsOnSheet_55 : decode cX3_isHurtAsOnSheet 55 = .ok (.ireturn, 1) := by decide +kernel
