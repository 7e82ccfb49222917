theorem dX0_init_0 : decode cX0_init 0 = .ok (.aload_n 0, 1) := by decide +kernel
theorem dX0_init_1 : decode cX0_init 1 = .ok (.invokespecial 3, 3) := by decide +kernel
theorem dX0_init_4 : decode cX0_init 4 = .ok (.aload_n 0, 1) := by decide +kernel
theorem dX0_init_5 : decode cX0_init 5 = .ok (.bipush 8, 2) := by decide +kernel
theorem dX0_init_7 : decode cX0_init 7 = .ok (.newarray .int, 2) := by decide +kernel
theorem dX0_init_9 : decode cX0_init 9 = .ok (.putfield 11, 3) := by decide +kernel
theorem dX0_init_12 : decode cX0_init 12 = .ok (.aload_n 0, 1) := by decide +kernel
theorem dX0_init_13 : decode cX0_init 13 = .ok (.bipush 8, 2) := by decide +kernel
theorem dX0_init_15 : decode cX0_init 15 = .ok (.newarray .int, 2) := by decide +kernel
theorem dX0_init_17 : decode cX0_init 17 = .ok (.putfield 15, 3) := by decide +kernel
theorem dX0_init_20 : decode cX0_init 20 = .ok (.aload_n 0, 1) := by decide +kernel
theorem dX0_init_21 : decode cX0_init 21 = .ok (.bipush 8, 2) := by decide +kernel
theorem dX0_init_23 : decode cX0_init 23 = .ok (.newarray .int, 2) := by decide +kernel
theorem dX0_init_25 : decode cX0_init 25 = .ok (.putfield 18, 3) := by decide +kernel
theorem dX0_init_28 : decode cX0_init 28 = .ok (.aload_n 0, 1) := by decide +kernel
theorem dX0_init_29 : decode cX0_init 29 = .ok (.bipush 8, 2) := by decide +kernel
theorem dX0_init_31 : decode cX0_init 31 = .ok (.newarray .int, 2) := by decide +kernel
theorem dX0_init_33 : decode cX0_init 33 = .ok (.putfield 21, 3) := by decide +kernel
theorem dX0_init_36 : decode cX0_init 36 = .ok (.aload_n 0, 1) := by decide +kernel
theorem dX0_init_37 : decode cX0_init 37 = .ok (.bipush 8, 2) := by decide +kernel
theorem dX0_init_39 : decode cX0_init 39 = .ok (.newarray .int, 2) := by decide +kernel
theorem dX0_init_41 : decode cX0_init 41 = .ok (.putfield 24, 3) := by decide +kernel
theorem dX0_init_44 : decode cX0_init 44 = .ok (.aload_n 0, 1) := by decide +kernel
theorem dX0_init_45 : decode cX0_init 45 = .ok (.bipush 8, 2) := by decide +kernel
theorem dX0_init_47 : decode cX0_init 47 = .ok (.newarray .int, 2) := by decide +kernel
theorem dX0_init_49 : decode cX0_init 49 = .ok (.putfield 27, 3) := by decide +kernel
theorem dX0_init_52 : decode cX0_init 52 = .ok (.aload_n 0, 1) := by decide +kernel
theorem dX0_init_53 : decode cX0_init 53 = .ok (.bipush 8, 2) := by decide +kernel
theorem dX0_init_55 : decode cX0_init 55 = .ok (.newarray .int, 2) := by decide +kernel
theorem dX0_init_57 : decode cX0_init 57 = .ok (.putfield 30, 3) := by decide +kernel
theorem dX0_init_60 : decode cX0_init 60 = .ok (.aload_n 0, 1) := by decide +kernel
theorem dX0_init_61 : decode cX0_init 61 = .ok (.bipush 8, 2) := by decide +kernel
theorem dX0_init_63 : decode cX0_init 63 = .ok (.newarray .int, 2) := by decide +kernel
theorem dX0_init_65 : decode cX0_init 65 = .ok (.putfield 33, 3) := by decide +kernel
theorem dX0_init_68 : decode cX0_init 68 = .ok (.aload_n 0, 1) := by decide +kernel
theorem dX0_init_69 : decode cX0_init 69 = .ok (.bipush 8, 2) := by decide +kernel
theorem dX0_init_71 : decode cX0_init 71 = .ok (.newarray .int, 2) := by decide +kernel
theorem dX0_init_73 : decode cX0_init 73 = .ok (.putfield 36, 3) := by decide +kernel
theorem dX0_init_76 : decode cX0_init 76 = .ok (.return_, 1) := by decide +kernel
theorem dX0_hasDelegate_0 : decode cX0_hasDelegate 0 = .ok (.iload_n 1, 1) := by decide +kernel
theorem dX0_hasDelegate_1 : decode cX0_hasDelegate 1 = .ok (.ifCond .lt 15, 3) := by decide +kernel
theorem dX0_hasDelegate_4 : decode cX0_hasDelegate 4 = .ok (.iload_n 1, 1) := by decide +kernel
theorem dX0_hasDelegate_5 : decode cX0_hasDelegate 5 = .ok (.aload_n 0, 1) := by decide +kernel
theorem dX0_hasDelegate_6 : decode cX0_hasDelegate 6 = .ok (.getfield 39, 3) := by decide +kernel
theorem dX0_hasDelegate_9 : decode cX0_hasDelegate 9 = .ok (.if_icmp .ge 7, 3) := by decide +kernel
theorem dX0_hasDelegate_12 : decode cX0_hasDelegate 12 = .ok (.iconst 1, 1) := by decide +kernel
theorem dX0_hasDelegate_13 : decode cX0_hasDelegate 13 = .ok (.goto 4, 3) := by decide +kernel
theorem dX0_hasDelegate_16 : decode cX0_hasDelegate 16 = .ok (.iconst 0, 1) := by decide +kernel
theorem dX0_hasDelegate_17 : decode cX0_hasDelegate 17 = .ok (.ireturn, 1) := by decide +kernel
theorem dX0_hasSpeech_0 : decode cX0_hasSpeech 0 = .ok (.iload_n 1, 1) := by decide +kernel
theorem dX0_hasSpeech_1 : decode cX0_hasSpeech 1 = .ok (.ifCond .lt 15, 3) := by decide +kernel
theorem dX0_hasSpeech_4 : decode cX0_hasSpeech 4 = .ok (.iload_n 1, 1) := by decide +kernel
theorem dX0_hasSpeech_5 : decode cX0_hasSpeech 5 = .ok (.aload_n 0, 1) := by decide +kernel
theorem dX0_hasSpeech_6 : decode cX0_hasSpeech 6 = .ok (.getfield 43, 3) := by decide +kernel
theorem dX0_hasSpeech_9 : decode cX0_hasSpeech 9 = .ok (.if_icmp .ge 7, 3) := by decide +kernel
theorem dX0_hasSpeech_12 : decode cX0_hasSpeech 12 = .ok (.iconst 1, 1) := by decide +kernel
theorem dX0_hasSpeech_13 : decode cX0_hasSpeech 13 = .ok (.goto 4, 3) := by decide +kernel
theorem dX0_hasSpeech_16 : decode cX0_hasSpeech 16 = .ok (.iconst 0, 1) := by decide +kernel
theorem dX0_hasSpeech_17 : decode cX0_hasSpeech 17 = .ok (.ireturn, 1) := by decide +kernel
theorem dX0_addDelegate_0 : decode cX0_addDelegate 0 = .ok (.aload_n 0, 1) := by decide +kernel
theorem dX0_addDelegate_1 : decode cX0_addDelegate 1 = .ok (.getfield 39, 3) := by decide +kernel
theorem dX0_addDelegate_4 : decode cX0_addDelegate 4 = .ok (.istore_n 2, 1) := by decide +kernel
theorem dX0_addDelegate_5 : decode cX0_addDelegate 5 = .ok (.aload_n 0, 1) := by decide +kernel
theorem dX0_addDelegate_6 : decode cX0_addDelegate 6 = .ok (.getfield 11, 3) := by decide +kernel
theorem dX0_addDelegate_9 : decode cX0_addDelegate 9 = .ok (.iload_n 2, 1) := by decide +kernel
theorem dX0_addDelegate_10 : decode cX0_addDelegate 10 = .ok (.iload_n 1, 1) := by decide +kernel
theorem dX0_addDelegate_11 : decode cX0_addDelegate 11 = .ok (.iastore, 1) := by decide +kernel
theorem dX0_addDelegate_12 : decode cX0_addDelegate 12 = .ok (.aload_n 0, 1) := by decide +kernel
theorem dX0_addDelegate_13 : decode cX0_addDelegate 13 = .ok (.getfield 15, 3) := by decide +kernel
theorem dX0_addDelegate_16 : decode cX0_addDelegate 16 = .ok (.iload_n 2, 1) := by decide +kernel
theorem dX0_addDelegate_17 : decode cX0_addDelegate 17 = .ok (.iconst 5, 1) := by decide +kernel
theorem dX0_addDelegate_18 : decode cX0_addDelegate 18 = .ok (.iastore, 1) := by decide +kernel
theorem dX0_addDelegate_19 : decode cX0_addDelegate 19 = .ok (.aload_n 0, 1) := by decide +kernel
theorem dX0_addDelegate_20 : decode cX0_addDelegate 20 = .ok (.getfield 18, 3) := by decide +kernel
theorem dX0_addDelegate_23 : decode cX0_addDelegate 23 = .ok (.iload_n 2, 1) := by decide +kernel
theorem dX0_addDelegate_24 : decode cX0_addDelegate 24 = .ok (.iconst 1, 1) := by decide +kernel
theorem dX0_addDelegate_25 : decode cX0_addDelegate 25 = .ok (.iastore, 1) := by decide +kernel
theorem dX0_addDelegate_26 : decode cX0_addDelegate 26 = .ok (.aload_n 0, 1) := by decide +kernel
theorem dX0_addDelegate_27 : decode cX0_addDelegate 27 = .ok (.getfield 21, 3) := by decide +kernel
theorem dX0_addDelegate_30 : decode cX0_addDelegate 30 = .ok (.iload_n 2, 1) := by decide +kernel
theorem dX0_addDelegate_31 : decode cX0_addDelegate 31 = .ok (.iconst 0, 1) := by decide +kernel
theorem dX0_addDelegate_32 : decode cX0_addDelegate 32 = .ok (.iastore, 1) := by decide +kernel
theorem dX0_addDelegate_33 : decode cX0_addDelegate 33 = .ok (.aload_n 0, 1) := by decide +kernel
theorem dX0_addDelegate_34 : decode cX0_addDelegate 34 = .ok (.getfield 24, 3) := by decide +kernel
theorem dX0_addDelegate_37 : decode cX0_addDelegate 37 = .ok (.iload_n 2, 1) := by decide +kernel
theorem dX0_addDelegate_38 : decode cX0_addDelegate 38 = .ok (.iconst 0, 1) := by decide +kernel
theorem dX0_addDelegate_39 : decode cX0_addDelegate 39 = .ok (.iastore, 1) := by decide +kernel
theorem dX0_addDelegate_40 : decode cX0_addDelegate 40 = .ok (.aload_n 0, 1) := by decide +kernel
theorem dX0_addDelegate_41 : decode cX0_addDelegate 41 = .ok (.dup, 1) := by decide +kernel
theorem dX0_addDelegate_42 : decode cX0_addDelegate 42 = .ok (.getfield 39, 3) := by decide +kernel
theorem dX0_addDelegate_45 : decode cX0_addDelegate 45 = .ok (.iconst 1, 1) := by decide +kernel
theorem dX0_addDelegate_46 : decode cX0_addDelegate 46 = .ok (.iadd, 1) := by decide +kernel
theorem dX0_addDelegate_47 : decode cX0_addDelegate 47 = .ok (.putfield 39, 3) := by decide +kernel
theorem dX0_addDelegate_50 : decode cX0_addDelegate 50 = .ok (.iload_n 2, 1) := by decide +kernel
theorem dX0_addDelegate_51 : decode cX0_addDelegate 51 = .ok (.ireturn, 1) := by decide +kernel
theorem dX0_addSpeech_0 : decode cX0_addSpeech 0 = .ok (.aload_n 0, 1) := by decide +kernel
theorem dX0_addSpeech_1 : decode cX0_addSpeech 1 = .ok (.getfield 43, 3) := by decide +kernel
theorem dX0_addSpeech_4 : decode cX0_addSpeech 4 = .ok (.istore 5, 2) := by decide +kernel
theorem dX0_addSpeech_6 : decode cX0_addSpeech 6 = .ok (.aload_n 0, 1) := by decide +kernel
theorem dX0_addSpeech_7 : decode cX0_addSpeech 7 = .ok (.getfield 27, 3) := by decide +kernel
theorem dX0_addSpeech_10 : decode cX0_addSpeech 10 = .ok (.iload 5, 2) := by decide +kernel
theorem dX0_addSpeech_12 : decode cX0_addSpeech 12 = .ok (.iload_n 1, 1) := by decide +kernel
theorem dX0_addSpeech_13 : decode cX0_addSpeech 13 = .ok (.iastore, 1) := by decide +kernel
theorem dX0_addSpeech_14 : decode cX0_addSpeech 14 = .ok (.aload_n 0, 1) := by decide +kernel
theorem dX0_addSpeech_15 : decode cX0_addSpeech 15 = .ok (.getfield 30, 3) := by decide +kernel
theorem dX0_addSpeech_18 : decode cX0_addSpeech 18 = .ok (.iload 5, 2) := by decide +kernel
theorem dX0_addSpeech_20 : decode cX0_addSpeech 20 = .ok (.iload_n 2, 1) := by decide +kernel
theorem dX0_addSpeech_21 : decode cX0_addSpeech 21 = .ok (.iastore, 1) := by decide +kernel
theorem dX0_addSpeech_22 : decode cX0_addSpeech 22 = .ok (.aload_n 0, 1) := by decide +kernel
theorem dX0_addSpeech_23 : decode cX0_addSpeech 23 = .ok (.getfield 33, 3) := by decide +kernel
theorem dX0_addSpeech_26 : decode cX0_addSpeech 26 = .ok (.iload 5, 2) := by decide +kernel
theorem dX0_addSpeech_28 : decode cX0_addSpeech 28 = .ok (.iload_n 3, 1) := by decide +kernel
theorem dX0_addSpeech_29 : decode cX0_addSpeech 29 = .ok (.iastore, 1) := by decide +kernel
theorem dX0_addSpeech_30 : decode cX0_addSpeech 30 = .ok (.aload_n 0, 1) := by decide +kernel
theorem dX0_addSpeech_31 : decode cX0_addSpeech 31 = .ok (.getfield 36, 3) := by decide +kernel
theorem dX0_addSpeech_34 : decode cX0_addSpeech 34 = .ok (.iload 5, 2) := by decide +kernel
theorem dX0_addSpeech_36 : decode cX0_addSpeech 36 = .ok (.iload 4, 2) := by decide +kernel
theorem dX0_addSpeech_38 : decode cX0_addSpeech 38 = .ok (.iastore, 1) := by decide +kernel
theorem dX0_addSpeech_39 : decode cX0_addSpeech 39 = .ok (.aload_n 0, 1) := by decide +kernel
theorem dX0_addSpeech_40 : decode cX0_addSpeech 40 = .ok (.dup, 1) := by decide +kernel
theorem dX0_addSpeech_41 : decode cX0_addSpeech 41 = .ok (.getfield 43, 3) := by decide +kernel
theorem dX0_addSpeech_44 : decode cX0_addSpeech 44 = .ok (.iconst 1, 1) := by decide +kernel
theorem dX0_addSpeech_45 : decode cX0_addSpeech 45 = .ok (.iadd, 1) := by decide +kernel
theorem dX0_addSpeech_46 : decode cX0_addSpeech 46 = .ok (.putfield 43, 3) := by decide +kernel
theorem dX0_addSpeech_49 : decode cX0_addSpeech 49 = .ok (.iload 5, 2) := by decide +kernel
theorem dX0_addSpeech_51 : decode cX0_addSpeech 51 = .ok (.ireturn, 1) := by decide +kernel
theorem dX0_mostOf_0 : decode cX0_mostOf 0 = .ok (.iload_n 0, 1) := by decide +kernel
theorem dX0_mostOf_1 : decode cX0_mostOf 1 = .ok (.tableswitch 44 1 4 #[31, 34, 37, 40], 31) := by decide +kernel
theorem dX0_mostOf_32 : decode cX0_mostOf 32 = .ok (.bipush 20, 2) := by decide +kernel
theorem dX0_mostOf_34 : decode cX0_mostOf 34 = .ok (.ireturn, 1) := by decide +kernel
theorem dX0_mostOf_35 : decode cX0_mostOf 35 = .ok (.bipush 15, 2) := by decide +kernel
theorem dX0_mostOf_37 : decode cX0_mostOf 37 = .ok (.ireturn, 1) := by decide +kernel
theorem dX0_mostOf_38 : decode cX0_mostOf 38 = .ok (.ldc 46, 2) := by decide +kernel
theorem dX0_mostOf_40 : decode cX0_mostOf 40 = .ok (.ireturn, 1) := by decide +kernel
theorem dX0_mostOf_41 : decode cX0_mostOf 41 = .ok (.sipush 999, 3) := by decide +kernel
theorem dX0_mostOf_44 : decode cX0_mostOf 44 = .ok (.ireturn, 1) := by decide +kernel
theorem dX0_mostOf_45 : decode cX0_mostOf 45 = .ok (.iconst (-1), 1) := by decide +kernel
theorem dX0_mostOf_46 : decode cX0_mostOf 46 = .ok (.ireturn, 1) := by decide +kernel
theorem dX0_delegateRow_0 : decode cX0_delegateRow 0 = .ok (.iload_n 1, 1) := by decide +kernel
theorem dX0_delegateRow_1 : decode cX0_delegateRow 1 = .ok (.tableswitch 51 0 3 #[31, 36, 41, 46], 31) := by decide +kernel
theorem dX0_delegateRow_32 : decode cX0_delegateRow 32 = .ok (.aload_n 0, 1) := by decide +kernel
theorem dX0_delegateRow_33 : decode cX0_delegateRow 33 = .ok (.getfield 11, 3) := by decide +kernel
theorem dX0_delegateRow_36 : decode cX0_delegateRow 36 = .ok (.areturn, 1) := by decide +kernel
theorem dX0_delegateRow_37 : decode cX0_delegateRow 37 = .ok (.aload_n 0, 1) := by decide +kernel
theorem dX0_delegateRow_38 : decode cX0_delegateRow 38 = .ok (.getfield 15, 3) := by decide +kernel
theorem dX0_delegateRow_41 : decode cX0_delegateRow 41 = .ok (.areturn, 1) := by decide +kernel
theorem dX0_delegateRow_42 : decode cX0_delegateRow 42 = .ok (.aload_n 0, 1) := by decide +kernel
theorem dX0_delegateRow_43 : decode cX0_delegateRow 43 = .ok (.getfield 18, 3) := by decide +kernel
theorem dX0_delegateRow_46 : decode cX0_delegateRow 46 = .ok (.areturn, 1) := by decide +kernel
theorem dX0_delegateRow_47 : decode cX0_delegateRow 47 = .ok (.aload_n 0, 1) := by decide +kernel
theorem dX0_delegateRow_48 : decode cX0_delegateRow 48 = .ok (.getfield 21, 3) := by decide +kernel
theorem dX0_delegateRow_51 : decode cX0_delegateRow 51 = .ok (.areturn, 1) := by decide +kernel
theorem dX0_delegateRow_52 : decode cX0_delegateRow 52 = .ok (.aload_n 0, 1) := by decide +kernel
theorem dX0_delegateRow_53 : decode cX0_delegateRow 53 = .ok (.getfield 24, 3) := by decide +kernel
theorem dX0_delegateRow_56 : decode cX0_delegateRow 56 = .ok (.areturn, 1) := by decide +kernel
set_option maxRecDepth 20000 in
theorem ggX0_mayTell_X0_hasDelegate : GoodIn wsX0_mayTell wsX0_hasDelegate := goodIn_r _ [5, 6, 7, 8, 9, 10, 11, 12, 13, 14, 15, 16, 17, 18] rfl (by decide +kernel)
set_option maxRecDepth 20000 in
theorem gX0_mayTell_X0_hasDelegate : GoodIn wsX0_mayTell (wsV RX0 47 RX0 yX0_hasDelegate wsX0_hasDelegate) := goodIn_app (goodIn_of _ (by decide +kernel)) ggX0_mayTell_X0_hasDelegate
theorem dX0_mayTell_0 : decode cX0_mayTell 0 = .ok (.iload_n 1, 1) := by decide +kernel
theorem dX0_mayTell_1 : decode cX0_mayTell 1 = .ok (.tableswitch 87 0 3 #[31, 37, 52, 71], 31) := by decide +kernel
theorem dX0_mayTell_32 : decode cX0_mayTell 32 = .ok (.aload_n 0, 1) := by decide +kernel
theorem dX0_mayTell_33 : decode cX0_mayTell 33 = .ok (.iload_n 2, 1) := by decide +kernel
theorem dX0_mayTell_34 : decode cX0_mayTell 34 = .ok (.invokevirtual 47, 3) := by decide +kernel
theorem dX0_mayTell_37 : decode cX0_mayTell 37 = .ok (.ireturn, 1) := by decide +kernel
theorem dX0_mayTell_38 : decode cX0_mayTell 38 = .ok (.iload_n 2, 1) := by decide +kernel
theorem dX0_mayTell_39 : decode cX0_mayTell 39 = .ok (.ifCond .lt 12, 3) := by decide +kernel
theorem dX0_mayTell_42 : decode cX0_mayTell 42 = .ok (.iload_n 2, 1) := by decide +kernel
theorem dX0_mayTell_43 : decode cX0_mayTell 43 = .ok (.iconst 4, 1) := by decide +kernel
theorem dX0_mayTell_44 : decode cX0_mayTell 44 = .ok (.if_icmp .ge 7, 3) := by decide +kernel
theorem dX0_mayTell_47 : decode cX0_mayTell 47 = .ok (.iconst 1, 1) := by decide +kernel
theorem dX0_mayTell_48 : decode cX0_mayTell 48 = .ok (.goto 4, 3) := by decide +kernel
theorem dX0_mayTell_51 : decode cX0_mayTell 51 = .ok (.iconst 0, 1) := by decide +kernel
theorem dX0_mayTell_52 : decode cX0_mayTell 52 = .ok (.ireturn, 1) := by decide +kernel
theorem dX0_mayTell_53 : decode cX0_mayTell 53 = .ok (.iload_n 2, 1) := by decide +kernel
theorem dX0_mayTell_54 : decode cX0_mayTell 54 = .ok (.iconst (-1), 1) := by decide +kernel
theorem dX0_mayTell_55 : decode cX0_mayTell 55 = .ok (.if_icmp .eq 11, 3) := by decide +kernel
theorem dX0_mayTell_58 : decode cX0_mayTell 58 = .ok (.aload_n 0, 1) := by decide +kernel
theorem dX0_mayTell_59 : decode cX0_mayTell 59 = .ok (.iload_n 2, 1) := by decide +kernel
theorem dX0_mayTell_60 : decode cX0_mayTell 60 = .ok (.invokevirtual 47, 3) := by decide +kernel
theorem dX0_mayTell_63 : decode cX0_mayTell 63 = .ok (.ifCond .eq 7, 3) := by decide +kernel
theorem dX0_mayTell_66 : decode cX0_mayTell 66 = .ok (.iconst 1, 1) := by decide +kernel
theorem dX0_mayTell_67 : decode cX0_mayTell 67 = .ok (.goto 4, 3) := by decide +kernel
theorem dX0_mayTell_70 : decode cX0_mayTell 70 = .ok (.iconst 0, 1) := by decide +kernel
theorem dX0_mayTell_71 : decode cX0_mayTell 71 = .ok (.ireturn, 1) := by decide +kernel
theorem dX0_mayTell_72 : decode cX0_mayTell 72 = .ok (.iload_n 2, 1) := by decide +kernel
theorem dX0_mayTell_73 : decode cX0_mayTell 73 = .ok (.ifCond .lt 13, 3) := by decide +kernel
theorem dX0_mayTell_76 : decode cX0_mayTell 76 = .ok (.iload_n 2, 1) := by decide +kernel
theorem dX0_mayTell_77 : decode cX0_mayTell 77 = .ok (.bipush 99, 2) := by decide +kernel
theorem dX0_mayTell_79 : decode cX0_mayTell 79 = .ok (.if_icmp .gt 7, 3) := by decide +kernel
theorem dX0_mayTell_82 : decode cX0_mayTell 82 = .ok (.iconst 1, 1) := by decide +kernel
theorem dX0_mayTell_83 : decode cX0_mayTell 83 = .ok (.goto 4, 3) := by decide +kernel
theorem dX0_mayTell_86 : decode cX0_mayTell 86 = .ok (.iconst 0, 1) := by decide +kernel
theorem dX0_mayTell_87 : decode cX0_mayTell 87 = .ok (.ireturn, 1) := by decide +kernel
theorem dX0_mayTell_88 : decode cX0_mayTell 88 = .ok (.iconst 0, 1) := by decide +kernel
theorem dX0_mayTell_89 : decode cX0_mayTell 89 = .ok (.ireturn, 1) := by decide +kernel
theorem dX0_speechRow_0 : decode cX0_speechRow 0 = .ok (.iload_n 1, 1) := by decide +kernel
theorem dX0_speechRow_1 : decode cX0_speechRow 1 = .ok (.tableswitch 42 0 2 #[27, 32, 37], 27) := by decide +kernel
theorem dX0_speechRow_28 : decode cX0_speechRow 28 = .ok (.aload_n 0, 1) := by decide +kernel
theorem dX0_speechRow_29 : decode cX0_speechRow 29 = .ok (.getfield 27, 3) := by decide +kernel
theorem dX0_speechRow_32 : decode cX0_speechRow 32 = .ok (.areturn, 1) := by decide +kernel
theorem dX0_speechRow_33 : decode cX0_speechRow 33 = .ok (.aload_n 0, 1) := by decide +kernel
theorem dX0_speechRow_34 : decode cX0_speechRow 34 = .ok (.getfield 30, 3) := by decide +kernel
theorem dX0_speechRow_37 : decode cX0_speechRow 37 = .ok (.areturn, 1) := by decide +kernel
theorem dX0_speechRow_38 : decode cX0_speechRow 38 = .ok (.aload_n 0, 1) := by decide +kernel
theorem dX0_speechRow_39 : decode cX0_speechRow 39 = .ok (.getfield 33, 3) := by decide +kernel
theorem dX0_speechRow_42 : decode cX0_speechRow 42 = .ok (.areturn, 1) := by decide +kernel
theorem dX0_speechRow_43 : decode cX0_speechRow 43 = .ok (.aload_n 0, 1) := by decide +kernel
theorem dX0_speechRow_44 : decode cX0_speechRow 44 = .ok (.getfield 36, 3) := by decide +kernel
theorem dX0_speechRow_47 : decode cX0_speechRow 47 = .ok (.areturn, 1) := by decide +kernel
theorem dX0_isUnder_0 : decode cX0_isUnder 0 = .ok (.iload_n 1, 1) := by decide +kernel
theorem dX0_isUnder_1 : decode cX0_isUnder 1 = .ok (.iload_n 0, 1) := by decide +kernel
theorem dX0_isUnder_2 : decode cX0_isUnder 2 = .ok (.if_icmp .eq 27, 3) := by decide +kernel
theorem dX0_isUnder_5 : decode cX0_isUnder 5 = .ok (.iload_n 1, 1) := by decide +kernel
theorem dX0_isUnder_6 : decode cX0_isUnder 6 = .ok (.ifCond .eq 23, 3) := by decide +kernel
theorem dX0_isUnder_9 : decode cX0_isUnder 9 = .ok (.iload_n 0, 1) := by decide +kernel
theorem dX0_isUnder_10 : decode cX0_isUnder 10 = .ok (.iconst 4, 1) := by decide +kernel
theorem dX0_isUnder_11 : decode cX0_isUnder 11 = .ok (.if_icmp .ne 8, 3) := by decide +kernel
theorem dX0_isUnder_14 : decode cX0_isUnder 14 = .ok (.iload_n 1, 1) := by decide +kernel
theorem dX0_isUnder_15 : decode cX0_isUnder 15 = .ok (.iconst 1, 1) := by decide +kernel
theorem dX0_isUnder_16 : decode cX0_isUnder 16 = .ok (.if_icmp .eq 13, 3) := by decide +kernel
theorem dX0_isUnder_19 : decode cX0_isUnder 19 = .ok (.iload_n 0, 1) := by decide +kernel
theorem dX0_isUnder_20 : decode cX0_isUnder 20 = .ok (.iconst 5, 1) := by decide +kernel
theorem dX0_isUnder_21 : decode cX0_isUnder 21 = .ok (.if_icmp .ne 12, 3) := by decide +kernel
theorem dX0_isUnder_24 : decode cX0_isUnder 24 = .ok (.iload_n 1, 1) := by decide +kernel
theorem dX0_isUnder_25 : decode cX0_isUnder 25 = .ok (.iconst 2, 1) := by decide +kernel
theorem dX0_isUnder_26 : decode cX0_isUnder 26 = .ok (.if_icmp .ne 7, 3) := by decide +kernel
theorem dX0_isUnder_29 : decode cX0_isUnder 29 = .ok (.iconst 1, 1) := by decide +kernel
theorem dX0_isUnder_30 : decode cX0_isUnder 30 = .ok (.goto 4, 3) := by decide +kernel
theorem dX0_isUnder_33 : decode cX0_isUnder 33 = .ok (.iconst 0, 1) := by decide +kernel
theorem dX0_isUnder_34 : decode cX0_isUnder 34 = .ok (.ireturn, 1) := by decide +kernel
theorem dX0_lossOf_0 : decode cX0_lossOf 0 = .ok (.aload_n 0, 1) := by decide +kernel
theorem dX0_lossOf_1 : decode cX0_lossOf 1 = .ok (.getfield 27, 3) := by decide +kernel
theorem dX0_lossOf_4 : decode cX0_lossOf 4 = .ok (.iload_n 2, 1) := by decide +kernel
theorem dX0_lossOf_5 : decode cX0_lossOf 5 = .ok (.iaload, 1) := by decide +kernel
theorem dX0_lossOf_6 : decode cX0_lossOf 6 = .ok (.iload_n 1, 1) := by decide +kernel
theorem dX0_lossOf_7 : decode cX0_lossOf 7 = .ok (.if_icmp .eq 13, 3) := by decide +kernel
theorem dX0_lossOf_10 : decode cX0_lossOf 10 = .ok (.aload_n 0, 1) := by decide +kernel
theorem dX0_lossOf_11 : decode cX0_lossOf 11 = .ok (.getfield 33, 3) := by decide +kernel
theorem dX0_lossOf_14 : decode cX0_lossOf 14 = .ok (.iload_n 2, 1) := by decide +kernel
theorem dX0_lossOf_15 : decode cX0_lossOf 15 = .ok (.iaload, 1) := by decide +kernel
theorem dX0_lossOf_16 : decode cX0_lossOf 16 = .ok (.iconst (-1), 1) := by decide +kernel
theorem dX0_lossOf_17 : decode cX0_lossOf 17 = .ok (.if_icmp .ne 5, 3) := by decide +kernel
theorem dX0_lossOf_20 : decode cX0_lossOf 20 = .ok (.iconst 0, 1) := by decide +kernel
theorem dX0_lossOf_21 : decode cX0_lossOf 21 = .ok (.ireturn, 1) := by decide +kernel
theorem dX0_lossOf_22 : decode cX0_lossOf 22 = .ok (.aload_n 0, 1) := by decide +kernel
theorem dX0_lossOf_23 : decode cX0_lossOf 23 = .ok (.getfield 33, 3) := by decide +kernel
theorem dX0_lossOf_26 : decode cX0_lossOf 26 = .ok (.iload_n 2, 1) := by decide +kernel
theorem dX0_lossOf_27 : decode cX0_lossOf 27 = .ok (.iaload, 1) := by decide +kernel
theorem dX0_lossOf_28 : decode cX0_lossOf 28 = .ok (.iload_n 1, 1) := by decide +kernel
theorem dX0_lossOf_29 : decode cX0_lossOf 29 = .ok (.if_icmp .ne 7, 3) := by decide +kernel
theorem dX0_lossOf_32 : decode cX0_lossOf 32 = .ok (.iload_n 3, 1) := by decide +kernel
theorem dX0_lossOf_33 : decode cX0_lossOf 33 = .ok (.goto 6, 3) := by decide +kernel
theorem dX0_lossOf_36 : decode cX0_lossOf 36 = .ok (.iload_n 3, 1) := by decide +kernel
theorem dX0_lossOf_37 : decode cX0_lossOf 37 = .ok (.iconst 5, 1) := by decide +kernel
theorem dX0_lossOf_38 : decode cX0_lossOf 38 = .ok (.idiv, 1) := by decide +kernel
theorem dX0_lossOf_39 : decode cX0_lossOf 39 = .ok (.istore 4, 2) := by decide +kernel
theorem dX0_lossOf_41 : decode cX0_lossOf 41 = .ok (.aload_n 0, 1) := by decide +kernel
theorem dX0_lossOf_42 : decode cX0_lossOf 42 = .ok (.getfield 30, 3) := by decide +kernel
theorem dX0_lossOf_45 : decode cX0_lossOf 45 = .ok (.iload_n 2, 1) := by decide +kernel
theorem dX0_lossOf_46 : decode cX0_lossOf 46 = .ok (.iaload, 1) := by decide +kernel
theorem dX0_lossOf_47 : decode cX0_lossOf 47 = .ok (.iconst 1, 1) := by decide +kernel
theorem dX0_lossOf_48 : decode cX0_lossOf 48 = .ok (.if_icmp .ne 8, 3) := by decide +kernel
theorem dX0_lossOf_51 : decode cX0_lossOf 51 = .ok (.iload 4, 2) := by decide +kernel
theorem dX0_lossOf_53 : decode cX0_lossOf 53 = .ok (.goto 4, 3) := by decide +kernel
theorem dX0_lossOf_56 : decode cX0_lossOf 56 = .ok (.iconst 0, 1) := by decide +kernel
theorem dX0_lossOf_57 : decode cX0_lossOf 57 = .ok (.istore 5, 2) := by decide +kernel
theorem dX0_lossOf_59 : decode cX0_lossOf 59 = .ok (.iload 4, 2) := by decide +kernel
theorem dX0_lossOf_61 : decode cX0_lossOf 61 = .ok (.iconst 2, 1) := by decide +kernel
theorem dX0_lossOf_62 : decode cX0_lossOf 62 = .ok (.idiv, 1) := by decide +kernel
theorem dX0_lossOf_63 : decode cX0_lossOf 63 = .ok (.istore 6, 2) := by decide +kernel
theorem dX0_lossOf_65 : decode cX0_lossOf 65 = .ok (.aload_n 0, 1) := by decide +kernel
theorem dX0_lossOf_66 : decode cX0_lossOf 66 = .ok (.getfield 11, 3) := by decide +kernel
theorem dX0_lossOf_69 : decode cX0_lossOf 69 = .ok (.iload_n 1, 1) := by decide +kernel
theorem dX0_lossOf_70 : decode cX0_lossOf 70 = .ok (.iaload, 1) := by decide +kernel
theorem dX0_lossOf_71 : decode cX0_lossOf 71 = .ok (.tableswitch 90 1 5 #[33, 36, 39, 58, 74], 33) := by decide +kernel
theorem dX0_lossOf_104 : decode cX0_lossOf 104 = .ok (.iload 5, 2) := by decide +kernel
theorem dX0_lossOf_106 : decode cX0_lossOf 106 = .ok (.ireturn, 1) := by decide +kernel
theorem dX0_lossOf_107 : decode cX0_lossOf 107 = .ok (.iload 6, 2) := by decide +kernel
theorem dX0_lossOf_109 : decode cX0_lossOf 109 = .ok (.ireturn, 1) := by decide +kernel
theorem dX0_lossOf_110 : decode cX0_lossOf 110 = .ok (.iload_n 3, 1) := by decide +kernel
theorem dX0_lossOf_111 : decode cX0_lossOf 111 = .ok (.ifCond .le 15, 3) := by decide +kernel
theorem dX0_lossOf_114 : decode cX0_lossOf 114 = .ok (.iload 4, 2) := by decide +kernel
theorem dX0_lossOf_116 : decode cX0_lossOf 116 = .ok (.aload_n 0, 1) := by decide +kernel
theorem dX0_lossOf_117 : decode cX0_lossOf 117 = .ok (.getfield 15, 3) := by decide +kernel
theorem dX0_lossOf_120 : decode cX0_lossOf 120 = .ok (.iload_n 1, 1) := by decide +kernel
theorem dX0_lossOf_121 : decode cX0_lossOf 121 = .ok (.iaload, 1) := by decide +kernel
theorem dX0_lossOf_122 : decode cX0_lossOf 122 = .ok (.iadd, 1) := by decide +kernel
theorem dX0_lossOf_123 : decode cX0_lossOf 123 = .ok (.goto 5, 3) := by decide +kernel
theorem dX0_lossOf_126 : decode cX0_lossOf 126 = .ok (.iload 4, 2) := by decide +kernel
theorem dX0_lossOf_128 : decode cX0_lossOf 128 = .ok (.ireturn, 1) := by decide +kernel
theorem dX0_lossOf_129 : decode cX0_lossOf 129 = .ok (.iload 5, 2) := by decide +kernel
theorem dX0_lossOf_131 : decode cX0_lossOf 131 = .ok (.aload_n 0, 1) := by decide +kernel
theorem dX0_lossOf_132 : decode cX0_lossOf 132 = .ok (.getfield 15, 3) := by decide +kernel
theorem dX0_lossOf_135 : decode cX0_lossOf 135 = .ok (.iload_n 1, 1) := by decide +kernel
theorem dX0_lossOf_136 : decode cX0_lossOf 136 = .ok (.iaload, 1) := by decide +kernel
theorem dX0_lossOf_137 : decode cX0_lossOf 137 = .ok (.iconst 2, 1) := by decide +kernel
theorem dX0_lossOf_138 : decode cX0_lossOf 138 = .ok (.idiv, 1) := by decide +kernel
theorem dX0_lossOf_139 : decode cX0_lossOf 139 = .ok (.isub, 1) := by decide +kernel
theorem dX0_lossOf_140 : decode cX0_lossOf 140 = .ok (.iconst 0, 1) := by decide +kernel
theorem dX0_lossOf_141 : decode cX0_lossOf 141 = .ok (.invokestatic 51, 3) := by decide +kernel
theorem dX0_lossOf_144 : decode cX0_lossOf 144 = .ok (.ireturn, 1) := by decide +kernel
theorem dX0_lossOf_145 : decode cX0_lossOf 145 = .ok (.iload_n 3, 1) := by decide +kernel
theorem dX0_lossOf_146 : decode cX0_lossOf 146 = .ok (.bipush 10, 2) := by decide +kernel
theorem dX0_lossOf_148 : decode cX0_lossOf 148 = .ok (.if_icmp .lt 10, 3) := by decide +kernel
theorem dX0_lossOf_151 : decode cX0_lossOf 151 = .ok (.iload 6, 2) := by decide +kernel
theorem dX0_lossOf_153 : decode cX0_lossOf 153 = .ok (.iconst 1, 1) := by decide +kernel
theorem dX0_lossOf_154 : decode cX0_lossOf 154 = .ok (.iadd, 1) := by decide +kernel
theorem dX0_lossOf_155 : decode cX0_lossOf 155 = .ok (.goto 5, 3) := by decide +kernel
theorem dX0_lossOf_158 : decode cX0_lossOf 158 = .ok (.iload 6, 2) := by decide +kernel
theorem dX0_lossOf_160 : decode cX0_lossOf 160 = .ok (.ireturn, 1) := by decide +kernel
theorem dX0_lossOf_161 : decode cX0_lossOf 161 = .ok (.iload 4, 2) := by decide +kernel
theorem dX0_lossOf_163 : decode cX0_lossOf 163 = .ok (.ireturn, 1) := by decide +kernel
set_option maxRecDepth 20000 in
theorem ggX0_interpreterOf_X0_lossOf : GoodIn wsX0_interpreterOf wsX0_lossOf := goodIn_r _ [10, 2, 11, 4, 12, 13, 14, 15, 16, 17, 18, 19, 20, 21, 22, 23, 24, 25, 26, 27, 28, 29] rfl (by decide +kernel)
set_option maxRecDepth 20000 in
theorem gX0_interpreterOf_X0_lossOf : GoodIn wsX0_interpreterOf (wsV RX0 57 RX0 yX0_lossOf wsX0_lossOf) := goodIn_app (goodIn_of _ (by decide +kernel)) ggX0_interpreterOf_X0_lossOf
theorem dX0_interpreterOf_0 : decode cX0_interpreterOf 0 = .ok (.iconst (-1), 1) := by decide +kernel
theorem dX0_interpreterOf_1 : decode cX0_interpreterOf 1 = .ok (.istore_n 2, 1) := by decide +kernel
theorem dX0_interpreterOf_2 : decode cX0_interpreterOf 2 = .ok (.iconst 0, 1) := by decide +kernel
theorem dX0_interpreterOf_3 : decode cX0_interpreterOf 3 = .ok (.istore_n 3, 1) := by decide +kernel
theorem dX0_interpreterOf_4 : decode cX0_interpreterOf 4 = .ok (.iconst 0, 1) := by decide +kernel
theorem dX0_interpreterOf_5 : decode cX0_interpreterOf 5 = .ok (.istore 4, 2) := by decide +kernel
theorem dX0_interpreterOf_7 : decode cX0_interpreterOf 7 = .ok (.iload 4, 2) := by decide +kernel
theorem dX0_interpreterOf_9 : decode cX0_interpreterOf 9 = .ok (.aload_n 0, 1) := by decide +kernel
theorem dX0_interpreterOf_10 : decode cX0_interpreterOf 10 = .ok (.getfield 39, 3) := by decide +kernel
theorem dX0_interpreterOf_13 : decode cX0_interpreterOf 13 = .ok (.if_icmp .ge 83, 3) := by decide +kernel
theorem dX0_interpreterOf_16 : decode cX0_interpreterOf 16 = .ok (.iload 4, 2) := by decide +kernel
theorem dX0_interpreterOf_18 : decode cX0_interpreterOf 18 = .ok (.aload_n 0, 1) := by decide +kernel
theorem dX0_interpreterOf_19 : decode cX0_interpreterOf 19 = .ok (.getfield 27, 3) := by decide +kernel
theorem dX0_interpreterOf_22 : decode cX0_interpreterOf 22 = .ok (.iload_n 1, 1) := by decide +kernel
theorem dX0_interpreterOf_23 : decode cX0_interpreterOf 23 = .ok (.iaload, 1) := by decide +kernel
theorem dX0_interpreterOf_24 : decode cX0_interpreterOf 24 = .ok (.if_icmp .eq 27, 3) := by decide +kernel
theorem dX0_interpreterOf_27 : decode cX0_interpreterOf 27 = .ok (.aload_n 0, 1) := by decide +kernel
theorem dX0_interpreterOf_28 : decode cX0_interpreterOf 28 = .ok (.getfield 18, 3) := by decide +kernel
theorem dX0_interpreterOf_31 : decode cX0_interpreterOf 31 = .ok (.iload 4, 2) := by decide +kernel
theorem dX0_interpreterOf_33 : decode cX0_interpreterOf 33 = .ok (.iaload, 1) := by decide +kernel
theorem dX0_interpreterOf_34 : decode cX0_interpreterOf 34 = .ok (.aload_n 0, 1) := by decide +kernel
theorem dX0_interpreterOf_35 : decode cX0_interpreterOf 35 = .ok (.getfield 30, 3) := by decide +kernel
theorem dX0_interpreterOf_38 : decode cX0_interpreterOf 38 = .ok (.iload_n 1, 1) := by decide +kernel
theorem dX0_interpreterOf_39 : decode cX0_interpreterOf 39 = .ok (.iaload, 1) := by decide +kernel
theorem dX0_interpreterOf_40 : decode cX0_interpreterOf 40 = .ok (.ishr, 1) := by decide +kernel
theorem dX0_interpreterOf_41 : decode cX0_interpreterOf 41 = .ok (.iconst 1, 1) := by decide +kernel
theorem dX0_interpreterOf_42 : decode cX0_interpreterOf 42 = .ok (.iand, 1) := by decide +kernel
theorem dX0_interpreterOf_43 : decode cX0_interpreterOf 43 = .ok (.iconst 1, 1) := by decide +kernel
theorem dX0_interpreterOf_44 : decode cX0_interpreterOf 44 = .ok (.if_icmp .ne 7, 3) := by decide +kernel
theorem dX0_interpreterOf_47 : decode cX0_interpreterOf 47 = .ok (.iconst 1, 1) := by decide +kernel
theorem dX0_interpreterOf_48 : decode cX0_interpreterOf 48 = .ok (.goto 4, 3) := by decide +kernel
theorem dX0_interpreterOf_51 : decode cX0_interpreterOf 51 = .ok (.iconst 0, 1) := by decide +kernel
theorem dX0_interpreterOf_52 : decode cX0_interpreterOf 52 = .ok (.istore 5, 2) := by decide +kernel
theorem dX0_interpreterOf_54 : decode cX0_interpreterOf 54 = .ok (.iload 5, 2) := by decide +kernel
theorem dX0_interpreterOf_56 : decode cX0_interpreterOf 56 = .ok (.ifCond .eq 19, 3) := by decide +kernel
theorem dX0_interpreterOf_59 : decode cX0_interpreterOf 59 = .ok (.aload_n 0, 1) := by decide +kernel
theorem dX0_interpreterOf_60 : decode cX0_interpreterOf 60 = .ok (.iload 4, 2) := by decide +kernel
theorem dX0_interpreterOf_62 : decode cX0_interpreterOf 62 = .ok (.iload_n 1, 1) := by decide +kernel
theorem dX0_interpreterOf_63 : decode cX0_interpreterOf 63 = .ok (.aload_n 0, 1) := by decide +kernel
theorem dX0_interpreterOf_64 : decode cX0_interpreterOf 64 = .ok (.getfield 36, 3) := by decide +kernel
theorem dX0_interpreterOf_67 : decode cX0_interpreterOf 67 = .ok (.iload_n 1, 1) := by decide +kernel
theorem dX0_interpreterOf_68 : decode cX0_interpreterOf 68 = .ok (.iaload, 1) := by decide +kernel
theorem dX0_interpreterOf_69 : decode cX0_interpreterOf 69 = .ok (.invokevirtual 57, 3) := by decide +kernel
theorem dX0_interpreterOf_72 : decode cX0_interpreterOf 72 = .ok (.goto 4, 3) := by decide +kernel
theorem dX0_interpreterOf_75 : decode cX0_interpreterOf 75 = .ok (.iconst 0, 1) := by decide +kernel
theorem dX0_interpreterOf_76 : decode cX0_interpreterOf 76 = .ok (.istore 6, 2) := by decide +kernel
theorem dX0_interpreterOf_78 : decode cX0_interpreterOf 78 = .ok (.iload 6, 2) := by decide +kernel
theorem dX0_interpreterOf_80 : decode cX0_interpreterOf 80 = .ok (.iload_n 3, 1) := by decide +kernel
theorem dX0_interpreterOf_81 : decode cX0_interpreterOf 81 = .ok (.if_icmp .le 9, 3) := by decide +kernel
theorem dX0_interpreterOf_84 : decode cX0_interpreterOf 84 = .ok (.iload 6, 2) := by decide +kernel
theorem dX0_interpreterOf_86 : decode cX0_interpreterOf 86 = .ok (.istore_n 3, 1) := by decide +kernel
theorem dX0_interpreterOf_87 : decode cX0_interpreterOf 87 = .ok (.iload 4, 2) := by decide +kernel
theorem dX0_interpreterOf_89 : decode cX0_interpreterOf 89 = .ok (.istore_n 2, 1) := by decide +kernel
theorem dX0_interpreterOf_90 : decode cX0_interpreterOf 90 = .ok (.iinc 4 1, 3) := by decide +kernel
theorem dX0_interpreterOf_93 : decode cX0_interpreterOf 93 = .ok (.goto (-86), 3) := by decide +kernel
theorem dX0_interpreterOf_96 : decode cX0_interpreterOf 96 = .ok (.iload_n 2, 1) := by decide +kernel
theorem dX0_interpreterOf_97 : decode cX0_interpreterOf 97 = .ok (.ireturn, 1) := by decide +kernel
theorem dX0_renderedBy_0 : decode cX0_renderedBy 0 = .ok (.iload_n 2, 1) := by decide +kernel
theorem dX0_renderedBy_1 : decode cX0_renderedBy 1 = .ok (.aload_n 0, 1) := by decide +kernel
theorem dX0_renderedBy_2 : decode cX0_renderedBy 2 = .ok (.getfield 15, 3) := by decide +kernel
theorem dX0_renderedBy_5 : decode cX0_renderedBy 5 = .ok (.iload_n 1, 1) := by decide +kernel
theorem dX0_renderedBy_6 : decode cX0_renderedBy 6 = .ok (.iaload, 1) := by decide +kernel
theorem dX0_renderedBy_7 : decode cX0_renderedBy 7 = .ok (.isub, 1) := by decide +kernel
theorem dX0_renderedBy_8 : decode cX0_renderedBy 8 = .ok (.iconst 0, 1) := by decide +kernel
theorem dX0_renderedBy_9 : decode cX0_renderedBy 9 = .ok (.invokestatic 51, 3) := by decide +kernel
theorem dX0_renderedBy_12 : decode cX0_renderedBy 12 = .ok (.istore_n 3, 1) := by decide +kernel
theorem dX0_renderedBy_13 : decode cX0_renderedBy 13 = .ok (.iload_n 2, 1) := by decide +kernel
theorem dX0_renderedBy_14 : decode cX0_renderedBy 14 = .ok (.iconst 2, 1) := by decide +kernel
theorem dX0_renderedBy_15 : decode cX0_renderedBy 15 = .ok (.idiv, 1) := by decide +kernel
theorem dX0_renderedBy_16 : decode cX0_renderedBy 16 = .ok (.istore 4, 2) := by decide +kernel
theorem dX0_renderedBy_18 : decode cX0_renderedBy 18 = .ok (.aload_n 0, 1) := by decide +kernel
theorem dX0_renderedBy_19 : decode cX0_renderedBy 19 = .ok (.getfield 11, 3) := by decide +kernel
theorem dX0_renderedBy_22 : decode cX0_renderedBy 22 = .ok (.iload_n 1, 1) := by decide +kernel
theorem dX0_renderedBy_23 : decode cX0_renderedBy 23 = .ok (.iaload, 1) := by decide +kernel
theorem dX0_renderedBy_24 : decode cX0_renderedBy 24 = .ok (.tableswitch 70 1 5 #[36, 39, 41, 50, 62], 36) := by decide +kernel
theorem dX0_renderedBy_60 : decode cX0_renderedBy 60 = .ok (.iload 4, 2) := by decide +kernel
theorem dX0_renderedBy_62 : decode cX0_renderedBy 62 = .ok (.ireturn, 1) := by decide +kernel
theorem dX0_renderedBy_63 : decode cX0_renderedBy 63 = .ok (.iload_n 2, 1) := by decide +kernel
theorem dX0_renderedBy_64 : decode cX0_renderedBy 64 = .ok (.ireturn, 1) := by decide +kernel
theorem dX0_renderedBy_65 : decode cX0_renderedBy 65 = .ok (.iconst 2, 1) := by decide +kernel
theorem dX0_renderedBy_66 : decode cX0_renderedBy 66 = .ok (.iload_n 3, 1) := by decide +kernel
theorem dX0_renderedBy_67 : decode cX0_renderedBy 67 = .ok (.imul, 1) := by decide +kernel
theorem dX0_renderedBy_68 : decode cX0_renderedBy 68 = .ok (.bipush 99, 2) := by decide +kernel
theorem dX0_renderedBy_70 : decode cX0_renderedBy 70 = .ok (.invokestatic 61, 3) := by decide +kernel
theorem dX0_renderedBy_73 : decode cX0_renderedBy 73 = .ok (.ireturn, 1) := by decide +kernel
theorem dX0_renderedBy_74 : decode cX0_renderedBy 74 = .ok (.iload 4, 2) := by decide +kernel
theorem dX0_renderedBy_76 : decode cX0_renderedBy 76 = .ok (.aload_n 0, 1) := by decide +kernel
theorem dX0_renderedBy_77 : decode cX0_renderedBy 77 = .ok (.getfield 15, 3) := by decide +kernel
theorem dX0_renderedBy_80 : decode cX0_renderedBy 80 = .ok (.iload_n 1, 1) := by decide +kernel
theorem dX0_renderedBy_81 : decode cX0_renderedBy 81 = .ok (.iaload, 1) := by decide +kernel
theorem dX0_renderedBy_82 : decode cX0_renderedBy 82 = .ok (.iconst 4, 1) := by decide +kernel
theorem dX0_renderedBy_83 : decode cX0_renderedBy 83 = .ok (.idiv, 1) := by decide +kernel
theorem dX0_renderedBy_84 : decode cX0_renderedBy 84 = .ok (.iadd, 1) := by decide +kernel
theorem dX0_renderedBy_85 : decode cX0_renderedBy 85 = .ok (.ireturn, 1) := by decide +kernel
theorem dX0_renderedBy_86 : decode cX0_renderedBy 86 = .ok (.iload_n 2, 1) := by decide +kernel
theorem dX0_renderedBy_87 : decode cX0_renderedBy 87 = .ok (.iconst 1, 1) := by decide +kernel
theorem dX0_renderedBy_88 : decode cX0_renderedBy 88 = .ok (.isub, 1) := by decide +kernel
theorem dX0_renderedBy_89 : decode cX0_renderedBy 89 = .ok (.iconst 0, 1) := by decide +kernel
theorem dX0_renderedBy_90 : decode cX0_renderedBy 90 = .ok (.invokestatic 51, 3) := by decide +kernel
theorem dX0_renderedBy_93 : decode cX0_renderedBy 93 = .ok (.ireturn, 1) := by decide +kernel
theorem dX0_renderedBy_94 : decode cX0_renderedBy 94 = .ok (.iload_n 3, 1) := by decide +kernel
theorem dX0_renderedBy_95 : decode cX0_renderedBy 95 = .ok (.ireturn, 1) := by decide +kernel
set_option maxRecDepth 20000 in
theorem ggX0_comesOverWith_X0_interpreterOf : GoodIn wsX0_comesOverWith wsX0_interpreterOf := goodIn_r _ [6, 7, 8, 9, 10, 1, 11, 12, 13, 5, 14, 15, 16, 17, 18, 19, 20, 21, 29, 30, 31, 32, 33, 34, 35, 36, 37, 38, 39, 40] rfl (by decide +kernel)
set_option maxRecDepth 20000 in
theorem gX0_comesOverWith_X0_interpreterOf : GoodIn wsX0_comesOverWith (wsV RX0 64 RX0 yX0_interpreterOf wsX0_interpreterOf) := goodIn_app (goodIn_of _ (by decide +kernel)) ggX0_comesOverWith_X0_interpreterOf
set_option maxRecDepth 20000 in
theorem ggX0_comesOverWith_X0_renderedBy : GoodIn wsX0_comesOverWith wsX0_renderedBy := goodIn_r _ [25, 17, 18, 19, 20, 21, 16, 26, 27, 28, 29, 30, 31, 32, 33, 34, 35, 36, 37, 38, 39, 40] rfl (by decide +kernel)
set_option maxRecDepth 20000 in
theorem gX0_comesOverWith_X0_renderedBy : GoodIn wsX0_comesOverWith (wsV RX0 68 RX0 yX0_renderedBy wsX0_renderedBy) := goodIn_app (goodIn_of _ (by decide +kernel)) ggX0_comesOverWith_X0_renderedBy
theorem dX0_comesOverWith_0 : decode cX0_comesOverWith 0 = .ok (.aload_n 0, 1) := by decide +kernel
theorem dX0_comesOverWith_1 : decode cX0_comesOverWith 1 = .ok (.iload_n 1, 1) := by decide +kernel
theorem dX0_comesOverWith_2 : decode cX0_comesOverWith 2 = .ok (.invokevirtual 64, 3) := by decide +kernel
theorem dX0_comesOverWith_5 : decode cX0_comesOverWith 5 = .ok (.istore_n 2, 1) := by decide +kernel
theorem dX0_comesOverWith_6 : decode cX0_comesOverWith 6 = .ok (.iload_n 2, 1) := by decide +kernel
theorem dX0_comesOverWith_7 : decode cX0_comesOverWith 7 = .ok (.iconst (-1), 1) := by decide +kernel
theorem dX0_comesOverWith_8 : decode cX0_comesOverWith 8 = .ok (.if_icmp .ne 7, 3) := by decide +kernel
theorem dX0_comesOverWith_11 : decode cX0_comesOverWith 11 = .ok (.iconst 0, 1) := by decide +kernel
theorem dX0_comesOverWith_12 : decode cX0_comesOverWith 12 = .ok (.goto 14, 3) := by decide +kernel
theorem dX0_comesOverWith_15 : decode cX0_comesOverWith 15 = .ok (.aload_n 0, 1) := by decide +kernel
theorem dX0_comesOverWith_16 : decode cX0_comesOverWith 16 = .ok (.iload_n 2, 1) := by decide +kernel
theorem dX0_comesOverWith_17 : decode cX0_comesOverWith 17 = .ok (.aload_n 0, 1) := by decide +kernel
theorem dX0_comesOverWith_18 : decode cX0_comesOverWith 18 = .ok (.getfield 36, 3) := by decide +kernel
theorem dX0_comesOverWith_21 : decode cX0_comesOverWith 21 = .ok (.iload_n 1, 1) := by decide +kernel
theorem dX0_comesOverWith_22 : decode cX0_comesOverWith 22 = .ok (.iaload, 1) := by decide +kernel
theorem dX0_comesOverWith_23 : decode cX0_comesOverWith 23 = .ok (.invokevirtual 68, 3) := by decide +kernel
theorem dX0_comesOverWith_26 : decode cX0_comesOverWith 26 = .ok (.ireturn, 1) := by decide +kernel
theorem dX0_wouldWeep_0 : decode cX0_wouldWeep 0 = .ok (.aload_n 0, 1) := by decide +kernel
theorem dX0_wouldWeep_1 : decode cX0_wouldWeep 1 = .ok (.getfield 11, 3) := by decide +kernel
theorem dX0_wouldWeep_4 : decode cX0_wouldWeep 4 = .ok (.iload_n 1, 1) := by decide +kernel
theorem dX0_wouldWeep_5 : decode cX0_wouldWeep 5 = .ok (.iaload, 1) := by decide +kernel
theorem dX0_wouldWeep_6 : decode cX0_wouldWeep 6 = .ok (.tableswitch 118 1 5 #[34, 52, 54, 71, 100], 34) := by decide +kernel
theorem dX0_wouldWeep_40 : decode cX0_wouldWeep 40 = .ok (.aload_n 0, 1) := by decide +kernel
theorem dX0_wouldWeep_41 : decode cX0_wouldWeep 41 = .ok (.getfield 21, 3) := by decide +kernel
theorem dX0_wouldWeep_44 : decode cX0_wouldWeep 44 = .ok (.iload_n 1, 1) := by decide +kernel
theorem dX0_wouldWeep_45 : decode cX0_wouldWeep 45 = .ok (.iaload, 1) := by decide +kernel
theorem dX0_wouldWeep_46 : decode cX0_wouldWeep 46 = .ok (.sipush 400, 3) := by decide +kernel
theorem dX0_wouldWeep_49 : decode cX0_wouldWeep 49 = .ok (.if_icmp .lt 7, 3) := by decide +kernel
theorem dX0_wouldWeep_52 : decode cX0_wouldWeep 52 = .ok (.iconst 1, 1) := by decide +kernel
theorem dX0_wouldWeep_53 : decode cX0_wouldWeep 53 = .ok (.goto 4, 3) := by decide +kernel
theorem dX0_wouldWeep_56 : decode cX0_wouldWeep 56 = .ok (.iconst 0, 1) := by decide +kernel
theorem dX0_wouldWeep_57 : decode cX0_wouldWeep 57 = .ok (.ireturn, 1) := by decide +kernel
theorem dX0_wouldWeep_58 : decode cX0_wouldWeep 58 = .ok (.iconst 0, 1) := by decide +kernel
theorem dX0_wouldWeep_59 : decode cX0_wouldWeep 59 = .ok (.ireturn, 1) := by decide +kernel
theorem dX0_wouldWeep_60 : decode cX0_wouldWeep 60 = .ok (.aload_n 0, 1) := by decide +kernel
theorem dX0_wouldWeep_61 : decode cX0_wouldWeep 61 = .ok (.getfield 21, 3) := by decide +kernel
theorem dX0_wouldWeep_64 : decode cX0_wouldWeep 64 = .ok (.iload_n 1, 1) := by decide +kernel
theorem dX0_wouldWeep_65 : decode cX0_wouldWeep 65 = .ok (.iaload, 1) := by decide +kernel
theorem dX0_wouldWeep_66 : decode cX0_wouldWeep 66 = .ok (.bipush 40, 2) := by decide +kernel
theorem dX0_wouldWeep_68 : decode cX0_wouldWeep 68 = .ok (.if_icmp .lt 7, 3) := by decide +kernel
theorem dX0_wouldWeep_71 : decode cX0_wouldWeep 71 = .ok (.iconst 1, 1) := by decide +kernel
theorem dX0_wouldWeep_72 : decode cX0_wouldWeep 72 = .ok (.goto 4, 3) := by decide +kernel
theorem dX0_wouldWeep_75 : decode cX0_wouldWeep 75 = .ok (.iconst 0, 1) := by decide +kernel
theorem dX0_wouldWeep_76 : decode cX0_wouldWeep 76 = .ok (.ireturn, 1) := by decide +kernel
theorem dX0_wouldWeep_77 : decode cX0_wouldWeep 77 = .ok (.aload_n 0, 1) := by decide +kernel
theorem dX0_wouldWeep_78 : decode cX0_wouldWeep 78 = .ok (.getfield 21, 3) := by decide +kernel
theorem dX0_wouldWeep_81 : decode cX0_wouldWeep 81 = .ok (.iload_n 1, 1) := by decide +kernel
theorem dX0_wouldWeep_82 : decode cX0_wouldWeep 82 = .ok (.iaload, 1) := by decide +kernel
theorem dX0_wouldWeep_83 : decode cX0_wouldWeep 83 = .ok (.sipush 400, 3) := by decide +kernel
theorem dX0_wouldWeep_86 : decode cX0_wouldWeep 86 = .ok (.if_icmp .lt 18, 3) := by decide +kernel
theorem dX0_wouldWeep_89 : decode cX0_wouldWeep 89 = .ok (.aload_n 0, 1) := by decide +kernel
theorem dX0_wouldWeep_90 : decode cX0_wouldWeep 90 = .ok (.getfield 15, 3) := by decide +kernel
theorem dX0_wouldWeep_93 : decode cX0_wouldWeep 93 = .ok (.iload_n 1, 1) := by decide +kernel
theorem dX0_wouldWeep_94 : decode cX0_wouldWeep 94 = .ok (.iaload, 1) := by decide +kernel
theorem dX0_wouldWeep_95 : decode cX0_wouldWeep 95 = .ok (.bipush 10, 2) := by decide +kernel
theorem dX0_wouldWeep_97 : decode cX0_wouldWeep 97 = .ok (.if_icmp .gt 7, 3) := by decide +kernel
theorem dX0_wouldWeep_100 : decode cX0_wouldWeep 100 = .ok (.iconst 1, 1) := by decide +kernel
theorem dX0_wouldWeep_101 : decode cX0_wouldWeep 101 = .ok (.goto 4, 3) := by decide +kernel
theorem dX0_wouldWeep_104 : decode cX0_wouldWeep 104 = .ok (.iconst 0, 1) := by decide +kernel
theorem dX0_wouldWeep_105 : decode cX0_wouldWeep 105 = .ok (.ireturn, 1) := by decide +kernel
theorem dX0_wouldWeep_106 : decode cX0_wouldWeep 106 = .ok (.aload_n 0, 1) := by decide +kernel
theorem dX0_wouldWeep_107 : decode cX0_wouldWeep 107 = .ok (.getfield 71, 3) := by decide +kernel
theorem dX0_wouldWeep_110 : decode cX0_wouldWeep 110 = .ok (.bipush 7, 2) := by decide +kernel
theorem dX0_wouldWeep_112 : decode cX0_wouldWeep 112 = .ok (.irem, 1) := by decide +kernel
theorem dX0_wouldWeep_113 : decode cX0_wouldWeep 113 = .ok (.bipush 6, 2) := by decide +kernel
theorem dX0_wouldWeep_115 : decode cX0_wouldWeep 115 = .ok (.if_icmp .ne 7, 3) := by decide +kernel
theorem dX0_wouldWeep_118 : decode cX0_wouldWeep 118 = .ok (.iconst 1, 1) := by decide +kernel
theorem dX0_wouldWeep_119 : decode cX0_wouldWeep 119 = .ok (.goto 4, 3) := by decide +kernel
theorem dX0_wouldWeep_122 : decode cX0_wouldWeep 122 = .ok (.iconst 0, 1) := by decide +kernel
theorem dX0_wouldWeep_123 : decode cX0_wouldWeep 123 = .ok (.ireturn, 1) := by decide +kernel
theorem dX0_wouldWeep_124 : decode cX0_wouldWeep 124 = .ok (.aload_n 0, 1) := by decide +kernel
theorem dX0_wouldWeep_125 : decode cX0_wouldWeep 125 = .ok (.getfield 21, 3) := by decide +kernel
theorem dX0_wouldWeep_128 : decode cX0_wouldWeep 128 = .ok (.iload_n 1, 1) := by decide +kernel
theorem dX0_wouldWeep_129 : decode cX0_wouldWeep 129 = .ok (.iaload, 1) := by decide +kernel
theorem dX0_wouldWeep_130 : decode cX0_wouldWeep 130 = .ok (.bipush 100, 2) := by decide +kernel
theorem dX0_wouldWeep_132 : decode cX0_wouldWeep 132 = .ok (.if_icmp .lt 7, 3) := by decide +kernel
theorem dX0_wouldWeep_135 : decode cX0_wouldWeep 135 = .ok (.iconst 1, 1) := by decide +kernel
theorem dX0_wouldWeep_136 : decode cX0_wouldWeep 136 = .ok (.goto 4, 3) := by decide +kernel
theorem dX0_wouldWeep_139 : decode cX0_wouldWeep 139 = .ok (.iconst 0, 1) := by decide +kernel
theorem dX0_wouldWeep_140 : decode cX0_wouldWeep 140 = .ok (.ireturn, 1) := by decide +kernel
set_option maxRecDepth 20000 in
theorem ggX0_hurtBy_X0_comesOverWith : GoodIn wsX0_hurtBy wsX0_comesOverWith := goodIn_r _ [6, 7, 8, 9, 10, 5, 11, 1, 12, 13, 14, 15, 16, 17, 18, 19, 20, 21, 22, 23, 24, 25, 26, 27, 28, 29, 30, 31, 32, 33, 34, 35, 36, 37, 38, 39, 40, 41, 42, 43, 44] rfl (by decide +kernel)
set_option maxRecDepth 20000 in
theorem gX0_hurtBy_X0_comesOverWith : GoodIn wsX0_hurtBy (wsV RX0 74 RX0 yX0_comesOverWith wsX0_comesOverWith) := goodIn_app (goodIn_of _ (by decide +kernel)) ggX0_hurtBy_X0_comesOverWith
set_option maxRecDepth 20000 in
theorem ggX0_hurtBy_X0_lossOf : GoodIn wsX0_hurtBy wsX0_lossOf := goodIn_r _ [18, 12, 19, 14, 20, 21, 22, 23, 24, 25, 33, 34, 35, 36, 37, 38, 39, 40, 41, 42, 43, 44] rfl (by decide +kernel)
set_option maxRecDepth 20000 in
theorem gX0_hurtBy_X0_lossOf : GoodIn wsX0_hurtBy (wsV RX0 57 RX0 yX0_lossOf wsX0_lossOf) := goodIn_app (goodIn_of _ (by decide +kernel)) ggX0_hurtBy_X0_lossOf
theorem dX0_hurtBy_0 : decode cX0_hurtBy 0 = .ok (.aload_n 0, 1) := by decide +kernel
theorem dX0_hurtBy_1 : decode cX0_hurtBy 1 = .ok (.iload_n 1, 1) := by decide +kernel
theorem dX0_hurtBy_2 : decode cX0_hurtBy 2 = .ok (.invokevirtual 74, 3) := by decide +kernel
theorem dX0_hurtBy_5 : decode cX0_hurtBy 5 = .ok (.istore_n 2, 1) := by decide +kernel
theorem dX0_hurtBy_6 : decode cX0_hurtBy 6 = .ok (.iconst 0, 1) := by decide +kernel
theorem dX0_hurtBy_7 : decode cX0_hurtBy 7 = .ok (.istore_n 3, 1) := by decide +kernel
theorem dX0_hurtBy_8 : decode cX0_hurtBy 8 = .ok (.iconst 0, 1) := by decide +kernel
theorem dX0_hurtBy_9 : decode cX0_hurtBy 9 = .ok (.istore 4, 2) := by decide +kernel
theorem dX0_hurtBy_11 : decode cX0_hurtBy 11 = .ok (.iload 4, 2) := by decide +kernel
theorem dX0_hurtBy_13 : decode cX0_hurtBy 13 = .ok (.aload_n 0, 1) := by decide +kernel
theorem dX0_hurtBy_14 : decode cX0_hurtBy 14 = .ok (.getfield 39, 3) := by decide +kernel
theorem dX0_hurtBy_17 : decode cX0_hurtBy 17 = .ok (.if_icmp .ge 27, 3) := by decide +kernel
theorem dX0_hurtBy_20 : decode cX0_hurtBy 20 = .ok (.aload_n 0, 1) := by decide +kernel
theorem dX0_hurtBy_21 : decode cX0_hurtBy 21 = .ok (.iload 4, 2) := by decide +kernel
theorem dX0_hurtBy_23 : decode cX0_hurtBy 23 = .ok (.iload_n 1, 1) := by decide +kernel
theorem dX0_hurtBy_24 : decode cX0_hurtBy 24 = .ok (.iload_n 2, 1) := by decide +kernel
theorem dX0_hurtBy_25 : decode cX0_hurtBy 25 = .ok (.invokevirtual 57, 3) := by decide +kernel
theorem dX0_hurtBy_28 : decode cX0_hurtBy 28 = .ok (.ifCond .le 10, 3) := by decide +kernel
theorem dX0_hurtBy_31 : decode cX0_hurtBy 31 = .ok (.iload_n 3, 1) := by decide +kernel
theorem dX0_hurtBy_32 : decode cX0_hurtBy 32 = .ok (.iconst 1, 1) := by decide +kernel
theorem dX0_hurtBy_33 : decode cX0_hurtBy 33 = .ok (.iload 4, 2) := by decide +kernel
theorem dX0_hurtBy_35 : decode cX0_hurtBy 35 = .ok (.ishl, 1) := by decide +kernel
theorem dX0_hurtBy_36 : decode cX0_hurtBy 36 = .ok (.ior, 1) := by decide +kernel
theorem dX0_hurtBy_37 : decode cX0_hurtBy 37 = .ok (.istore_n 3, 1) := by decide +kernel
theorem dX0_hurtBy_38 : decode cX0_hurtBy 38 = .ok (.iinc 4 1, 3) := by decide +kernel
theorem dX0_hurtBy_41 : decode cX0_hurtBy 41 = .ok (.goto (-30), 3) := by decide +kernel
theorem dX0_hurtBy_44 : decode cX0_hurtBy 44 = .ok (.iload_n 3, 1) := by decide +kernel
theorem dX0_hurtBy_45 : decode cX0_hurtBy 45 = .ok (.ireturn, 1) := by decide +kernel
theorem dX0_nextSpeech_0 : decode cX0_nextSpeech 0 = .ok (.aload_n 0, 1) := by decide +kernel
theorem dX0_nextSpeech_1 : decode cX0_nextSpeech 1 = .ok (.getfield 43, 3) := by decide +kernel
theorem dX0_nextSpeech_4 : decode cX0_nextSpeech 4 = .ok (.ifCond .le 15, 3) := by decide +kernel
theorem dX0_nextSpeech_7 : decode cX0_nextSpeech 7 = .ok (.aload_n 0, 1) := by decide +kernel
theorem dX0_nextSpeech_8 : decode cX0_nextSpeech 8 = .ok (.getfield 71, 3) := by decide +kernel
theorem dX0_nextSpeech_11 : decode cX0_nextSpeech 11 = .ok (.aload_n 0, 1) := by decide +kernel
theorem dX0_nextSpeech_12 : decode cX0_nextSpeech 12 = .ok (.getfield 43, 3) := by decide +kernel
theorem dX0_nextSpeech_15 : decode cX0_nextSpeech 15 = .ok (.irem, 1) := by decide +kernel
theorem dX0_nextSpeech_16 : decode cX0_nextSpeech 16 = .ok (.goto 4, 3) := by decide +kernel
theorem dX0_nextSpeech_19 : decode cX0_nextSpeech 19 = .ok (.iconst (-1), 1) := by decide +kernel
theorem dX0_nextSpeech_20 : decode cX0_nextSpeech 20 = .ok (.ireturn, 1) := by decide +kernel
set_option maxRecDepth 20000 in
theorem ggX0_goOn_X0_goOne : GoodIn wsX0_goOn wsX0_goOne := goodIn_r _ [5, 6, 7, 8, 9, 10, 4, 11, 12, 13, 14, 15, 16, 17, 18, 19, 20, 21, 22, 23, 24, 25, 26, 27, 28, 29, 30, 31, 32, 33, 34, 35, 36, 37, 38, 39, 40, 41, 42, 43, 44, 45, 46, 47, 48, 49, 50, 51, 52, 53, 54, 55, 56, 57, 58, 59, 60, 61, 62, 63, 64, 65] rfl (by decide +kernel)
set_option maxRecDepth 20000 in
theorem gX0_goOn_X0_goOne : GoodIn wsX0_goOn (wsV RX0 77 RX0 yX0_goOne wsX0_goOne) := goodIn_app (goodIn_of _ (by decide +kernel)) ggX0_goOn_X0_goOne
theorem dX0_goOn_0 : decode cX0_goOn 0 = .ok (.iconst 0, 1) := by decide +kernel
theorem dX0_goOn_1 : decode cX0_goOn 1 = .ok (.istore_n 2, 1) := by decide +kernel
theorem dX0_goOn_2 : decode cX0_goOn 2 = .ok (.iload_n 2, 1) := by decide +kernel
theorem dX0_goOn_3 : decode cX0_goOn 3 = .ok (.iload_n 1, 1) := by decide +kernel
theorem dX0_goOn_4 : decode cX0_goOn 4 = .ok (.if_icmp .ge 14, 3) := by decide +kernel
theorem dX0_goOn_7 : decode cX0_goOn 7 = .ok (.aload_n 0, 1) := by decide +kernel
theorem dX0_goOn_8 : decode cX0_goOn 8 = .ok (.invokevirtual 77, 3) := by decide +kernel
theorem dX0_goOn_11 : decode cX0_goOn 11 = .ok (.pop, 1) := by decide +kernel
theorem dX0_goOn_12 : decode cX0_goOn 12 = .ok (.iinc 2 1, 3) := by decide +kernel
theorem dX0_goOn_15 : decode cX0_goOn 15 = .ok (.goto (-13), 3) := by decide +kernel
theorem dX0_goOn_18 : decode cX0_goOn 18 = .ok (.return_, 1) := by decide +kernel
set_option maxRecDepth 20000 in
theorem ggX0_goOne_X0_nextSpeech : GoodIn wsX0_goOne wsX0_nextSpeech := goodIn_r _ [7, 8, 2, 50, 51, 52, 53, 54, 55, 56, 57, 58, 59, 60, 61] rfl (by decide +kernel)
set_option maxRecDepth 20000 in
theorem gX0_goOne_X0_nextSpeech : GoodIn wsX0_goOne (wsV RX0 81 RX0 yX0_nextSpeech wsX0_nextSpeech) := goodIn_app (goodIn_of _ (by decide +kernel)) ggX0_goOne_X0_nextSpeech
set_option maxRecDepth 20000 in
theorem ggX0_goOne_X0_interpreterOf : GoodIn wsX0_goOne wsX0_interpreterOf := goodIn_r _ [12, 13, 14, 15, 16, 1, 17, 18, 19, 6, 20, 21, 22, 23, 24, 25, 26, 27, 50, 51, 52, 53, 54, 55, 56, 57, 58, 59, 60, 61] rfl (by decide +kernel)
set_option maxRecDepth 20000 in
theorem gX0_goOne_X0_interpreterOf : GoodIn wsX0_goOne (wsV RX0 64 RX0 yX0_interpreterOf wsX0_interpreterOf) := goodIn_app (goodIn_of _ (by decide +kernel)) ggX0_goOne_X0_interpreterOf
set_option maxRecDepth 20000 in
theorem ggX0_goOne_X0_renderedBy : GoodIn wsX0_goOne wsX0_renderedBy := goodIn_r _ [31, 23, 24, 25, 26, 27, 22, 32, 33, 34, 50, 51, 52, 53, 54, 55, 56, 57, 58, 59, 60, 61] rfl (by decide +kernel)
set_option maxRecDepth 20000 in
theorem gX0_goOne_X0_renderedBy : GoodIn wsX0_goOne (wsV RX0 68 RX0 yX0_renderedBy wsX0_renderedBy) := goodIn_app (goodIn_of _ (by decide +kernel)) ggX0_goOne_X0_renderedBy
set_option maxRecDepth 20000 in
theorem ggX0_goOne_X0_hurtEach : GoodIn wsX0_goOne wsX0_hurtEach := goodIn_r _ [38, 13, 39, 40, 32, 33, 26, 34, 17, 18, 19, 6, 20, 14, 21, 16, 22, 23, 24, 25, 27, 50, 51, 52, 53, 54, 55, 56, 57, 58, 59, 60, 61] rfl (by decide +kernel)
set_option maxRecDepth 20000 in
theorem gX0_goOne_X0_hurtEach : GoodIn wsX0_goOne (wsV RX0 84 RX0 yX0_hurtEach wsX0_hurtEach) := goodIn_app (goodIn_of _ (by decide +kernel)) ggX0_goOne_X0_hurtEach
set_option maxRecDepth 20000 in
theorem ggX0_goOne_X0_wouldWeep : GoodIn wsX0_goOne wsX0_wouldWeep := goodIn_r _ [44, 22, 39, 23, 2, 50, 51, 52, 53, 54, 55, 56, 57, 58, 59, 60, 61] rfl (by decide +kernel)
set_option maxRecDepth 20000 in
theorem gX0_goOne_X0_wouldWeep : GoodIn wsX0_goOne (wsV RX0 88 RX0 yX0_wouldWeep wsX0_wouldWeep) := goodIn_app (goodIn_of _ (by decide +kernel)) ggX0_goOne_X0_wouldWeep
set_option maxRecDepth 20000 in
theorem ggX0_goOne_X0_weepOver : GoodIn wsX0_goOne wsX0_weepOver := goodIn_r _ [48, 49, 32, 33, 26, 34, 39, 1, 50, 51, 52, 53, 54, 55, 56, 57, 58, 59, 60, 61] rfl (by decide +kernel)
set_option maxRecDepth 20000 in
theorem gX0_goOne_X0_weepOver : GoodIn wsX0_goOne (wsV RX0 91 RX0 yX0_weepOver wsX0_weepOver) := goodIn_app (goodIn_of _ (by decide +kernel)) ggX0_goOne_X0_weepOver
theorem dX0_goOne_0 : decode cX0_goOne 0 = .ok (.aload_n 0, 1) := by decide +kernel
theorem dX0_goOne_1 : decode cX0_goOne 1 = .ok (.invokevirtual 81, 3) := by decide +kernel
theorem dX0_goOne_4 : decode cX0_goOne 4 = .ok (.istore_n 1, 1) := by decide +kernel
theorem dX0_goOne_5 : decode cX0_goOne 5 = .ok (.iload_n 1, 1) := by decide +kernel
theorem dX0_goOne_6 : decode cX0_goOne 6 = .ok (.ifCond .lt 11, 3) := by decide +kernel
theorem dX0_goOne_9 : decode cX0_goOne 9 = .ok (.aload_n 0, 1) := by decide +kernel
theorem dX0_goOne_10 : decode cX0_goOne 10 = .ok (.iload_n 1, 1) := by decide +kernel
theorem dX0_goOne_11 : decode cX0_goOne 11 = .ok (.invokevirtual 64, 3) := by decide +kernel
theorem dX0_goOne_14 : decode cX0_goOne 14 = .ok (.goto 4, 3) := by decide +kernel
theorem dX0_goOne_17 : decode cX0_goOne 17 = .ok (.iconst (-1), 1) := by decide +kernel
theorem dX0_goOne_18 : decode cX0_goOne 18 = .ok (.istore_n 2, 1) := by decide +kernel
theorem dX0_goOne_19 : decode cX0_goOne 19 = .ok (.iconst (-1), 1) := by decide +kernel
theorem dX0_goOne_20 : decode cX0_goOne 20 = .ok (.istore_n 3, 1) := by decide +kernel
theorem dX0_goOne_21 : decode cX0_goOne 21 = .ok (.iload_n 2, 1) := by decide +kernel
theorem dX0_goOne_22 : decode cX0_goOne 22 = .ok (.iconst (-1), 1) := by decide +kernel
theorem dX0_goOne_23 : decode cX0_goOne 23 = .ok (.if_icmp .eq 35, 3) := by decide +kernel
theorem dX0_goOne_26 : decode cX0_goOne 26 = .ok (.aload_n 0, 1) := by decide +kernel
theorem dX0_goOne_27 : decode cX0_goOne 27 = .ok (.iload_n 1, 1) := by decide +kernel
theorem dX0_goOne_28 : decode cX0_goOne 28 = .ok (.aload_n 0, 1) := by decide +kernel
theorem dX0_goOne_29 : decode cX0_goOne 29 = .ok (.iload_n 2, 1) := by decide +kernel
theorem dX0_goOne_30 : decode cX0_goOne 30 = .ok (.aload_n 0, 1) := by decide +kernel
theorem dX0_goOne_31 : decode cX0_goOne 31 = .ok (.getfield 36, 3) := by decide +kernel
theorem dX0_goOne_34 : decode cX0_goOne 34 = .ok (.iload_n 1, 1) := by decide +kernel
theorem dX0_goOne_35 : decode cX0_goOne 35 = .ok (.iaload, 1) := by decide +kernel
theorem dX0_goOne_36 : decode cX0_goOne 36 = .ok (.invokevirtual 68, 3) := by decide +kernel
theorem dX0_goOne_39 : decode cX0_goOne 39 = .ok (.invokevirtual 84, 3) := by decide +kernel
theorem dX0_goOne_42 : decode cX0_goOne 42 = .ok (.aload_n 0, 1) := by decide +kernel
theorem dX0_goOne_43 : decode cX0_goOne 43 = .ok (.iload_n 2, 1) := by decide +kernel
theorem dX0_goOne_44 : decode cX0_goOne 44 = .ok (.invokevirtual 88, 3) := by decide +kernel
theorem dX0_goOne_47 : decode cX0_goOne 47 = .ok (.ifCond .eq 11, 3) := by decide +kernel
theorem dX0_goOne_50 : decode cX0_goOne 50 = .ok (.aload_n 0, 1) := by decide +kernel
theorem dX0_goOne_51 : decode cX0_goOne 51 = .ok (.iload_n 2, 1) := by decide +kernel
theorem dX0_goOne_52 : decode cX0_goOne 52 = .ok (.iload_n 1, 1) := by decide +kernel
theorem dX0_goOne_53 : decode cX0_goOne 53 = .ok (.invokevirtual 91, 3) := by decide +kernel
theorem dX0_goOne_56 : decode cX0_goOne 56 = .ok (.iload_n 2, 1) := by decide +kernel
theorem dX0_goOne_57 : decode cX0_goOne 57 = .ok (.istore_n 3, 1) := by decide +kernel
theorem dX0_goOne_58 : decode cX0_goOne 58 = .ok (.aload_n 0, 1) := by decide +kernel
theorem dX0_goOne_59 : decode cX0_goOne 59 = .ok (.dup, 1) := by decide +kernel
theorem dX0_goOne_60 : decode cX0_goOne 60 = .ok (.getfield 71, 3) := by decide +kernel
theorem dX0_goOne_63 : decode cX0_goOne 63 = .ok (.iconst 1, 1) := by decide +kernel
theorem dX0_goOne_64 : decode cX0_goOne 64 = .ok (.iadd, 1) := by decide +kernel
theorem dX0_goOne_65 : decode cX0_goOne 65 = .ok (.putfield 71, 3) := by decide +kernel
theorem dX0_goOne_68 : decode cX0_goOne 68 = .ok (.iload_n 3, 1) := by decide +kernel
theorem dX0_goOne_69 : decode cX0_goOne 69 = .ok (.ireturn, 1) := by decide +kernel
set_option maxRecDepth 20000 in
theorem ggX0_hurtEach_X0_lossOf : GoodIn wsX0_hurtEach wsX0_lossOf := goodIn_r _ [12, 13, 14, 15, 16, 17, 18, 19, 6, 20, 21, 22, 23, 24, 25, 26, 27, 28, 29, 30, 31, 32] rfl (by decide +kernel)
set_option maxRecDepth 20000 in
theorem gX0_hurtEach_X0_lossOf : GoodIn wsX0_hurtEach (wsV RX0 57 RX0 yX0_lossOf wsX0_lossOf) := goodIn_app (goodIn_of _ (by decide +kernel)) ggX0_hurtEach_X0_lossOf
theorem dX0_hurtEach_0 : decode cX0_hurtEach 0 = .ok (.iconst 0, 1) := by decide +kernel
theorem dX0_hurtEach_1 : decode cX0_hurtEach 1 = .ok (.istore_n 3, 1) := by decide +kernel
theorem dX0_hurtEach_2 : decode cX0_hurtEach 2 = .ok (.iload_n 3, 1) := by decide +kernel
theorem dX0_hurtEach_3 : decode cX0_hurtEach 3 = .ok (.aload_n 0, 1) := by decide +kernel
theorem dX0_hurtEach_4 : decode cX0_hurtEach 4 = .ok (.getfield 39, 3) := by decide +kernel
theorem dX0_hurtEach_7 : decode cX0_hurtEach 7 = .ok (.if_icmp .ge 34, 3) := by decide +kernel
theorem dX0_hurtEach_10 : decode cX0_hurtEach 10 = .ok (.aload_n 0, 1) := by decide +kernel
theorem dX0_hurtEach_11 : decode cX0_hurtEach 11 = .ok (.getfield 21, 3) := by decide +kernel
theorem dX0_hurtEach_14 : decode cX0_hurtEach 14 = .ok (.iload_n 3, 1) := by decide +kernel
theorem dX0_hurtEach_15 : decode cX0_hurtEach 15 = .ok (.aload_n 0, 1) := by decide +kernel
theorem dX0_hurtEach_16 : decode cX0_hurtEach 16 = .ok (.getfield 21, 3) := by decide +kernel
theorem dX0_hurtEach_19 : decode cX0_hurtEach 19 = .ok (.iload_n 3, 1) := by decide +kernel
theorem dX0_hurtEach_20 : decode cX0_hurtEach 20 = .ok (.iaload, 1) := by decide +kernel
theorem dX0_hurtEach_21 : decode cX0_hurtEach 21 = .ok (.aload_n 0, 1) := by decide +kernel
theorem dX0_hurtEach_22 : decode cX0_hurtEach 22 = .ok (.iload_n 3, 1) := by decide +kernel
theorem dX0_hurtEach_23 : decode cX0_hurtEach 23 = .ok (.iload_n 1, 1) := by decide +kernel
theorem dX0_hurtEach_24 : decode cX0_hurtEach 24 = .ok (.iload_n 2, 1) := by decide +kernel
theorem dX0_hurtEach_25 : decode cX0_hurtEach 25 = .ok (.invokevirtual 57, 3) := by decide +kernel
theorem dX0_hurtEach_28 : decode cX0_hurtEach 28 = .ok (.iadd, 1) := by decide +kernel
theorem dX0_hurtEach_29 : decode cX0_hurtEach 29 = .ok (.ldc 46, 2) := by decide +kernel
theorem dX0_hurtEach_31 : decode cX0_hurtEach 31 = .ok (.invokestatic 61, 3) := by decide +kernel
theorem dX0_hurtEach_34 : decode cX0_hurtEach 34 = .ok (.iastore, 1) := by decide +kernel
theorem dX0_hurtEach_35 : decode cX0_hurtEach 35 = .ok (.iinc 3 1, 3) := by decide +kernel
theorem dX0_hurtEach_38 : decode cX0_hurtEach 38 = .ok (.goto (-36), 3) := by decide +kernel
theorem dX0_hurtEach_41 : decode cX0_hurtEach 41 = .ok (.return_, 1) := by decide +kernel
theorem dX0_weepOver_0 : decode cX0_weepOver 0 = .ok (.aload_n 0, 1) := by decide +kernel
theorem dX0_weepOver_1 : decode cX0_weepOver 1 = .ok (.getfield 24, 3) := by decide +kernel
theorem dX0_weepOver_4 : decode cX0_weepOver 4 = .ok (.iload_n 1, 1) := by decide +kernel
theorem dX0_weepOver_5 : decode cX0_weepOver 5 = .ok (.aload_n 0, 1) := by decide +kernel
theorem dX0_weepOver_6 : decode cX0_weepOver 6 = .ok (.getfield 24, 3) := by decide +kernel
theorem dX0_weepOver_9 : decode cX0_weepOver 9 = .ok (.iload_n 1, 1) := by decide +kernel
theorem dX0_weepOver_10 : decode cX0_weepOver 10 = .ok (.iaload, 1) := by decide +kernel
theorem dX0_weepOver_11 : decode cX0_weepOver 11 = .ok (.iconst 1, 1) := by decide +kernel
theorem dX0_weepOver_12 : decode cX0_weepOver 12 = .ok (.iadd, 1) := by decide +kernel
theorem dX0_weepOver_13 : decode cX0_weepOver 13 = .ok (.sipush 999, 3) := by decide +kernel
theorem dX0_weepOver_16 : decode cX0_weepOver 16 = .ok (.invokestatic 61, 3) := by decide +kernel
theorem dX0_weepOver_19 : decode cX0_weepOver 19 = .ok (.iastore, 1) := by decide +kernel
theorem dX0_weepOver_20 : decode cX0_weepOver 20 = .ok (.aload_n 0, 1) := by decide +kernel
theorem dX0_weepOver_21 : decode cX0_weepOver 21 = .ok (.getfield 21, 3) := by decide +kernel
theorem dX0_weepOver_24 : decode cX0_weepOver 24 = .ok (.iload_n 1, 1) := by decide +kernel
theorem dX0_weepOver_25 : decode cX0_weepOver 25 = .ok (.dup2, 1) := by decide +kernel
theorem dX0_weepOver_26 : decode cX0_weepOver 26 = .ok (.iaload, 1) := by decide +kernel
theorem dX0_weepOver_27 : decode cX0_weepOver 27 = .ok (.iconst 2, 1) := by decide +kernel
theorem dX0_weepOver_28 : decode cX0_weepOver 28 = .ok (.idiv, 1) := by decide +kernel
theorem dX0_weepOver_29 : decode cX0_weepOver 29 = .ok (.iastore, 1) := by decide +kernel
theorem dX0_weepOver_30 : decode cX0_weepOver 30 = .ok (.aload_n 0, 1) := by decide +kernel
theorem dX0_weepOver_31 : decode cX0_weepOver 31 = .ok (.getfield 36, 3) := by decide +kernel
theorem dX0_weepOver_34 : decode cX0_weepOver 34 = .ok (.iload_n 2, 1) := by decide +kernel
theorem dX0_weepOver_35 : decode cX0_weepOver 35 = .ok (.dup2, 1) := by decide +kernel
theorem dX0_weepOver_36 : decode cX0_weepOver 36 = .ok (.iaload, 1) := by decide +kernel
theorem dX0_weepOver_37 : decode cX0_weepOver 37 = .ok (.iconst 2, 1) := by decide +kernel
theorem dX0_weepOver_38 : decode cX0_weepOver 38 = .ok (.idiv, 1) := by decide +kernel
theorem dX0_weepOver_39 : decode cX0_weepOver 39 = .ok (.iastore, 1) := by decide +kernel
theorem dX0_weepOver_40 : decode cX0_weepOver 40 = .ok (.return_, 1) := by decide +kernel
set_option maxRecDepth 20000 in
theorem ggX0_gestured_X0_interpreterOf : GoodIn wsX0_gestured wsX0_interpreterOf := goodIn_r _ [6, 7, 8, 9, 10, 11, 12, 13, 14, 5, 15, 16, 17, 18, 19, 20, 21, 22, 23, 24, 25, 26, 27, 28, 29, 30, 31, 32, 33, 34] rfl (by decide +kernel)
set_option maxRecDepth 20000 in
theorem gX0_gestured_X0_interpreterOf : GoodIn wsX0_gestured (wsV RX0 64 RX0 yX0_interpreterOf wsX0_interpreterOf) := goodIn_app (goodIn_of _ (by decide +kernel)) ggX0_gestured_X0_interpreterOf
theorem dX0_gestured_0 : decode cX0_gestured 0 = .ok (.iconst 0, 1) := by decide +kernel
theorem dX0_gestured_1 : decode cX0_gestured 1 = .ok (.istore_n 1, 1) := by decide +kernel
theorem dX0_gestured_2 : decode cX0_gestured 2 = .ok (.iconst 0, 1) := by decide +kernel
theorem dX0_gestured_3 : decode cX0_gestured 3 = .ok (.istore_n 2, 1) := by decide +kernel
theorem dX0_gestured_4 : decode cX0_gestured 4 = .ok (.iload_n 2, 1) := by decide +kernel
theorem dX0_gestured_5 : decode cX0_gestured 5 = .ok (.aload_n 0, 1) := by decide +kernel
theorem dX0_gestured_6 : decode cX0_gestured 6 = .ok (.getfield 43, 3) := by decide +kernel
theorem dX0_gestured_9 : decode cX0_gestured 9 = .ok (.if_icmp .ge 24, 3) := by decide +kernel
theorem dX0_gestured_12 : decode cX0_gestured 12 = .ok (.aload_n 0, 1) := by decide +kernel
theorem dX0_gestured_13 : decode cX0_gestured 13 = .ok (.iload_n 2, 1) := by decide +kernel
theorem dX0_gestured_14 : decode cX0_gestured 14 = .ok (.invokevirtual 64, 3) := by decide +kernel
theorem dX0_gestured_17 : decode cX0_gestured 17 = .ok (.iconst (-1), 1) := by decide +kernel
theorem dX0_gestured_18 : decode cX0_gestured 18 = .ok (.if_icmp .ne 9, 3) := by decide +kernel
theorem dX0_gestured_21 : decode cX0_gestured 21 = .ok (.iload_n 1, 1) := by decide +kernel
theorem dX0_gestured_22 : decode cX0_gestured 22 = .ok (.iconst 1, 1) := by decide +kernel
theorem dX0_gestured_23 : decode cX0_gestured 23 = .ok (.iload_n 2, 1) := by decide +kernel
theorem dX0_gestured_24 : decode cX0_gestured 24 = .ok (.ishl, 1) := by decide +kernel
theorem dX0_gestured_25 : decode cX0_gestured 25 = .ok (.ior, 1) := by decide +kernel
theorem dX0_gestured_26 : decode cX0_gestured 26 = .ok (.istore_n 1, 1) := by decide +kernel
theorem dX0_gestured_27 : decode cX0_gestured 27 = .ok (.iinc 2 1, 3) := by decide +kernel
theorem dX0_gestured_30 : decode cX0_gestured 30 = .ok (.goto (-26), 3) := by decide +kernel
theorem dX0_gestured_33 : decode cX0_gestured 33 = .ok (.iload_n 1, 1) := by decide +kernel
theorem dX0_gestured_34 : decode cX0_gestured 34 = .ok (.ireturn, 1) := by decide +kernel
set_option maxRecDepth 20000 in
theorem ggX0_hurtOfAll_X0_sumOf : GoodIn wsX0_hurtOfAll wsX0_sumOf := goodIn_r _ [6] rfl (by decide +kernel)
set_option maxRecDepth 20000 in
theorem gX0_hurtOfAll_X0_sumOf : GoodIn wsX0_hurtOfAll (va_wsS RX0 94 yX0_sumOf wsX0_sumOf) := goodIn_app (goodIn_of _ (by decide +kernel)) ggX0_hurtOfAll_X0_sumOf
theorem dX0_hurtOfAll_0 : decode cX0_hurtOfAll 0 = .ok (.aload_n 0, 1) := by decide +kernel
theorem dX0_hurtOfAll_1 : decode cX0_hurtOfAll 1 = .ok (.getfield 21, 3) := by decide +kernel
theorem dX0_hurtOfAll_4 : decode cX0_hurtOfAll 4 = .ok (.aload_n 0, 1) := by decide +kernel
theorem dX0_hurtOfAll_5 : decode cX0_hurtOfAll 5 = .ok (.getfield 39, 3) := by decide +kernel
theorem dX0_hurtOfAll_8 : decode cX0_hurtOfAll 8 = .ok (.invokestatic 94, 3) := by decide +kernel
theorem dX0_hurtOfAll_11 : decode cX0_hurtOfAll 11 = .ok (.ireturn, 1) := by decide +kernel
set_option maxRecDepth 20000 in
theorem ggX0_weptOfAll_X0_sumOf : GoodIn wsX0_weptOfAll wsX0_sumOf := goodIn_r _ [6] rfl (by decide +kernel)
set_option maxRecDepth 20000 in
theorem gX0_weptOfAll_X0_sumOf : GoodIn wsX0_weptOfAll (va_wsS RX0 94 yX0_sumOf wsX0_sumOf) := goodIn_app (goodIn_of _ (by decide +kernel)) ggX0_weptOfAll_X0_sumOf
theorem dX0_weptOfAll_0 : decode cX0_weptOfAll 0 = .ok (.aload_n 0, 1) := by decide +kernel
theorem dX0_weptOfAll_1 : decode cX0_weptOfAll 1 = .ok (.getfield 24, 3) := by decide +kernel
theorem dX0_weptOfAll_4 : decode cX0_weptOfAll 4 = .ok (.aload_n 0, 1) := by decide +kernel
theorem dX0_weptOfAll_5 : decode cX0_weptOfAll 5 = .ok (.getfield 39, 3) := by decide +kernel
theorem dX0_weptOfAll_8 : decode cX0_weptOfAll 8 = .ok (.invokestatic 94, 3) := by decide +kernel
theorem dX0_weptOfAll_11 : decode cX0_weptOfAll 11 = .ok (.ireturn, 1) := by decide +kernel
set_option maxRecDepth 20000 in
theorem ggX0_forceOfAll_X0_sumOf : GoodIn wsX0_forceOfAll wsX0_sumOf := goodIn_r _ [6] rfl (by decide +kernel)
set_option maxRecDepth 20000 in
theorem gX0_forceOfAll_X0_sumOf : GoodIn wsX0_forceOfAll (va_wsS RX0 94 yX0_sumOf wsX0_sumOf) := goodIn_app (goodIn_of _ (by decide +kernel)) ggX0_forceOfAll_X0_sumOf
theorem dX0_forceOfAll_0 : decode cX0_forceOfAll 0 = .ok (.aload_n 0, 1) := by decide +kernel
theorem dX0_forceOfAll_1 : decode cX0_forceOfAll 1 = .ok (.getfield 36, 3) := by decide +kernel
theorem dX0_forceOfAll_4 : decode cX0_forceOfAll 4 = .ok (.aload_n 0, 1) := by decide +kernel
theorem dX0_forceOfAll_5 : decode cX0_forceOfAll 5 = .ok (.getfield 43, 3) := by decide +kernel
theorem dX0_forceOfAll_8 : decode cX0_forceOfAll 8 = .ok (.invokestatic 94, 3) := by decide +kernel
theorem dX0_forceOfAll_11 : decode cX0_forceOfAll 11 = .ok (.ireturn, 1) := by decide +kernel
theorem dX0_sumOf_0 : decode cX0_sumOf 0 = .ok (.iconst 0, 1) := by decide +kernel
theorem dX0_sumOf_1 : decode cX0_sumOf 1 = .ok (.istore_n 2, 1) := by decide +kernel
theorem dX0_sumOf_2 : decode cX0_sumOf 2 = .ok (.iconst 0, 1) := by decide +kernel
theorem dX0_sumOf_3 : decode cX0_sumOf 3 = .ok (.istore_n 3, 1) := by decide +kernel
theorem dX0_sumOf_4 : decode cX0_sumOf 4 = .ok (.iload_n 3, 1) := by decide +kernel
theorem dX0_sumOf_5 : decode cX0_sumOf 5 = .ok (.iload_n 1, 1) := by decide +kernel
theorem dX0_sumOf_6 : decode cX0_sumOf 6 = .ok (.if_icmp .ge 15, 3) := by decide +kernel
theorem dX0_sumOf_9 : decode cX0_sumOf 9 = .ok (.iload_n 2, 1) := by decide +kernel
theorem dX0_sumOf_10 : decode cX0_sumOf 10 = .ok (.aload_n 0, 1) := by decide +kernel
theorem dX0_sumOf_11 : decode cX0_sumOf 11 = .ok (.iload_n 3, 1) := by decide +kernel
theorem dX0_sumOf_12 : decode cX0_sumOf 12 = .ok (.iaload, 1) := by decide +kernel
theorem dX0_sumOf_13 : decode cX0_sumOf 13 = .ok (.iadd, 1) := by decide +kernel
theorem dX0_sumOf_14 : decode cX0_sumOf 14 = .ok (.istore_n 2, 1) := by decide +kernel
theorem dX0_sumOf_15 : decode cX0_sumOf 15 = .ok (.iinc 3 1, 3) := by decide +kernel
theorem dX0_sumOf_18 : decode cX0_sumOf 18 = .ok (.goto (-14), 3) := by decide +kernel
theorem dX0_sumOf_21 : decode cX0_sumOf 21 = .ok (.iload_n 2, 1) := by decide +kernel
theorem dX0_sumOf_22 : decode cX0_sumOf 22 = .ok (.ireturn, 1) := by decide +kernel
theorem dX0_mostHurt_0 : decode cX0_mostHurt 0 = .ok (.iconst 0, 1) := by decide +kernel
theorem dX0_mostHurt_1 : decode cX0_mostHurt 1 = .ok (.istore_n 1, 1) := by decide +kernel
theorem dX0_mostHurt_2 : decode cX0_mostHurt 2 = .ok (.iconst 1, 1) := by decide +kernel
theorem dX0_mostHurt_3 : decode cX0_mostHurt 3 = .ok (.istore_n 2, 1) := by decide +kernel
theorem dX0_mostHurt_4 : decode cX0_mostHurt 4 = .ok (.iload_n 2, 1) := by decide +kernel
theorem dX0_mostHurt_5 : decode cX0_mostHurt 5 = .ok (.aload_n 0, 1) := by decide +kernel
theorem dX0_mostHurt_6 : decode cX0_mostHurt 6 = .ok (.getfield 39, 3) := by decide +kernel
theorem dX0_mostHurt_9 : decode cX0_mostHurt 9 = .ok (.if_icmp .ge 26, 3) := by decide +kernel
theorem dX0_mostHurt_12 : decode cX0_mostHurt 12 = .ok (.aload_n 0, 1) := by decide +kernel
theorem dX0_mostHurt_13 : decode cX0_mostHurt 13 = .ok (.getfield 21, 3) := by decide +kernel
theorem dX0_mostHurt_16 : decode cX0_mostHurt 16 = .ok (.iload_n 2, 1) := by decide +kernel
theorem dX0_mostHurt_17 : decode cX0_mostHurt 17 = .ok (.iaload, 1) := by decide +kernel
theorem dX0_mostHurt_18 : decode cX0_mostHurt 18 = .ok (.aload_n 0, 1) := by decide +kernel
theorem dX0_mostHurt_19 : decode cX0_mostHurt 19 = .ok (.getfield 21, 3) := by decide +kernel
theorem dX0_mostHurt_22 : decode cX0_mostHurt 22 = .ok (.iload_n 1, 1) := by decide +kernel
theorem dX0_mostHurt_23 : decode cX0_mostHurt 23 = .ok (.iaload, 1) := by decide +kernel
theorem dX0_mostHurt_24 : decode cX0_mostHurt 24 = .ok (.if_icmp .le 5, 3) := by decide +kernel
theorem dX0_mostHurt_27 : decode cX0_mostHurt 27 = .ok (.iload_n 2, 1) := by decide +kernel
theorem dX0_mostHurt_28 : decode cX0_mostHurt 28 = .ok (.istore_n 1, 1) := by decide +kernel
theorem dX0_mostHurt_29 : decode cX0_mostHurt 29 = .ok (.iinc 2 1, 3) := by decide +kernel
theorem dX0_mostHurt_32 : decode cX0_mostHurt 32 = .ok (.goto (-28), 3) := by decide +kernel
theorem dX0_mostHurt_35 : decode cX0_mostHurt 35 = .ok (.iload_n 1, 1) := by decide +kernel
theorem dX0_mostHurt_36 : decode cX0_mostHurt 36 = .ok (.ireturn, 1) := by decide +kernel
theorem dX0_alter_0 : decode cX0_alter 0 = .ok (.iload_n 1, 1) := by decide +kernel
theorem dX0_alter_1 : decode cX0_alter 1 = .ok (.tableswitch 87 0 4 #[35, 45, 57, 67, 77], 35) := by decide +kernel
theorem dX0_alter_36 : decode cX0_alter 36 = .ok (.aload_n 0, 1) := by decide +kernel
theorem dX0_alter_37 : decode cX0_alter 37 = .ok (.getfield 30, 3) := by decide +kernel
theorem dX0_alter_40 : decode cX0_alter 40 = .ok (.iload_n 2, 1) := by decide +kernel
theorem dX0_alter_41 : decode cX0_alter 41 = .ok (.iload_n 3, 1) := by decide +kernel
theorem dX0_alter_42 : decode cX0_alter 42 = .ok (.iastore, 1) := by decide +kernel
theorem dX0_alter_43 : decode cX0_alter 43 = .ok (.goto 52, 3) := by decide +kernel
theorem dX0_alter_46 : decode cX0_alter 46 = .ok (.aload_n 0, 1) := by decide +kernel
theorem dX0_alter_47 : decode cX0_alter 47 = .ok (.getfield 33, 3) := by decide +kernel
theorem dX0_alter_50 : decode cX0_alter 50 = .ok (.iload_n 2, 1) := by decide +kernel
theorem dX0_alter_51 : decode cX0_alter 51 = .ok (.iload_n 3, 1) := by decide +kernel
theorem dX0_alter_52 : decode cX0_alter 52 = .ok (.iconst 1, 1) := by decide +kernel
theorem dX0_alter_53 : decode cX0_alter 53 = .ok (.isub, 1) := by decide +kernel
theorem dX0_alter_54 : decode cX0_alter 54 = .ok (.iastore, 1) := by decide +kernel
theorem dX0_alter_55 : decode cX0_alter 55 = .ok (.goto 40, 3) := by decide +kernel
theorem dX0_alter_58 : decode cX0_alter 58 = .ok (.aload_n 0, 1) := by decide +kernel
theorem dX0_alter_59 : decode cX0_alter 59 = .ok (.getfield 11, 3) := by decide +kernel
theorem dX0_alter_62 : decode cX0_alter 62 = .ok (.iload_n 2, 1) := by decide +kernel
theorem dX0_alter_63 : decode cX0_alter 63 = .ok (.iload_n 3, 1) := by decide +kernel
theorem dX0_alter_64 : decode cX0_alter 64 = .ok (.iastore, 1) := by decide +kernel
theorem dX0_alter_65 : decode cX0_alter 65 = .ok (.goto 30, 3) := by decide +kernel
theorem dX0_alter_68 : decode cX0_alter 68 = .ok (.aload_n 0, 1) := by decide +kernel
theorem dX0_alter_69 : decode cX0_alter 69 = .ok (.getfield 15, 3) := by decide +kernel
theorem dX0_alter_72 : decode cX0_alter 72 = .ok (.iload_n 2, 1) := by decide +kernel
theorem dX0_alter_73 : decode cX0_alter 73 = .ok (.iload_n 3, 1) := by decide +kernel
theorem dX0_alter_74 : decode cX0_alter 74 = .ok (.iastore, 1) := by decide +kernel
theorem dX0_alter_75 : decode cX0_alter 75 = .ok (.goto 20, 3) := by decide +kernel
theorem dX0_alter_78 : decode cX0_alter 78 = .ok (.aload_n 0, 1) := by decide +kernel
theorem dX0_alter_79 : decode cX0_alter 79 = .ok (.getfield 18, 3) := by decide +kernel
theorem dX0_alter_82 : decode cX0_alter 82 = .ok (.iload_n 2, 1) := by decide +kernel
theorem dX0_alter_83 : decode cX0_alter 83 = .ok (.iload_n 3, 1) := by decide +kernel
theorem dX0_alter_84 : decode cX0_alter 84 = .ok (.iastore, 1) := by decide +kernel
theorem dX0_alter_85 : decode cX0_alter 85 = .ok (.goto 10, 3) := by decide +kernel
theorem dX0_alter_88 : decode cX0_alter 88 = .ok (.aload_n 0, 1) := by decide +kernel
theorem dX0_alter_89 : decode cX0_alter 89 = .ok (.getfield 36, 3) := by decide +kernel
theorem dX0_alter_92 : decode cX0_alter 92 = .ok (.iload_n 3, 1) := by decide +kernel
theorem dX0_alter_93 : decode cX0_alter 93 = .ok (.iconst 0, 1) := by decide +kernel
theorem dX0_alter_94 : decode cX0_alter 94 = .ok (.iastore, 1) := by decide +kernel
theorem dX0_alter_95 : decode cX0_alter 95 = .ok (.return_, 1) := by decide +kernel
theorem dX0_takeFrom_0 : decode cX0_takeFrom 0 = .ok (.aload_n 0, 1) := by decide +kernel
theorem dX0_takeFrom_1 : decode cX0_takeFrom 1 = .ok (.aload_n 1, 1) := by decide +kernel
theorem dX0_takeFrom_2 : decode cX0_takeFrom 2 = .ok (.getfield 71, 3) := by decide +kernel
theorem dX0_takeFrom_5 : decode cX0_takeFrom 5 = .ok (.putfield 71, 3) := by decide +kernel
theorem dX0_takeFrom_8 : decode cX0_takeFrom 8 = .ok (.aload_n 0, 1) := by decide +kernel
theorem dX0_takeFrom_9 : decode cX0_takeFrom 9 = .ok (.aload_n 1, 1) := by decide +kernel
theorem dX0_takeFrom_10 : decode cX0_takeFrom 10 = .ok (.getfield 39, 3) := by decide +kernel
theorem dX0_takeFrom_13 : decode cX0_takeFrom 13 = .ok (.putfield 39, 3) := by decide +kernel
theorem dX0_takeFrom_16 : decode cX0_takeFrom 16 = .ok (.aload_n 1, 1) := by decide +kernel
theorem dX0_takeFrom_17 : decode cX0_takeFrom 17 = .ok (.getfield 11, 3) := by decide +kernel
theorem dX0_takeFrom_20 : decode cX0_takeFrom 20 = .ok (.iconst 0, 1) := by decide +kernel
theorem dX0_takeFrom_21 : decode cX0_takeFrom 21 = .ok (.aload_n 0, 1) := by decide +kernel
theorem dX0_takeFrom_22 : decode cX0_takeFrom 22 = .ok (.getfield 11, 3) := by decide +kernel
theorem dX0_takeFrom_25 : decode cX0_takeFrom 25 = .ok (.iconst 0, 1) := by decide +kernel
theorem dX0_takeFrom_26 : decode cX0_takeFrom 26 = .ok (.bipush 8, 2) := by decide +kernel
theorem dX0_takeFrom_28 : decode cX0_takeFrom 28 = .ok (.invokestatic 98, 3) := by decide +kernel
theorem dX0_takeFrom_31 : decode cX0_takeFrom 31 = .ok (.aload_n 1, 1) := by decide +kernel
theorem dX0_takeFrom_32 : decode cX0_takeFrom 32 = .ok (.getfield 15, 3) := by decide +kernel
theorem dX0_takeFrom_35 : decode cX0_takeFrom 35 = .ok (.iconst 0, 1) := by decide +kernel
theorem dX0_takeFrom_36 : decode cX0_takeFrom 36 = .ok (.aload_n 0, 1) := by decide +kernel
theorem dX0_takeFrom_37 : decode cX0_takeFrom 37 = .ok (.getfield 15, 3) := by decide +kernel
theorem dX0_takeFrom_40 : decode cX0_takeFrom 40 = .ok (.iconst 0, 1) := by decide +kernel
theorem dX0_takeFrom_41 : decode cX0_takeFrom 41 = .ok (.bipush 8, 2) := by decide +kernel
theorem dX0_takeFrom_43 : decode cX0_takeFrom 43 = .ok (.invokestatic 98, 3) := by decide +kernel
theorem dX0_takeFrom_46 : decode cX0_takeFrom 46 = .ok (.aload_n 1, 1) := by decide +kernel
theorem dX0_takeFrom_47 : decode cX0_takeFrom 47 = .ok (.getfield 18, 3) := by decide +kernel
theorem dX0_takeFrom_50 : decode cX0_takeFrom 50 = .ok (.iconst 0, 1) := by decide +kernel
theorem dX0_takeFrom_51 : decode cX0_takeFrom 51 = .ok (.aload_n 0, 1) := by decide +kernel
theorem dX0_takeFrom_52 : decode cX0_takeFrom 52 = .ok (.getfield 18, 3) := by decide +kernel
theorem dX0_takeFrom_55 : decode cX0_takeFrom 55 = .ok (.iconst 0, 1) := by decide +kernel
theorem dX0_takeFrom_56 : decode cX0_takeFrom 56 = .ok (.bipush 8, 2) := by decide +kernel
theorem dX0_takeFrom_58 : decode cX0_takeFrom 58 = .ok (.invokestatic 98, 3) := by decide +kernel
theorem dX0_takeFrom_61 : decode cX0_takeFrom 61 = .ok (.aload_n 1, 1) := by decide +kernel
theorem dX0_takeFrom_62 : decode cX0_takeFrom 62 = .ok (.getfield 21, 3) := by decide +kernel
theorem dX0_takeFrom_65 : decode cX0_takeFrom 65 = .ok (.iconst 0, 1) := by decide +kernel
theorem dX0_takeFrom_66 : decode cX0_takeFrom 66 = .ok (.aload_n 0, 1) := by decide +kernel
theorem dX0_takeFrom_67 : decode cX0_takeFrom 67 = .ok (.getfield 21, 3) := by decide +kernel
theorem dX0_takeFrom_70 : decode cX0_takeFrom 70 = .ok (.iconst 0, 1) := by decide +kernel
theorem dX0_takeFrom_71 : decode cX0_takeFrom 71 = .ok (.bipush 8, 2) := by decide +kernel
theorem dX0_takeFrom_73 : decode cX0_takeFrom 73 = .ok (.invokestatic 98, 3) := by decide +kernel
theorem dX0_takeFrom_76 : decode cX0_takeFrom 76 = .ok (.aload_n 1, 1) := by decide +kernel
theorem dX0_takeFrom_77 : decode cX0_takeFrom 77 = .ok (.getfield 24, 3) := by decide +kernel
theorem dX0_takeFrom_80 : decode cX0_takeFrom 80 = .ok (.iconst 0, 1) := by decide +kernel
theorem dX0_takeFrom_81 : decode cX0_takeFrom 81 = .ok (.aload_n 0, 1) := by decide +kernel
theorem dX0_takeFrom_82 : decode cX0_takeFrom 82 = .ok (.getfield 24, 3) := by decide +kernel
theorem dX0_takeFrom_85 : decode cX0_takeFrom 85 = .ok (.iconst 0, 1) := by decide +kernel
theorem dX0_takeFrom_86 : decode cX0_takeFrom 86 = .ok (.bipush 8, 2) := by decide +kernel
theorem dX0_takeFrom_88 : decode cX0_takeFrom 88 = .ok (.invokestatic 98, 3) := by decide +kernel
theorem dX0_takeFrom_91 : decode cX0_takeFrom 91 = .ok (.aload_n 0, 1) := by decide +kernel
theorem dX0_takeFrom_92 : decode cX0_takeFrom 92 = .ok (.aload_n 1, 1) := by decide +kernel
theorem dX0_takeFrom_93 : decode cX0_takeFrom 93 = .ok (.getfield 43, 3) := by decide +kernel
theorem dX0_takeFrom_96 : decode cX0_takeFrom 96 = .ok (.putfield 43, 3) := by decide +kernel
theorem dX0_takeFrom_99 : decode cX0_takeFrom 99 = .ok (.aload_n 1, 1) := by decide +kernel
theorem dX0_takeFrom_100 : decode cX0_takeFrom 100 = .ok (.getfield 27, 3) := by decide +kernel
theorem dX0_takeFrom_103 : decode cX0_takeFrom 103 = .ok (.iconst 0, 1) := by decide +kernel
theorem dX0_takeFrom_104 : decode cX0_takeFrom 104 = .ok (.aload_n 0, 1) := by decide +kernel
theorem dX0_takeFrom_105 : decode cX0_takeFrom 105 = .ok (.getfield 27, 3) := by decide +kernel
theorem dX0_takeFrom_108 : decode cX0_takeFrom 108 = .ok (.iconst 0, 1) := by decide +kernel
theorem dX0_takeFrom_109 : decode cX0_takeFrom 109 = .ok (.bipush 8, 2) := by decide +kernel
theorem dX0_takeFrom_111 : decode cX0_takeFrom 111 = .ok (.invokestatic 98, 3) := by decide +kernel
theorem dX0_takeFrom_114 : decode cX0_takeFrom 114 = .ok (.aload_n 1, 1) := by decide +kernel
theorem dX0_takeFrom_115 : decode cX0_takeFrom 115 = .ok (.getfield 30, 3) := by decide +kernel
theorem dX0_takeFrom_118 : decode cX0_takeFrom 118 = .ok (.iconst 0, 1) := by decide +kernel
theorem dX0_takeFrom_119 : decode cX0_takeFrom 119 = .ok (.aload_n 0, 1) := by decide +kernel
theorem dX0_takeFrom_120 : decode cX0_takeFrom 120 = .ok (.getfield 30, 3) := by decide +kernel
theorem dX0_takeFrom_123 : decode cX0_takeFrom 123 = .ok (.iconst 0, 1) := by decide +kernel
theorem dX0_takeFrom_124 : decode cX0_takeFrom 124 = .ok (.bipush 8, 2) := by decide +kernel
theorem dX0_takeFrom_126 : decode cX0_takeFrom 126 = .ok (.invokestatic 98, 3) := by decide +kernel
theorem dX0_takeFrom_129 : decode cX0_takeFrom 129 = .ok (.aload_n 1, 1) := by decide +kernel
theorem dX0_takeFrom_130 : decode cX0_takeFrom 130 = .ok (.getfield 33, 3) := by decide +kernel
theorem dX0_takeFrom_133 : decode cX0_takeFrom 133 = .ok (.iconst 0, 1) := by decide +kernel
theorem dX0_takeFrom_134 : decode cX0_takeFrom 134 = .ok (.aload_n 0, 1) := by decide +kernel
theorem dX0_takeFrom_135 : decode cX0_takeFrom 135 = .ok (.getfield 33, 3) := by decide +kernel
theorem dX0_takeFrom_138 : decode cX0_takeFrom 138 = .ok (.iconst 0, 1) := by decide +kernel
theorem dX0_takeFrom_139 : decode cX0_takeFrom 139 = .ok (.bipush 8, 2) := by decide +kernel
theorem dX0_takeFrom_141 : decode cX0_takeFrom 141 = .ok (.invokestatic 98, 3) := by decide +kernel
theorem dX0_takeFrom_144 : decode cX0_takeFrom 144 = .ok (.aload_n 1, 1) := by decide +kernel
theorem dX0_takeFrom_145 : decode cX0_takeFrom 145 = .ok (.getfield 36, 3) := by decide +kernel
theorem dX0_takeFrom_148 : decode cX0_takeFrom 148 = .ok (.iconst 0, 1) := by decide +kernel
theorem dX0_takeFrom_149 : decode cX0_takeFrom 149 = .ok (.aload_n 0, 1) := by decide +kernel
theorem dX0_takeFrom_150 : decode cX0_takeFrom 150 = .ok (.getfield 36, 3) := by decide +kernel
theorem dX0_takeFrom_153 : decode cX0_takeFrom 153 = .ok (.iconst 0, 1) := by decide +kernel
theorem dX0_takeFrom_154 : decode cX0_takeFrom 154 = .ok (.bipush 8, 2) := by decide +kernel
theorem dX0_takeFrom_156 : decode cX0_takeFrom 156 = .ok (.invokestatic 98, 3) := by decide +kernel
theorem dX0_takeFrom_159 : decode cX0_takeFrom 159 = .ok (.return_, 1) := by decide +kernel
theorem dX1_init_0 : decode cX1_init 0 = .ok (.aload_n 0, 1) := by decide +kernel
theorem dX1_init_1 : decode cX1_init 1 = .ok (.invokespecial 1, 3) := by decide +kernel
theorem dX1_init_4 : decode cX1_init 4 = .ok (.aload_n 0, 1) := by decide +kernel
theorem dX1_init_5 : decode cX1_init 5 = .ok (.iconst 4, 1) := by decide +kernel
theorem dX1_init_6 : decode cX1_init 6 = .ok (.newarray .int, 2) := by decide +kernel
theorem dX1_init_8 : decode cX1_init 8 = .ok (.putfield 9, 3) := by decide +kernel
theorem dX1_init_11 : decode cX1_init 11 = .ok (.aload_n 0, 1) := by decide +kernel
theorem dX1_init_12 : decode cX1_init 12 = .ok (.iconst 4, 1) := by decide +kernel
theorem dX1_init_13 : decode cX1_init 13 = .ok (.newarray .int, 2) := by decide +kernel
theorem dX1_init_15 : decode cX1_init 15 = .ok (.putfield 13, 3) := by decide +kernel
theorem dX1_init_18 : decode cX1_init 18 = .ok (.aload_n 0, 1) := by decide +kernel
theorem dX1_init_19 : decode cX1_init 19 = .ok (.sipush 160, 3) := by decide +kernel
theorem dX1_init_22 : decode cX1_init 22 = .ok (.newarray .long, 2) := by decide +kernel
theorem dX1_init_24 : decode cX1_init 24 = .ok (.putfield 16, 3) := by decide +kernel
theorem dX1_init_27 : decode cX1_init 27 = .ok (.return_, 1) := by decide +kernel
theorem dX1_isOne_0 : decode cX1_isOne 0 = .ok (.iload_n 0, 1) := by decide +kernel
theorem dX1_isOne_1 : decode cX1_isOne 1 = .ok (.ifCond .lt 12, 3) := by decide +kernel
theorem dX1_isOne_4 : decode cX1_isOne 4 = .ok (.iload_n 0, 1) := by decide +kernel
theorem dX1_isOne_5 : decode cX1_isOne 5 = .ok (.iconst 4, 1) := by decide +kernel
theorem dX1_isOne_6 : decode cX1_isOne 6 = .ok (.if_icmp .ge 7, 3) := by decide +kernel
theorem dX1_isOne_9 : decode cX1_isOne 9 = .ok (.iconst 1, 1) := by decide +kernel
theorem dX1_isOne_10 : decode cX1_isOne 10 = .ok (.goto 4, 3) := by decide +kernel
theorem dX1_isOne_13 : decode cX1_isOne 13 = .ok (.iconst 0, 1) := by decide +kernel
theorem dX1_isOne_14 : decode cX1_isOne 14 = .ok (.ireturn, 1) := by decide +kernel
theorem dX1_mayHave_0 : decode cX1_mayHave 0 = .ok (.iload_n 0, 1) := by decide +kernel
theorem dX1_mayHave_1 : decode cX1_mayHave 1 = .ok (.ifCond .eq 21, 3) := by decide +kernel
theorem dX1_mayHave_4 : decode cX1_mayHave 4 = .ok (.iload_n 0, 1) := by decide +kernel
theorem dX1_mayHave_5 : decode cX1_mayHave 5 = .ok (.bipush 8, 2) := by decide +kernel
theorem dX1_mayHave_7 : decode cX1_mayHave 7 = .ok (.if_icmp .eq 15, 3) := by decide +kernel
theorem dX1_mayHave_10 : decode cX1_mayHave 10 = .ok (.iload_n 0, 1) := by decide +kernel
theorem dX1_mayHave_11 : decode cX1_mayHave 11 = .ok (.bipush 16, 2) := by decide +kernel
theorem dX1_mayHave_13 : decode cX1_mayHave 13 = .ok (.if_icmp .eq 9, 3) := by decide +kernel
theorem dX1_mayHave_16 : decode cX1_mayHave 16 = .ok (.iload_n 0, 1) := by decide +kernel
theorem dX1_mayHave_17 : decode cX1_mayHave 17 = .ok (.bipush 64, 2) := by decide +kernel
theorem dX1_mayHave_19 : decode cX1_mayHave 19 = .ok (.if_icmp .ne 7, 3) := by decide +kernel
theorem dX1_mayHave_22 : decode cX1_mayHave 22 = .ok (.iconst 1, 1) := by decide +kernel
theorem dX1_mayHave_23 : decode cX1_mayHave 23 = .ok (.goto 4, 3) := by decide +kernel
theorem dX1_mayHave_26 : decode cX1_mayHave 26 = .ok (.iconst 0, 1) := by decide +kernel
theorem dX1_mayHave_27 : decode cX1_mayHave 27 = .ok (.ireturn, 1) := by decide +kernel
theorem dX1_isMissing_0 : decode cX1_isMissing 0 = .ok (.aload_n 0, 1) := by decide +kernel
theorem dX1_isMissing_1 : decode cX1_isMissing 1 = .ok (.getfield 9, 3) := by decide +kernel
theorem dX1_isMissing_4 : decode cX1_isMissing 4 = .ok (.iload_n 1, 1) := by decide +kernel
theorem dX1_isMissing_5 : decode cX1_isMissing 5 = .ok (.iaload, 1) := by decide +kernel
theorem dX1_isMissing_6 : decode cX1_isMissing 6 = .ok (.ifCond .ne 7, 3) := by decide +kernel
theorem dX1_isMissing_9 : decode cX1_isMissing 9 = .ok (.iconst 1, 1) := by decide +kernel
theorem dX1_isMissing_10 : decode cX1_isMissing 10 = .ok (.goto 4, 3) := by decide +kernel
theorem dX1_isMissing_13 : decode cX1_isMissing 13 = .ok (.iconst 0, 1) := by decide +kernel
theorem dX1_isMissing_14 : decode cX1_isMissing 14 = .ok (.ireturn, 1) := by decide +kernel
theorem dX1_lay_0 : decode cX1_lay 0 = .ok (.aload_n 0, 1) := by decide +kernel
theorem dX1_lay_1 : decode cX1_lay 1 = .ok (.getfield 9, 3) := by decide +kernel
theorem dX1_lay_4 : decode cX1_lay 4 = .ok (.iload_n 1, 1) := by decide +kernel
theorem dX1_lay_5 : decode cX1_lay 5 = .ok (.iload_n 2, 1) := by decide +kernel
theorem dX1_lay_6 : decode cX1_lay 6 = .ok (.iastore, 1) := by decide +kernel
theorem dX1_lay_7 : decode cX1_lay 7 = .ok (.aload_n 0, 1) := by decide +kernel
theorem dX1_lay_8 : decode cX1_lay 8 = .ok (.getfield 13, 3) := by decide +kernel
theorem dX1_lay_11 : decode cX1_lay 11 = .ok (.iload_n 1, 1) := by decide +kernel
theorem dX1_lay_12 : decode cX1_lay 12 = .ok (.iload_n 2, 1) := by decide +kernel
theorem dX1_lay_13 : decode cX1_lay 13 = .ok (.ifCond .ne 7, 3) := by decide +kernel
theorem dX1_lay_16 : decode cX1_lay 16 = .ok (.iconst 0, 1) := by decide +kernel
theorem dX1_lay_17 : decode cX1_lay 17 = .ok (.goto 4, 3) := by decide +kernel
theorem dX1_lay_20 : decode cX1_lay 20 = .ok (.iload_n 3, 1) := by decide +kernel
theorem dX1_lay_21 : decode cX1_lay 21 = .ok (.iastore, 1) := by decide +kernel
theorem dX1_lay_22 : decode cX1_lay 22 = .ok (.iconst 0, 1) := by decide +kernel
theorem dX1_lay_23 : decode cX1_lay 23 = .ok (.istore 4, 2) := by decide +kernel
theorem dX1_lay_25 : decode cX1_lay 25 = .ok (.iload 4, 2) := by decide +kernel
theorem dX1_lay_27 : decode cX1_lay 27 = .ok (.bipush 40, 2) := by decide +kernel
theorem dX1_lay_29 : decode cX1_lay 29 = .ok (.if_icmp .ge 22, 3) := by decide +kernel
theorem dX1_lay_32 : decode cX1_lay 32 = .ok (.aload_n 0, 1) := by decide +kernel
theorem dX1_lay_33 : decode cX1_lay 33 = .ok (.getfield 16, 3) := by decide +kernel
theorem dX1_lay_36 : decode cX1_lay 36 = .ok (.bipush 40, 2) := by decide +kernel
theorem dX1_lay_38 : decode cX1_lay 38 = .ok (.iload_n 1, 1) := by decide +kernel
theorem dX1_lay_39 : decode cX1_lay 39 = .ok (.imul, 1) := by decide +kernel
theorem dX1_lay_40 : decode cX1_lay 40 = .ok (.iload 4, 2) := by decide +kernel
theorem dX1_lay_42 : decode cX1_lay 42 = .ok (.iadd, 1) := by decide +kernel
theorem dX1_lay_43 : decode cX1_lay 43 = .ok (.lconst 0, 1) := by decide +kernel
theorem dX1_lay_44 : decode cX1_lay 44 = .ok (.lastore, 1) := by decide +kernel
theorem dX1_lay_45 : decode cX1_lay 45 = .ok (.iinc 4 1, 3) := by decide +kernel
theorem dX1_lay_48 : decode cX1_lay 48 = .ok (.goto (-23), 3) := by decide +kernel
theorem dX1_lay_51 : decode cX1_lay 51 = .ok (.aload_n 0, 1) := by decide +kernel
theorem dX1_lay_52 : decode cX1_lay 52 = .ok (.getfield 13, 3) := by decide +kernel
theorem dX1_lay_55 : decode cX1_lay 55 = .ok (.iload_n 1, 1) := by decide +kernel
theorem dX1_lay_56 : decode cX1_lay 56 = .ok (.iaload, 1) := by decide +kernel
theorem dX1_lay_57 : decode cX1_lay 57 = .ok (.ireturn, 1) := by decide +kernel
theorem dX1_numberAt_0 : decode cX1_numberAt 0 = .ok (.aload_n 0, 1) := by decide +kernel
theorem dX1_numberAt_1 : decode cX1_numberAt 1 = .ok (.getfield 16, 3) := by decide +kernel
theorem dX1_numberAt_4 : decode cX1_numberAt 4 = .ok (.bipush 40, 2) := by decide +kernel
theorem dX1_numberAt_6 : decode cX1_numberAt 6 = .ok (.iload_n 1, 1) := by decide +kernel
theorem dX1_numberAt_7 : decode cX1_numberAt 7 = .ok (.imul, 1) := by decide +kernel
theorem dX1_numberAt_8 : decode cX1_numberAt 8 = .ok (.iload_n 2, 1) := by decide +kernel
theorem dX1_numberAt_9 : decode cX1_numberAt 9 = .ok (.iadd, 1) := by decide +kernel
theorem dX1_numberAt_10 : decode cX1_numberAt 10 = .ok (.laload, 1) := by decide +kernel
theorem dX1_numberAt_11 : decode cX1_numberAt 11 = .ok (.lreturn, 1) := by decide +kernel
set_option maxRecDepth 20000 in
theorem ggX1_put_X1_lowest : GoodIn wsX1_put wsX1_lowest := goodIn_r _ [6] rfl (by decide +kernel)
set_option maxRecDepth 20000 in
theorem gX1_put_X1_lowest : GoodIn wsX1_put (va_wsS RX1 20 yX1_lowest wsX1_lowest) := goodIn_app (goodIn_of _ (by decide +kernel)) ggX1_put_X1_lowest
theorem dX1_put_0 : decode cX1_put 0 = .ok (.aload_n 0, 1) := by decide +kernel
theorem dX1_put_1 : decode cX1_put 1 = .ok (.getfield 16, 3) := by decide +kernel
theorem dX1_put_4 : decode cX1_put 4 = .ok (.bipush 40, 2) := by decide +kernel
theorem dX1_put_6 : decode cX1_put 6 = .ok (.iload_n 1, 1) := by decide +kernel
theorem dX1_put_7 : decode cX1_put 7 = .ok (.imul, 1) := by decide +kernel
theorem dX1_put_8 : decode cX1_put 8 = .ok (.iload_n 2, 1) := by decide +kernel
theorem dX1_put_9 : decode cX1_put 9 = .ok (.iadd, 1) := by decide +kernel
theorem dX1_put_10 : decode cX1_put 10 = .ok (.aload_n 0, 1) := by decide +kernel
theorem dX1_put_11 : decode cX1_put 11 = .ok (.getfield 9, 3) := by decide +kernel
theorem dX1_put_14 : decode cX1_put 14 = .ok (.iload_n 1, 1) := by decide +kernel
theorem dX1_put_15 : decode cX1_put 15 = .ok (.iaload, 1) := by decide +kernel
theorem dX1_put_16 : decode cX1_put 16 = .ok (.lload_n 3, 1) := by decide +kernel
theorem dX1_put_17 : decode cX1_put 17 = .ok (.invokestatic 20, 3) := by decide +kernel
theorem dX1_put_20 : decode cX1_put 20 = .ok (.lastore, 1) := by decide +kernel
theorem dX1_put_21 : decode cX1_put 21 = .ok (.return_, 1) := by decide +kernel
theorem dX1_lowest_0 : decode cX1_lowest 0 = .ok (.iload_n 0, 1) := by decide +kernel
theorem dX1_lowest_1 : decode cX1_lowest 1 = .ok (.bipush 8, 2) := by decide +kernel
theorem dX1_lowest_3 : decode cX1_lowest 3 = .ok (.if_icmp .ne 8, 3) := by decide +kernel
theorem dX1_lowest_6 : decode cX1_lowest 6 = .ok (.lload_n 1, 1) := by decide +kernel
theorem dX1_lowest_7 : decode cX1_lowest 7 = .ok (.l2i, 1) := by decide +kernel
theorem dX1_lowest_8 : decode cX1_lowest 8 = .ok (.i2b, 1) := by decide +kernel
theorem dX1_lowest_9 : decode cX1_lowest 9 = .ok (.i2l, 1) := by decide +kernel
theorem dX1_lowest_10 : decode cX1_lowest 10 = .ok (.lreturn, 1) := by decide +kernel
theorem dX1_lowest_11 : decode cX1_lowest 11 = .ok (.iload_n 0, 1) := by decide +kernel
theorem dX1_lowest_12 : decode cX1_lowest 12 = .ok (.bipush 16, 2) := by decide +kernel
theorem dX1_lowest_14 : decode cX1_lowest 14 = .ok (.if_icmp .ne 10, 3) := by decide +kernel
theorem dX1_lowest_17 : decode cX1_lowest 17 = .ok (.lload_n 1, 1) := by decide +kernel
theorem dX1_lowest_18 : decode cX1_lowest 18 = .ok (.l2i, 1) := by decide +kernel
theorem dX1_lowest_19 : decode cX1_lowest 19 = .ok (.i2s, 1) := by decide +kernel
theorem dX1_lowest_20 : decode cX1_lowest 20 = .ok (.i2l, 1) := by decide +kernel
theorem dX1_lowest_21 : decode cX1_lowest 21 = .ok (.goto 4, 3) := by decide +kernel
theorem dX1_lowest_24 : decode cX1_lowest 24 = .ok (.lload_n 1, 1) := by decide +kernel
theorem dX1_lowest_25 : decode cX1_lowest 25 = .ok (.lreturn, 1) := by decide +kernel
theorem dX1_hasPart_0 : decode cX1_hasPart 0 = .ok (.iload_n 2, 1) := by decide +kernel
theorem dX1_hasPart_1 : decode cX1_hasPart 1 = .ok (.ifCond .lt 23, 3) := by decide +kernel
theorem dX1_hasPart_4 : decode cX1_hasPart 4 = .ok (.iload_n 3, 1) := by decide +kernel
theorem dX1_hasPart_5 : decode cX1_hasPart 5 = .ok (.ifCond .lt 19, 3) := by decide +kernel
theorem dX1_hasPart_8 : decode cX1_hasPart 8 = .ok (.iload_n 3, 1) := by decide +kernel
theorem dX1_hasPart_9 : decode cX1_hasPart 9 = .ok (.aload_n 0, 1) := by decide +kernel
theorem dX1_hasPart_10 : decode cX1_hasPart 10 = .ok (.getfield 13, 3) := by decide +kernel
theorem dX1_hasPart_13 : decode cX1_hasPart 13 = .ok (.iload_n 1, 1) := by decide +kernel
theorem dX1_hasPart_14 : decode cX1_hasPart 14 = .ok (.iaload, 1) := by decide +kernel
theorem dX1_hasPart_15 : decode cX1_hasPart 15 = .ok (.iload_n 2, 1) := by decide +kernel
theorem dX1_hasPart_16 : decode cX1_hasPart 16 = .ok (.isub, 1) := by decide +kernel
theorem dX1_hasPart_17 : decode cX1_hasPart 17 = .ok (.if_icmp .gt 7, 3) := by decide +kernel
theorem dX1_hasPart_20 : decode cX1_hasPart 20 = .ok (.iconst 1, 1) := by decide +kernel
theorem dX1_hasPart_21 : decode cX1_hasPart 21 = .ok (.goto 4, 3) := by decide +kernel
theorem dX1_hasPart_24 : decode cX1_hasPart 24 = .ok (.iconst 0, 1) := by decide +kernel
theorem dX1_hasPart_25 : decode cX1_hasPart 25 = .ok (.ireturn, 1) := by decide +kernel
theorem dX1_move_0 : decode cX1_move 0 = .ok (.aload_n 0, 1) := by decide +kernel
theorem dX1_move_1 : decode cX1_move 1 = .ok (.getfield 16, 3) := by decide +kernel
theorem dX1_move_4 : decode cX1_move 4 = .ok (.bipush 40, 2) := by decide +kernel
theorem dX1_move_6 : decode cX1_move 6 = .ok (.iload_n 1, 1) := by decide +kernel
theorem dX1_move_7 : decode cX1_move 7 = .ok (.imul, 1) := by decide +kernel
theorem dX1_move_8 : decode cX1_move 8 = .ok (.iload_n 2, 1) := by decide +kernel
theorem dX1_move_9 : decode cX1_move 9 = .ok (.iadd, 1) := by decide +kernel
theorem dX1_move_10 : decode cX1_move 10 = .ok (.aload_n 0, 1) := by decide +kernel
theorem dX1_move_11 : decode cX1_move 11 = .ok (.getfield 16, 3) := by decide +kernel
theorem dX1_move_14 : decode cX1_move 14 = .ok (.bipush 40, 2) := by decide +kernel
theorem dX1_move_16 : decode cX1_move 16 = .ok (.iload_n 3, 1) := by decide +kernel
theorem dX1_move_17 : decode cX1_move 17 = .ok (.imul, 1) := by decide +kernel
theorem dX1_move_18 : decode cX1_move 18 = .ok (.iload 4, 2) := by decide +kernel
theorem dX1_move_20 : decode cX1_move 20 = .ok (.iadd, 1) := by decide +kernel
theorem dX1_move_21 : decode cX1_move 21 = .ok (.iload 5, 2) := by decide +kernel
theorem dX1_move_23 : decode cX1_move 23 = .ok (.invokestatic 24, 3) := by decide +kernel
theorem dX1_move_26 : decode cX1_move 26 = .ok (.return_, 1) := by decide +kernel
