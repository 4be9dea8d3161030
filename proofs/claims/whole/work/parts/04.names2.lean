theorem dX8_readCase_29 : decode cX8_readCase 29 = .ok (.istore 4, 2) := by decide +kernel
theorem dX8_readCase_31 : decode cX8_readCase 31 = .ok (.aload_n 0, 1) := by decide +kernel
theorem dX8_readCase_32 : decode cX8_readCase 32 = .ok (.iconst 0, 1) := by decide +kernel
theorem dX8_readCase_33 : decode cX8_readCase 33 = .ok (.bipush 9, 2) := by decide +kernel
theorem dX8_readCase_35 : decode cX8_readCase 35 = .ok (.invokevirtual 62, 3) := by decide +kernel
theorem dX8_readCase_38 : decode cX8_readCase 38 = .ok (.istore 5, 2) := by decide +kernel
theorem dX8_readCase_40 : decode cX8_readCase 40 = .ok (.aload_n 0, 1) := by decide +kernel
theorem dX8_readCase_41 : decode cX8_readCase 41 = .ok (.iconst 0, 1) := by decide +kernel
theorem dX8_readCase_42 : decode cX8_readCase 42 = .ok (.sipush 999, 3) := by decide +kernel
theorem dX8_readCase_45 : decode cX8_readCase 45 = .ok (.invokevirtual 62, 3) := by decide +kernel
theorem dX8_readCase_48 : decode cX8_readCase 48 = .ok (.istore 6, 2) := by decide +kernel
theorem dX8_readCase_50 : decode cX8_readCase 50 = .ok (.aload_n 1, 1) := by decide +kernel
theorem dX8_readCase_51 : decode cX8_readCase 51 = .ok (.iload_n 3, 1) := by decide +kernel
theorem dX8_readCase_52 : decode cX8_readCase 52 = .ok (.iload 4, 2) := by decide +kernel
theorem dX8_readCase_54 : decode cX8_readCase 54 = .ok (.iload 5, 2) := by decide +kernel
theorem dX8_readCase_56 : decode cX8_readCase 56 = .ok (.iload 6, 2) := by decide +kernel
theorem dX8_readCase_58 : decode cX8_readCase 58 = .ok (.invokevirtual 89, 3) := by decide +kernel
theorem dX8_readCase_61 : decode cX8_readCase 61 = .ok (.aload_n 0, 1) := by decide +kernel
theorem dX8_readCase_62 : decode cX8_readCase 62 = .ok (.invokevirtual 77, 3) := by decide +kernel
theorem dX8_readCase_65 : decode cX8_readCase 65 = .ok (.return_, 1) := by decide +kernel
set_option maxRecDepth 20000 in
theorem ggX8_readNumber_X8_skipBlanks : GoodIn wsX8_readNumber wsX8_skipBlanks := goodIn_r _ [7, 1, 2, 8, 9, 10, 6, 11, 12, 22, 23, 24, 25, 26] (by decide +kernel) (by decide +kernel)
set_option maxRecDepth 20000 in
theorem gX8_readNumber_X8_skipBlanks : GoodIn wsX8_readNumber (wsV RX8 33 RX8 yX8_skipBlanks wsX8_skipBlanks) := goodIn_app (goodIn_of _ (by decide +kernel)) ggX8_readNumber_X8_skipBlanks
set_option maxRecDepth 20000 in
theorem ggX8_readNumber_X8_letter : GoodIn wsX8_readNumber wsX8_letter := goodIn_r _ [11, 1, 2, 12, 22, 23, 24, 25, 26] (by decide +kernel) (by decide +kernel)
set_option maxRecDepth 20000 in
theorem gX8_readNumber_X8_letter : GoodIn wsX8_readNumber (wsV RX8 40 RX8 yX8_letter wsX8_letter) := goodIn_app (goodIn_of _ (by decide +kernel)) ggX8_readNumber_X8_letter
set_option maxRecDepth 20000 in
theorem ggX8_readNumber_X8_isFigure : GoodIn wsX8_readNumber wsX8_isFigure := goodIn_r _ [15] (by decide +kernel) (by decide +kernel)
set_option maxRecDepth 20000 in
theorem gX8_readNumber_X8_isFigure : GoodIn wsX8_readNumber (va_wsS RX8 93 yX8_isFigure wsX8_isFigure) := goodIn_app (goodIn_of _ (by decide +kernel)) ggX8_readNumber_X8_isFigure
set_option maxRecDepth 20000 in
theorem ggX8_readNumber_X8_note : GoodIn wsX8_readNumber wsX8_note := goodIn_r _ [19, 20, 21, 22, 23, 24, 25, 26] (by decide +kernel) (by decide +kernel)
set_option maxRecDepth 20000 in
theorem gX8_readNumber_X8_note : GoodIn wsX8_readNumber (wsV RX8 58 RX8 yX8_note wsX8_note) := goodIn_app (goodIn_of _ (by decide +kernel)) ggX8_readNumber_X8_note
theorem dX8_readNumber_0 : decode cX8_readNumber 0 = .ok (.aload_n 0, 1) := by decide +kernel
theorem dX8_readNumber_1 : decode cX8_readNumber 1 = .ok (.invokevirtual 33, 3) := by decide +kernel
theorem dX8_readNumber_4 : decode cX8_readNumber 4 = .ok (.aload_n 0, 1) := by decide +kernel
theorem dX8_readNumber_5 : decode cX8_readNumber 5 = .ok (.getfield 22, 3) := by decide +kernel
theorem dX8_readNumber_8 : decode cX8_readNumber 8 = .ok (.istore_n 3, 1) := by decide +kernel
theorem dX8_readNumber_9 : decode cX8_readNumber 9 = .ok (.iconst 0, 1) := by decide +kernel
theorem dX8_readNumber_10 : decode cX8_readNumber 10 = .ok (.istore 4, 2) := by decide +kernel
theorem dX8_readNumber_12 : decode cX8_readNumber 12 = .ok (.aload_n 0, 1) := by decide +kernel
theorem dX8_readNumber_13 : decode cX8_readNumber 13 = .ok (.getfield 22, 3) := by decide +kernel
theorem dX8_readNumber_16 : decode cX8_readNumber 16 = .ok (.aload_n 0, 1) := by decide +kernel
theorem dX8_readNumber_17 : decode cX8_readNumber 17 = .ok (.getfield 19, 3) := by decide +kernel
theorem dX8_readNumber_20 : decode cX8_readNumber 20 = .ok (.if_icmp .ge 51, 3) := by decide +kernel
theorem dX8_readNumber_23 : decode cX8_readNumber 23 = .ok (.aload_n 0, 1) := by decide +kernel
theorem dX8_readNumber_24 : decode cX8_readNumber 24 = .ok (.invokevirtual 40, 3) := by decide +kernel
theorem dX8_readNumber_27 : decode cX8_readNumber 27 = .ok (.invokestatic 93, 3) := by decide +kernel
theorem dX8_readNumber_30 : decode cX8_readNumber 30 = .ok (.ifCond .eq 41, 3) := by decide +kernel
theorem dX8_readNumber_33 : decode cX8_readNumber 33 = .ok (.aload_n 0, 1) := by decide +kernel
theorem dX8_readNumber_34 : decode cX8_readNumber 34 = .ok (.getfield 22, 3) := by decide +kernel
theorem dX8_readNumber_37 : decode cX8_readNumber 37 = .ok (.iload_n 3, 1) := by decide +kernel
theorem dX8_readNumber_38 : decode cX8_readNumber 38 = .ok (.isub, 1) := by decide +kernel
theorem dX8_readNumber_39 : decode cX8_readNumber 39 = .ok (.iconst 3, 1) := by decide +kernel
theorem dX8_readNumber_40 : decode cX8_readNumber 40 = .ok (.if_icmp .ge 18, 3) := by decide +kernel
theorem dX8_readNumber_43 : decode cX8_readNumber 43 = .ok (.iload 4, 2) := by decide +kernel
theorem dX8_readNumber_45 : decode cX8_readNumber 45 = .ok (.bipush 10, 2) := by decide +kernel
theorem dX8_readNumber_47 : decode cX8_readNumber 47 = .ok (.imul, 1) := by decide +kernel
theorem dX8_readNumber_48 : decode cX8_readNumber 48 = .ok (.aload_n 0, 1) := by decide +kernel
theorem dX8_readNumber_49 : decode cX8_readNumber 49 = .ok (.invokevirtual 40, 3) := by decide +kernel
theorem dX8_readNumber_52 : decode cX8_readNumber 52 = .ok (.iadd, 1) := by decide +kernel
theorem dX8_readNumber_53 : decode cX8_readNumber 53 = .ok (.bipush 48, 2) := by decide +kernel
theorem dX8_readNumber_55 : decode cX8_readNumber 55 = .ok (.isub, 1) := by decide +kernel
theorem dX8_readNumber_56 : decode cX8_readNumber 56 = .ok (.istore 4, 2) := by decide +kernel
theorem dX8_readNumber_58 : decode cX8_readNumber 58 = .ok (.aload_n 0, 1) := by decide +kernel
theorem dX8_readNumber_59 : decode cX8_readNumber 59 = .ok (.dup, 1) := by decide +kernel
theorem dX8_readNumber_60 : decode cX8_readNumber 60 = .ok (.getfield 22, 3) := by decide +kernel
theorem dX8_readNumber_63 : decode cX8_readNumber 63 = .ok (.iconst 1, 1) := by decide +kernel
theorem dX8_readNumber_64 : decode cX8_readNumber 64 = .ok (.iadd, 1) := by decide +kernel
theorem dX8_readNumber_65 : decode cX8_readNumber 65 = .ok (.putfield 22, 3) := by decide +kernel
theorem dX8_readNumber_68 : decode cX8_readNumber 68 = .ok (.goto (-56), 3) := by decide +kernel
theorem dX8_readNumber_71 : decode cX8_readNumber 71 = .ok (.aload_n 0, 1) := by decide +kernel
theorem dX8_readNumber_72 : decode cX8_readNumber 72 = .ok (.getfield 22, 3) := by decide +kernel
theorem dX8_readNumber_75 : decode cX8_readNumber 75 = .ok (.iload_n 3, 1) := by decide +kernel
theorem dX8_readNumber_76 : decode cX8_readNumber 76 = .ok (.if_icmp .ne 12, 3) := by decide +kernel
theorem dX8_readNumber_79 : decode cX8_readNumber 79 = .ok (.aload_n 0, 1) := by decide +kernel
theorem dX8_readNumber_80 : decode cX8_readNumber 80 = .ok (.iconst 1, 1) := by decide +kernel
theorem dX8_readNumber_81 : decode cX8_readNumber 81 = .ok (.iload_n 3, 1) := by decide +kernel
theorem dX8_readNumber_82 : decode cX8_readNumber 82 = .ok (.invokevirtual 58, 3) := by decide +kernel
theorem dX8_readNumber_85 : decode cX8_readNumber 85 = .ok (.goto 31, 3) := by decide +kernel
theorem dX8_readNumber_88 : decode cX8_readNumber 88 = .ok (.aload_n 0, 1) := by decide +kernel
theorem dX8_readNumber_89 : decode cX8_readNumber 89 = .ok (.getfield 22, 3) := by decide +kernel
theorem dX8_readNumber_92 : decode cX8_readNumber 92 = .ok (.iload_n 3, 1) := by decide +kernel
theorem dX8_readNumber_93 : decode cX8_readNumber 93 = .ok (.isub, 1) := by decide +kernel
theorem dX8_readNumber_94 : decode cX8_readNumber 94 = .ok (.iconst 3, 1) := by decide +kernel
theorem dX8_readNumber_95 : decode cX8_readNumber 95 = .ok (.if_icmp .gt 15, 3) := by decide +kernel
theorem dX8_readNumber_98 : decode cX8_readNumber 98 = .ok (.iload 4, 2) := by decide +kernel
theorem dX8_readNumber_100 : decode cX8_readNumber 100 = .ok (.iload_n 1, 1) := by decide +kernel
theorem dX8_readNumber_101 : decode cX8_readNumber 101 = .ok (.if_icmp .lt 9, 3) := by decide +kernel
theorem dX8_readNumber_104 : decode cX8_readNumber 104 = .ok (.iload 4, 2) := by decide +kernel
theorem dX8_readNumber_106 : decode cX8_readNumber 106 = .ok (.iload_n 2, 1) := by decide +kernel
theorem dX8_readNumber_107 : decode cX8_readNumber 107 = .ok (.if_icmp .le 9, 3) := by decide +kernel
theorem dX8_readNumber_110 : decode cX8_readNumber 110 = .ok (.aload_n 0, 1) := by decide +kernel
theorem dX8_readNumber_111 : decode cX8_readNumber 111 = .ok (.iconst 2, 1) := by decide +kernel
theorem dX8_readNumber_112 : decode cX8_readNumber 112 = .ok (.iload_n 3, 1) := by decide +kernel
theorem dX8_readNumber_113 : decode cX8_readNumber 113 = .ok (.invokevirtual 58, 3) := by decide +kernel
theorem dX8_readNumber_116 : decode cX8_readNumber 116 = .ok (.iload 4, 2) := by decide +kernel
theorem dX8_readNumber_118 : decode cX8_readNumber 118 = .ok (.ireturn, 1) := by decide +kernel
set_option maxRecDepth 20000 in
theorem ggX8_demandEnd_X8_passes : GoodIn wsX8_demandEnd wsX8_passes := goodIn_r _ [6, 1, 7, 8, 9, 5, 10, 11, 12, 13, 14, 15, 16, 23, 24, 25, 26, 27] (by decide +kernel) (by decide +kernel)
set_option maxRecDepth 20000 in
theorem gX8_demandEnd_X8_passes : GoodIn wsX8_demandEnd (wsV RX8 73 RX8 yX8_passes wsX8_passes) := goodIn_app (goodIn_of _ (by decide +kernel)) ggX8_demandEnd_X8_passes
set_option maxRecDepth 20000 in
theorem ggX8_demandEnd_X8_note : GoodIn wsX8_demandEnd wsX8_note := goodIn_r _ [20, 21, 22, 23, 24, 25, 26, 27] (by decide +kernel) (by decide +kernel)
set_option maxRecDepth 20000 in
theorem gX8_demandEnd_X8_note : GoodIn wsX8_demandEnd (wsV RX8 58 RX8 yX8_note wsX8_note) := goodIn_app (goodIn_of _ (by decide +kernel)) ggX8_demandEnd_X8_note
theorem dX8_demandEnd_0 : decode cX8_demandEnd 0 = .ok (.aload_n 0, 1) := by decide +kernel
theorem dX8_demandEnd_1 : decode cX8_demandEnd 1 = .ok (.bipush 59, 2) := by decide +kernel
theorem dX8_demandEnd_3 : decode cX8_demandEnd 3 = .ok (.invokevirtual 73, 3) := by decide +kernel
theorem dX8_demandEnd_6 : decode cX8_demandEnd 6 = .ok (.ifCond .ne 12, 3) := by decide +kernel
theorem dX8_demandEnd_9 : decode cX8_demandEnd 9 = .ok (.aload_n 0, 1) := by decide +kernel
theorem dX8_demandEnd_10 : decode cX8_demandEnd 10 = .ok (.iconst 1, 1) := by decide +kernel
theorem dX8_demandEnd_11 : decode cX8_demandEnd 11 = .ok (.aload_n 0, 1) := by decide +kernel
theorem dX8_demandEnd_12 : decode cX8_demandEnd 12 = .ok (.getfield 22, 3) := by decide +kernel
theorem dX8_demandEnd_15 : decode cX8_demandEnd 15 = .ok (.invokevirtual 58, 3) := by decide +kernel
theorem dX8_demandEnd_18 : decode cX8_demandEnd 18 = .ok (.return_, 1) := by decide +kernel
set_option maxRecDepth 20000 in
theorem ggX8_passes_X8_skipBlanks : GoodIn wsX8_passes wsX8_skipBlanks := goodIn_r _ [6, 1, 7, 8, 9, 10, 5, 11, 12, 13, 14, 15, 16, 17] (by decide +kernel) (by decide +kernel)
set_option maxRecDepth 20000 in
theorem gX8_passes_X8_skipBlanks : GoodIn wsX8_passes (wsV RX8 33 RX8 yX8_skipBlanks wsX8_skipBlanks) := goodIn_app (goodIn_of _ (by decide +kernel)) ggX8_passes_X8_skipBlanks
set_option maxRecDepth 20000 in
theorem ggX8_passes_X8_letter : GoodIn wsX8_passes wsX8_letter := goodIn_r _ [11, 1, 7, 12, 13, 14, 15, 16, 17] (by decide +kernel) (by decide +kernel)
set_option maxRecDepth 20000 in
theorem gX8_passes_X8_letter : GoodIn wsX8_passes (wsV RX8 40 RX8 yX8_letter wsX8_letter) := goodIn_app (goodIn_of _ (by decide +kernel)) ggX8_passes_X8_letter
theorem dX8_passes_0 : decode cX8_passes 0 = .ok (.aload_n 0, 1) := by decide +kernel
theorem dX8_passes_1 : decode cX8_passes 1 = .ok (.invokevirtual 33, 3) := by decide +kernel
theorem dX8_passes_4 : decode cX8_passes 4 = .ok (.aload_n 0, 1) := by decide +kernel
theorem dX8_passes_5 : decode cX8_passes 5 = .ok (.invokevirtual 40, 3) := by decide +kernel
theorem dX8_passes_8 : decode cX8_passes 8 = .ok (.iload_n 1, 1) := by decide +kernel
theorem dX8_passes_9 : decode cX8_passes 9 = .ok (.if_icmp .eq 5, 3) := by decide +kernel
theorem dX8_passes_12 : decode cX8_passes 12 = .ok (.iconst 0, 1) := by decide +kernel
theorem dX8_passes_13 : decode cX8_passes 13 = .ok (.ireturn, 1) := by decide +kernel
theorem dX8_passes_14 : decode cX8_passes 14 = .ok (.aload_n 0, 1) := by decide +kernel
theorem dX8_passes_15 : decode cX8_passes 15 = .ok (.dup, 1) := by decide +kernel
theorem dX8_passes_16 : decode cX8_passes 16 = .ok (.getfield 22, 3) := by decide +kernel
theorem dX8_passes_19 : decode cX8_passes 19 = .ok (.iconst 1, 1) := by decide +kernel
theorem dX8_passes_20 : decode cX8_passes 20 = .ok (.iadd, 1) := by decide +kernel
theorem dX8_passes_21 : decode cX8_passes 21 = .ok (.putfield 22, 3) := by decide +kernel
theorem dX8_passes_24 : decode cX8_passes 24 = .ok (.iconst 1, 1) := by decide +kernel
theorem dX8_passes_25 : decode cX8_passes 25 = .ok (.ireturn, 1) := by decide +kernel
set_option maxRecDepth 20000 in
theorem ggX8_skipBlanks_X8_letter : GoodIn wsX8_skipBlanks wsX8_letter := goodIn_r _ [7, 1, 2, 8, 9, 10, 11, 12, 13] (by decide +kernel) (by decide +kernel)
set_option maxRecDepth 20000 in
theorem gX8_skipBlanks_X8_letter : GoodIn wsX8_skipBlanks (wsV RX8 40 RX8 yX8_letter wsX8_letter) := goodIn_app (goodIn_of _ (by decide +kernel)) ggX8_skipBlanks_X8_letter
theorem dX8_skipBlanks_0 : decode cX8_skipBlanks 0 = .ok (.aload_n 0, 1) := by decide +kernel
theorem dX8_skipBlanks_1 : decode cX8_skipBlanks 1 = .ok (.getfield 22, 3) := by decide +kernel
theorem dX8_skipBlanks_4 : decode cX8_skipBlanks 4 = .ok (.aload_n 0, 1) := by decide +kernel
theorem dX8_skipBlanks_5 : decode cX8_skipBlanks 5 = .ok (.getfield 19, 3) := by decide +kernel
theorem dX8_skipBlanks_8 : decode cX8_skipBlanks 8 = .ok (.if_icmp .ge 25, 3) := by decide +kernel
theorem dX8_skipBlanks_11 : decode cX8_skipBlanks 11 = .ok (.aload_n 0, 1) := by decide +kernel
theorem dX8_skipBlanks_12 : decode cX8_skipBlanks 12 = .ok (.invokevirtual 40, 3) := by decide +kernel
theorem dX8_skipBlanks_15 : decode cX8_skipBlanks 15 = .ok (.bipush 32, 2) := by decide +kernel
theorem dX8_skipBlanks_17 : decode cX8_skipBlanks 17 = .ok (.if_icmp .ne 16, 3) := by decide +kernel
theorem dX8_skipBlanks_20 : decode cX8_skipBlanks 20 = .ok (.aload_n 0, 1) := by decide +kernel
theorem dX8_skipBlanks_21 : decode cX8_skipBlanks 21 = .ok (.dup, 1) := by decide +kernel
theorem dX8_skipBlanks_22 : decode cX8_skipBlanks 22 = .ok (.getfield 22, 3) := by decide +kernel
theorem dX8_skipBlanks_25 : decode cX8_skipBlanks 25 = .ok (.iconst 1, 1) := by decide +kernel
theorem dX8_skipBlanks_26 : decode cX8_skipBlanks 26 = .ok (.iadd, 1) := by decide +kernel
theorem dX8_skipBlanks_27 : decode cX8_skipBlanks 27 = .ok (.putfield 22, 3) := by decide +kernel
theorem dX8_skipBlanks_30 : decode cX8_skipBlanks 30 = .ok (.goto (-30), 3) := by decide +kernel
theorem dX8_skipBlanks_33 : decode cX8_skipBlanks 33 = .ok (.return_, 1) := by decide +kernel
theorem dX8_letter_0 : decode cX8_letter 0 = .ok (.aload_n 0, 1) := by decide +kernel
theorem dX8_letter_1 : decode cX8_letter 1 = .ok (.getfield 22, 3) := by decide +kernel
theorem dX8_letter_4 : decode cX8_letter 4 = .ok (.ifCond .lt 36, 3) := by decide +kernel
theorem dX8_letter_7 : decode cX8_letter 7 = .ok (.aload_n 0, 1) := by decide +kernel
theorem dX8_letter_8 : decode cX8_letter 8 = .ok (.getfield 22, 3) := by decide +kernel
theorem dX8_letter_11 : decode cX8_letter 11 = .ok (.aload_n 0, 1) := by decide +kernel
theorem dX8_letter_12 : decode cX8_letter 12 = .ok (.getfield 19, 3) := by decide +kernel
theorem dX8_letter_15 : decode cX8_letter 15 = .ok (.if_icmp .ge 25, 3) := by decide +kernel
theorem dX8_letter_18 : decode cX8_letter 18 = .ok (.aload_n 0, 1) := by decide +kernel
theorem dX8_letter_19 : decode cX8_letter 19 = .ok (.getfield 22, 3) := by decide +kernel
theorem dX8_letter_22 : decode cX8_letter 22 = .ok (.sipush 240, 3) := by decide +kernel
theorem dX8_letter_25 : decode cX8_letter 25 = .ok (.if_icmp .ge 15, 3) := by decide +kernel
theorem dX8_letter_28 : decode cX8_letter 28 = .ok (.aload_n 0, 1) := by decide +kernel
theorem dX8_letter_29 : decode cX8_letter 29 = .ok (.getfield 9, 3) := by decide +kernel
theorem dX8_letter_32 : decode cX8_letter 32 = .ok (.aload_n 0, 1) := by decide +kernel
theorem dX8_letter_33 : decode cX8_letter 33 = .ok (.getfield 22, 3) := by decide +kernel
theorem dX8_letter_36 : decode cX8_letter 36 = .ok (.iaload, 1) := by decide +kernel
theorem dX8_letter_37 : decode cX8_letter 37 = .ok (.goto 4, 3) := by decide +kernel
theorem dX8_letter_40 : decode cX8_letter 40 = .ok (.iconst (-1), 1) := by decide +kernel
theorem dX8_letter_41 : decode cX8_letter 41 = .ok (.ireturn, 1) := by decide +kernel
theorem dX8_isFigure_0 : decode cX8_isFigure 0 = .ok (.iload_n 0, 1) := by decide +kernel
theorem dX8_isFigure_1 : decode cX8_isFigure 1 = .ok (.bipush 48, 2) := by decide +kernel
theorem dX8_isFigure_3 : decode cX8_isFigure 3 = .ok (.if_icmp .lt 13, 3) := by decide +kernel
theorem dX8_isFigure_6 : decode cX8_isFigure 6 = .ok (.iload_n 0, 1) := by decide +kernel
theorem dX8_isFigure_7 : decode cX8_isFigure 7 = .ok (.bipush 57, 2) := by decide +kernel
theorem dX8_isFigure_9 : decode cX8_isFigure 9 = .ok (.if_icmp .gt 7, 3) := by decide +kernel
theorem dX8_isFigure_12 : decode cX8_isFigure 12 = .ok (.iconst 1, 1) := by decide +kernel
theorem dX8_isFigure_13 : decode cX8_isFigure 13 = .ok (.goto 4, 3) := by decide +kernel
theorem dX8_isFigure_16 : decode cX8_isFigure 16 = .ok (.iconst 0, 1) := by decide +kernel
theorem dX8_isFigure_17 : decode cX8_isFigure 17 = .ok (.ireturn, 1) := by decide +kernel
theorem dX8_note_0 : decode cX8_note 0 = .ok (.aload_n 0, 1) := by decide +kernel
theorem dX8_note_1 : decode cX8_note 1 = .ok (.getfield 25, 3) := by decide +kernel
theorem dX8_note_4 : decode cX8_note 4 = .ok (.ifCond .ne 13, 3) := by decide +kernel
theorem dX8_note_7 : decode cX8_note 7 = .ok (.aload_n 0, 1) := by decide +kernel
theorem dX8_note_8 : decode cX8_note 8 = .ok (.iload_n 1, 1) := by decide +kernel
theorem dX8_note_9 : decode cX8_note 9 = .ok (.putfield 25, 3) := by decide +kernel
theorem dX8_note_12 : decode cX8_note 12 = .ok (.aload_n 0, 1) := by decide +kernel
theorem dX8_note_13 : decode cX8_note 13 = .ok (.iload_n 2, 1) := by decide +kernel
theorem dX8_note_14 : decode cX8_note 14 = .ok (.putfield 15, 3) := by decide +kernel
theorem dX8_note_17 : decode cX8_note 17 = .ok (.return_, 1) := by decide +kernel
set_option maxRecDepth 20000 in
theorem ggX9_init_X8_init : GoodIn wsX9_init wsX8_init := goodIn_r _ [42, 43, 2, 3, 44, 45, 46, 103, 104, 105, 106, 107] (by decide +kernel) (by decide +kernel)
set_option maxRecDepth 20000 in
theorem gX9_init_X8_init_n9 : GoodIn wsX9_init (wsX8_init) := ggX9_init_X8_init
set_option maxRecDepth 20000 in
theorem ggX9_init_X2_init : GoodIn wsX9_init wsX2_init := goodIn_r _ [49, 50, 2, 3, 44, 51, 52, 53, 54, 55, 56, 57, 58, 59, 118, 119, 120, 121, 122, 123] (by decide +kernel) (by decide +kernel)
set_option maxRecDepth 20000 in
theorem gX9_init_X2_init : GoodIn wsX9_init (wsX2_init) := ggX9_init_X2_init
set_option maxRecDepth 20000 in
theorem ggX9_init_X6_init : GoodIn wsX9_init wsX6_init := goodIn_r _ [61, 62, 2, 3, 44, 63, 124, 125, 126] (by decide +kernel) (by decide +kernel)
set_option maxRecDepth 20000 in
theorem gX9_init_X6_init_n25 : GoodIn wsX9_init (wsX6_init) := ggX9_init_X6_init
set_option maxRecDepth 20000 in
theorem ggX9_init_X5_init : GoodIn wsX9_init wsX5_init := goodIn_r _ [65, 66, 2, 3, 44, 67, 68, 69, 70, 127, 128, 129] (by decide +kernel) (by decide +kernel)
set_option maxRecDepth 20000 in
theorem gX9_init_X5_init_n32 : GoodIn wsX9_init (wsX5_init) := ggX9_init_X5_init
set_option maxRecDepth 20000 in
theorem ggX9_init_X7_init : GoodIn wsX9_init wsX7_init := goodIn_r _ [72, 73, 2, 3, 69, 74, 44, 75, 76, 77, 78, 79, 80, 130, 131, 132, 133, 134, 135, 136, 137, 138] (by decide +kernel) (by decide +kernel)
set_option maxRecDepth 20000 in
theorem gX9_init_X7_init_n39 : GoodIn wsX9_init (wsX7_init) := ggX9_init_X7_init
set_option maxRecDepth 20000 in
theorem ggX9_init_X4_init : GoodIn wsX9_init wsX4_init := goodIn_r _ [82, 83, 2, 3, 44, 84, 69, 85, 139, 140, 141] (by decide +kernel) (by decide +kernel)
set_option maxRecDepth 20000 in
theorem gX9_init_X4_init_n46 : GoodIn wsX9_init (wsX4_init) := ggX9_init_X4_init
set_option maxRecDepth 20000 in
theorem ggX9_init_X1_init : GoodIn wsX9_init wsX1_init := goodIn_r _ [87, 88, 2, 3, 44, 89, 90, 142, 143, 144] (by decide +kernel) (by decide +kernel)
set_option maxRecDepth 20000 in
theorem gX9_init_X1_init_n53 : GoodIn wsX9_init (wsX1_init) := ggX9_init_X1_init
set_option maxRecDepth 20000 in
theorem ggX9_init_X3_init : GoodIn wsX9_init wsX3_init := goodIn_r _ [92, 93, 2, 3] (by decide +kernel) (by decide +kernel)
set_option maxRecDepth 20000 in
theorem gX9_init_X3_init_n60 : GoodIn wsX9_init (wsX3_init) := ggX9_init_X3_init
set_option maxRecDepth 20000 in
theorem ggX9_init_X0_init : GoodIn wsX9_init wsX0_init := goodIn_r _ [95, 96, 2, 3, 44, 97, 98, 99, 100, 101, 102, 146, 147, 148, 149, 150, 151, 152, 153, 154] (by decide +kernel) (by decide +kernel)
set_option maxRecDepth 20000 in
theorem gX9_init_X0_init_n67 : GoodIn wsX9_init (wsX0_init) := ggX9_init_X0_init
theorem dX9_init_0 : decode cX9_init 0 = .ok (.aload_n 0, 1) := by decide +kernel
theorem dX9_init_1 : decode cX9_init 1 = .ok (.invokespecial 1, 3) := by decide +kernel
theorem dX9_init_4 : decode cX9_init 4 = .ok (.aload_n 0, 1) := by decide +kernel
theorem dX9_init_5 : decode cX9_init 5 = .ok (.new 7, 3) := by decide +kernel
theorem dX9_init_8 : decode cX9_init 8 = .ok (.dup, 1) := by decide +kernel
theorem dX9_init_9 : decode cX9_init 9 = .ok (.invokespecial 9, 3) := by decide +kernel
theorem dX9_init_12 : decode cX9_init 12 = .ok (.putfield 10, 3) := by decide +kernel
theorem dX9_init_15 : decode cX9_init 15 = .ok (.aload_n 0, 1) := by decide +kernel
theorem dX9_init_16 : decode cX9_init 16 = .ok (.new 16, 3) := by decide +kernel
theorem dX9_init_19 : decode cX9_init 19 = .ok (.dup, 1) := by decide +kernel
theorem dX9_init_20 : decode cX9_init 20 = .ok (.invokespecial 18, 3) := by decide +kernel
theorem dX9_init_23 : decode cX9_init 23 = .ok (.putfield 19, 3) := by decide +kernel
theorem dX9_init_26 : decode cX9_init 26 = .ok (.aload_n 0, 1) := by decide +kernel
theorem dX9_init_27 : decode cX9_init 27 = .ok (.new 23, 3) := by decide +kernel
theorem dX9_init_30 : decode cX9_init 30 = .ok (.dup, 1) := by decide +kernel
theorem dX9_init_31 : decode cX9_init 31 = .ok (.invokespecial 25, 3) := by decide +kernel
theorem dX9_init_34 : decode cX9_init 34 = .ok (.putfield 26, 3) := by decide +kernel
theorem dX9_init_37 : decode cX9_init 37 = .ok (.aload_n 0, 1) := by decide +kernel
theorem dX9_init_38 : decode cX9_init 38 = .ok (.new 30, 3) := by decide +kernel
theorem dX9_init_41 : decode cX9_init 41 = .ok (.dup, 1) := by decide +kernel
theorem dX9_init_42 : decode cX9_init 42 = .ok (.invokespecial 32, 3) := by decide +kernel
theorem dX9_init_45 : decode cX9_init 45 = .ok (.putfield 33, 3) := by decide +kernel
theorem dX9_init_48 : decode cX9_init 48 = .ok (.aload_n 0, 1) := by decide +kernel
theorem dX9_init_49 : decode cX9_init 49 = .ok (.new 37, 3) := by decide +kernel
theorem dX9_init_52 : decode cX9_init 52 = .ok (.dup, 1) := by decide +kernel
theorem dX9_init_53 : decode cX9_init 53 = .ok (.invokespecial 39, 3) := by decide +kernel
theorem dX9_init_56 : decode cX9_init 56 = .ok (.putfield 40, 3) := by decide +kernel
theorem dX9_init_59 : decode cX9_init 59 = .ok (.aload_n 0, 1) := by decide +kernel
theorem dX9_init_60 : decode cX9_init 60 = .ok (.new 44, 3) := by decide +kernel
theorem dX9_init_63 : decode cX9_init 63 = .ok (.dup, 1) := by decide +kernel
theorem dX9_init_64 : decode cX9_init 64 = .ok (.invokespecial 46, 3) := by decide +kernel
theorem dX9_init_67 : decode cX9_init 67 = .ok (.putfield 47, 3) := by decide +kernel
theorem dX9_init_70 : decode cX9_init 70 = .ok (.aload_n 0, 1) := by decide +kernel
theorem dX9_init_71 : decode cX9_init 71 = .ok (.new 51, 3) := by decide +kernel
theorem dX9_init_74 : decode cX9_init 74 = .ok (.dup, 1) := by decide +kernel
theorem dX9_init_75 : decode cX9_init 75 = .ok (.invokespecial 53, 3) := by decide +kernel
theorem dX9_init_78 : decode cX9_init 78 = .ok (.putfield 54, 3) := by decide +kernel
theorem dX9_init_81 : decode cX9_init 81 = .ok (.aload_n 0, 1) := by decide +kernel
theorem dX9_init_82 : decode cX9_init 82 = .ok (.new 58, 3) := by decide +kernel
theorem dX9_init_85 : decode cX9_init 85 = .ok (.dup, 1) := by decide +kernel
theorem dX9_init_86 : decode cX9_init 86 = .ok (.invokespecial 60, 3) := by decide +kernel
theorem dX9_init_89 : decode cX9_init 89 = .ok (.putfield 61, 3) := by decide +kernel
theorem dX9_init_92 : decode cX9_init 92 = .ok (.aload_n 0, 1) := by decide +kernel
theorem dX9_init_93 : decode cX9_init 93 = .ok (.new 65, 3) := by decide +kernel
theorem dX9_init_96 : decode cX9_init 96 = .ok (.dup, 1) := by decide +kernel
theorem dX9_init_97 : decode cX9_init 97 = .ok (.invokespecial 67, 3) := by decide +kernel
theorem dX9_init_100 : decode cX9_init 100 = .ok (.putfield 68, 3) := by decide +kernel
theorem dX9_init_103 : decode cX9_init 103 = .ok (.aload_n 0, 1) := by decide +kernel
theorem dX9_init_104 : decode cX9_init 104 = .ok (.new 65, 3) := by decide +kernel
theorem dX9_init_107 : decode cX9_init 107 = .ok (.dup, 1) := by decide +kernel
theorem dX9_init_108 : decode cX9_init 108 = .ok (.invokespecial 67, 3) := by decide +kernel
theorem dX9_init_111 : decode cX9_init 111 = .ok (.putfield 72, 3) := by decide +kernel
theorem dX9_init_114 : decode cX9_init 114 = .ok (.return_, 1) := by decide +kernel
set_option maxRecDepth 20000 in
theorem ggX9_feed_X9_isOutside : GoodIn wsX9_feed wsX9_isOutside := goodIn_r _ [8] (by decide +kernel) (by decide +kernel)
set_option maxRecDepth 20000 in
theorem gX9_feed_X9_isOutside : GoodIn wsX9_feed (va_wsS RX9 75 yX9_isOutside wsX9_isOutside) := goodIn_app (goodIn_of _ (by decide +kernel)) ggX9_feed_X9_isOutside
set_option maxRecDepth 20000 in
theorem ggX9_feed_X8_add : GoodIn wsX9_feed wsX8_add := goodIn_r _ [13, 14, 15, 26, 27, 28, 29, 30] (by decide +kernel) (by decide +kernel)
set_option maxRecDepth 20000 in
theorem gX9_feed_X8_add : GoodIn wsX9_feed (wsV RX9 85 RX8 yX8_add wsX8_add) := goodIn_app (goodIn_of _ (by decide +kernel)) ggX9_feed_X8_add
theorem dX9_feed_0 : decode cX9_feed 0 = .ok (.iload_n 1, 1) := by decide +kernel
theorem dX9_feed_1 : decode cX9_feed 1 = .ok (.iconst 0, 1) := by decide +kernel
theorem dX9_feed_2 : decode cX9_feed 2 = .ok (.sipush 255, 3) := by decide +kernel
theorem dX9_feed_5 : decode cX9_feed 5 = .ok (.invokestatic 75, 3) := by decide +kernel
theorem dX9_feed_8 : decode cX9_feed 8 = .ok (.ifCond .eq 6, 3) := by decide +kernel
theorem dX9_feed_11 : decode cX9_feed 11 = .ok (.ldc 79, 2) := by decide +kernel
theorem dX9_feed_13 : decode cX9_feed 13 = .ok (.ireturn, 1) := by decide +kernel
theorem dX9_feed_14 : decode cX9_feed 14 = .ok (.aload_n 0, 1) := by decide +kernel
theorem dX9_feed_15 : decode cX9_feed 15 = .ok (.getfield 10, 3) := by decide +kernel
theorem dX9_feed_18 : decode cX9_feed 18 = .ok (.getfield 80, 3) := by decide +kernel
theorem dX9_feed_21 : decode cX9_feed 21 = .ok (.sipush 240, 3) := by decide +kernel
theorem dX9_feed_24 : decode cX9_feed 24 = .ok (.if_icmp .lt 6, 3) := by decide +kernel
theorem dX9_feed_27 : decode cX9_feed 27 = .ok (.ldc 84, 2) := by decide +kernel
theorem dX9_feed_29 : decode cX9_feed 29 = .ok (.ireturn, 1) := by decide +kernel
theorem dX9_feed_30 : decode cX9_feed 30 = .ok (.aload_n 0, 1) := by decide +kernel
theorem dX9_feed_31 : decode cX9_feed 31 = .ok (.getfield 10, 3) := by decide +kernel
theorem dX9_feed_34 : decode cX9_feed 34 = .ok (.iload_n 1, 1) := by decide +kernel
theorem dX9_feed_35 : decode cX9_feed 35 = .ok (.invokevirtual 85, 3) := by decide +kernel
theorem dX9_feed_38 : decode cX9_feed 38 = .ok (.ireturn, 1) := by decide +kernel
set_option maxRecDepth 20000 in
theorem ggX9_beach_X8_readInto : GoodIn wsX9_beach wsX8_readInto := goodIn_r _ [15, 16, 17, 18, 19, 20, 21, 22, 23, 24, 25, 26, 27, 28, 29, 30, 14, 31, 32, 33, 34, 35, 36, 37, 38, 39, 40, 41, 42, 43, 44, 45, 46, 47, 48, 49, 50, 51, 52, 53, 54, 55, 56, 57, 58, 59, 60, 61, 62, 63, 64, 65, 66, 67, 68, 69, 70, 71, 72, 73, 74, 75, 76, 77, 78, 79, 80, 81, 82, 83, 84, 85, 86, 87, 88, 89, 90, 91, 92, 93, 94, 95, 96, 146, 147, 148, 149, 150, 151, 152, 153, 154, 155, 156, 157, 158, 159] (by decide +kernel) (by decide +kernel)
set_option maxRecDepth 20000 in
theorem gX9_beach_X8_readInto : GoodIn wsX9_beach (wsV RX9 89 RX8 yX8_readInto wsX8_readInto) := goodIn_app (goodIn_of _ (by decide +kernel)) ggX9_beach_X8_readInto
set_option maxRecDepth 20000 in
theorem ggX9_beach_X2_begin : GoodIn wsX9_beach wsX2_begin := goodIn_r _ [101, 102, 103, 104, 105, 106, 107, 108, 109, 110, 111, 160, 161, 162, 163, 164, 165] (by decide +kernel) (by decide +kernel)
set_option maxRecDepth 20000 in
theorem gX9_beach_X2_begin : GoodIn wsX9_beach (wsV RX9 96 RX2 yX2_begin wsX2_begin) := goodIn_app (goodIn_of _ (by decide +kernel)) ggX9_beach_X2_begin
set_option maxRecDepth 20000 in
theorem ggX9_beach_X6_forget : GoodIn wsX9_beach wsX6_forget := goodIn_r _ [116, 117, 166, 167, 168] (by decide +kernel) (by decide +kernel)
set_option maxRecDepth 20000 in
theorem gX9_beach_X6_forget : GoodIn wsX9_beach (wsV RX9 99 RX6 yX6_forget wsX6_forget) := goodIn_app (goodIn_of _ (by decide +kernel)) ggX9_beach_X6_forget
set_option maxRecDepth 20000 in
theorem ggX9_beach_X5_forget : GoodIn wsX9_beach wsX5_forget := goodIn_r _ [122, 123, 169, 170, 171] (by decide +kernel) (by decide +kernel)
set_option maxRecDepth 20000 in
theorem gX9_beach_X5_forget : GoodIn wsX9_beach (wsV RX9 102 RX5 yX5_forget wsX5_forget) := goodIn_app (goodIn_of _ (by decide +kernel)) ggX9_beach_X5_forget
set_option maxRecDepth 20000 in
theorem ggX9_beach_X4_forget : GoodIn wsX9_beach wsX4_forget := goodIn_r _ [128, 129, 172, 173, 174] (by decide +kernel) (by decide +kernel)
set_option maxRecDepth 20000 in
theorem gX9_beach_X4_forget : GoodIn wsX9_beach (wsV RX9 103 RX4 yX4_forget wsX4_forget) := goodIn_app (goodIn_of _ (by decide +kernel)) ggX9_beach_X4_forget
set_option maxRecDepth 20000 in
theorem ggX9_beach_X1_forget : GoodIn wsX9_beach wsX1_forget := goodIn_r _ [134, 135, 175, 176, 177] (by decide +kernel) (by decide +kernel)
set_option maxRecDepth 20000 in
theorem gX9_beach_X1_forget : GoodIn wsX9_beach (wsV RX9 104 RX1 yX1_forget wsX1_forget) := goodIn_app (goodIn_of _ (by decide +kernel)) ggX9_beach_X1_forget
theorem dX9_beach_0 : decode cX9_beach 0 = .ok (.aload_n 0, 1) := by decide +kernel
theorem dX9_beach_1 : decode cX9_beach 1 = .ok (.getfield 10, 3) := by decide +kernel
theorem dX9_beach_4 : decode cX9_beach 4 = .ok (.aload_n 0, 1) := by decide +kernel
theorem dX9_beach_5 : decode cX9_beach 5 = .ok (.getfield 72, 3) := by decide +kernel
theorem dX9_beach_8 : decode cX9_beach 8 = .ok (.invokevirtual 89, 3) := by decide +kernel
theorem dX9_beach_11 : decode cX9_beach 11 = .ok (.aload_n 0, 1) := by decide +kernel
theorem dX9_beach_12 : decode cX9_beach 12 = .ok (.getfield 10, 3) := by decide +kernel
theorem dX9_beach_15 : decode cX9_beach 15 = .ok (.getfield 93, 3) := by decide +kernel
theorem dX9_beach_18 : decode cX9_beach 18 = .ok (.ifCond .eq 14, 3) := by decide +kernel
theorem dX9_beach_21 : decode cX9_beach 21 = .ok (.bipush (-10), 2) := by decide +kernel
theorem dX9_beach_23 : decode cX9_beach 23 = .ok (.aload_n 0, 1) := by decide +kernel
theorem dX9_beach_24 : decode cX9_beach 24 = .ok (.getfield 10, 3) := by decide +kernel
theorem dX9_beach_27 : decode cX9_beach 27 = .ok (.getfield 93, 3) := by decide +kernel
theorem dX9_beach_30 : decode cX9_beach 30 = .ok (.isub, 1) := by decide +kernel
theorem dX9_beach_31 : decode cX9_beach 31 = .ok (.ireturn, 1) := by decide +kernel
theorem dX9_beach_32 : decode cX9_beach 32 = .ok (.aload_n 0, 1) := by decide +kernel
theorem dX9_beach_33 : decode cX9_beach 33 = .ok (.getfield 68, 3) := by decide +kernel
theorem dX9_beach_36 : decode cX9_beach 36 = .ok (.astore_n 1, 1) := by decide +kernel
theorem dX9_beach_37 : decode cX9_beach 37 = .ok (.aload_n 0, 1) := by decide +kernel
theorem dX9_beach_38 : decode cX9_beach 38 = .ok (.aload_n 0, 1) := by decide +kernel
theorem dX9_beach_39 : decode cX9_beach 39 = .ok (.getfield 72, 3) := by decide +kernel
theorem dX9_beach_42 : decode cX9_beach 42 = .ok (.putfield 68, 3) := by decide +kernel
theorem dX9_beach_45 : decode cX9_beach 45 = .ok (.aload_n 0, 1) := by decide +kernel
theorem dX9_beach_46 : decode cX9_beach 46 = .ok (.aload_n 1, 1) := by decide +kernel
theorem dX9_beach_47 : decode cX9_beach 47 = .ok (.putfield 72, 3) := by decide +kernel
theorem dX9_beach_50 : decode cX9_beach 50 = .ok (.aload_n 0, 1) := by decide +kernel
theorem dX9_beach_51 : decode cX9_beach 51 = .ok (.getfield 19, 3) := by decide +kernel
theorem dX9_beach_54 : decode cX9_beach 54 = .ok (.invokevirtual 96, 3) := by decide +kernel
theorem dX9_beach_57 : decode cX9_beach 57 = .ok (.aload_n 0, 1) := by decide +kernel
theorem dX9_beach_58 : decode cX9_beach 58 = .ok (.getfield 26, 3) := by decide +kernel
theorem dX9_beach_61 : decode cX9_beach 61 = .ok (.invokevirtual 99, 3) := by decide +kernel
theorem dX9_beach_64 : decode cX9_beach 64 = .ok (.aload_n 0, 1) := by decide +kernel
theorem dX9_beach_65 : decode cX9_beach 65 = .ok (.getfield 33, 3) := by decide +kernel
theorem dX9_beach_68 : decode cX9_beach 68 = .ok (.invokevirtual 102, 3) := by decide +kernel
theorem dX9_beach_71 : decode cX9_beach 71 = .ok (.aload_n 0, 1) := by decide +kernel
theorem dX9_beach_72 : decode cX9_beach 72 = .ok (.getfield 47, 3) := by decide +kernel
theorem dX9_beach_75 : decode cX9_beach 75 = .ok (.invokevirtual 103, 3) := by decide +kernel
theorem dX9_beach_78 : decode cX9_beach 78 = .ok (.aload_n 0, 1) := by decide +kernel
theorem dX9_beach_79 : decode cX9_beach 79 = .ok (.getfield 54, 3) := by decide +kernel
theorem dX9_beach_82 : decode cX9_beach 82 = .ok (.invokevirtual 104, 3) := by decide +kernel
theorem dX9_beach_85 : decode cX9_beach 85 = .ok (.aload_n 0, 1) := by decide +kernel
theorem dX9_beach_86 : decode cX9_beach 86 = .ok (.getfield 68, 3) := by decide +kernel
theorem dX9_beach_89 : decode cX9_beach 89 = .ok (.getfield 105, 3) := by decide +kernel
theorem dX9_beach_92 : decode cX9_beach 92 = .ok (.ireturn, 1) := by decide +kernel
theorem dX9_fault_0 : decode cX9_fault 0 = .ok (.aload_n 0, 1) := by decide +kernel
theorem dX9_fault_1 : decode cX9_fault 1 = .ok (.getfield 10, 3) := by decide +kernel
theorem dX9_fault_4 : decode cX9_fault 4 = .ok (.getfield 108, 3) := by decide +kernel
theorem dX9_fault_7 : decode cX9_fault 7 = .ok (.ireturn, 1) := by decide +kernel
set_option maxRecDepth 20000 in
theorem ggX9_told_X2_setOf : GoodIn wsX9_told wsX2_setOf := goodIn_r _ [20, 21, 53, 54, 55, 56, 57, 58] (by decide +kernel) (by decide +kernel)
set_option maxRecDepth 20000 in
theorem gX9_told_X2_setOf : GoodIn wsX9_told (wsV RX9 120 RX2 yX2_setOf wsX2_setOf) := goodIn_app (goodIn_of _ (by decide +kernel)) ggX9_told_X2_setOf
set_option maxRecDepth 20000 in
theorem ggX9_told_X9_owed : GoodIn wsX9_told wsX9_owed := goodIn_r _ [26, 1, 4, 7, 27, 28, 29, 30, 31, 32, 33, 34, 35, 36, 37, 38, 39, 40, 41, 42, 43, 44, 45, 46, 47, 53, 54, 55, 56, 57, 58] (by decide +kernel) (by decide +kernel)
set_option maxRecDepth 20000 in
theorem gX9_told_X9_owed : GoodIn wsX9_told (wsV RX9 124 RX9 yX9_owed wsX9_owed) := goodIn_app (goodIn_of _ (by decide +kernel)) ggX9_told_X9_owed
theorem dX9_told_0 : decode cX9_told 0 = .ok (.iload_n 1, 1) := by decide +kernel
theorem dX9_told_1 : decode cX9_told 1 = .ok (.tableswitch 200 0 12 #[67, 75, 83, 91, 99, 107, 123, 139, 155, 171, 176, 184, 192], 67) := by decide +kernel
theorem dX9_told_68 : decode cX9_told 68 = .ok (.aload_n 0, 1) := by decide +kernel
theorem dX9_told_69 : decode cX9_told 69 = .ok (.getfield 68, 3) := by decide +kernel
theorem dX9_told_72 : decode cX9_told 72 = .ok (.getfield 111, 3) := by decide +kernel
theorem dX9_told_75 : decode cX9_told 75 = .ok (.ireturn, 1) := by decide +kernel
theorem dX9_told_76 : decode cX9_told 76 = .ok (.aload_n 0, 1) := by decide +kernel
theorem dX9_told_77 : decode cX9_told 77 = .ok (.getfield 68, 3) := by decide +kernel
theorem dX9_told_80 : decode cX9_told 80 = .ok (.getfield 114, 3) := by decide +kernel
theorem dX9_told_83 : decode cX9_told 83 = .ok (.ireturn, 1) := by decide +kernel
theorem dX9_told_84 : decode cX9_told 84 = .ok (.aload_n 0, 1) := by decide +kernel
theorem dX9_told_85 : decode cX9_told 85 = .ok (.getfield 68, 3) := by decide +kernel
theorem dX9_told_88 : decode cX9_told 88 = .ok (.getfield 105, 3) := by decide +kernel
theorem dX9_told_91 : decode cX9_told 91 = .ok (.ireturn, 1) := by decide +kernel
theorem dX9_told_92 : decode cX9_told 92 = .ok (.aload_n 0, 1) := by decide +kernel
theorem dX9_told_93 : decode cX9_told 93 = .ok (.getfield 10, 3) := by decide +kernel
theorem dX9_told_96 : decode cX9_told 96 = .ok (.getfield 80, 3) := by decide +kernel
theorem dX9_told_99 : decode cX9_told 99 = .ok (.ireturn, 1) := by decide +kernel
theorem dX9_told_100 : decode cX9_told 100 = .ok (.aload_n 0, 1) := by decide +kernel
theorem dX9_told_101 : decode cX9_told 101 = .ok (.getfield 19, 3) := by decide +kernel
theorem dX9_told_104 : decode cX9_told 104 = .ok (.getfield 117, 3) := by decide +kernel
theorem dX9_told_107 : decode cX9_told 107 = .ok (.ireturn, 1) := by decide +kernel
theorem dX9_told_108 : decode cX9_told 108 = .ok (.aload_n 0, 1) := by decide +kernel
theorem dX9_told_109 : decode cX9_told 109 = .ok (.getfield 19, 3) := by decide +kernel
theorem dX9_told_112 : decode cX9_told 112 = .ok (.iconst 0, 1) := by decide +kernel
theorem dX9_told_113 : decode cX9_told 113 = .ok (.aload_n 0, 1) := by decide +kernel
theorem dX9_told_114 : decode cX9_told 114 = .ok (.getfield 68, 3) := by decide +kernel
theorem dX9_told_117 : decode cX9_told 117 = .ok (.getfield 105, 3) := by decide +kernel
theorem dX9_told_120 : decode cX9_told 120 = .ok (.invokevirtual 120, 3) := by decide +kernel
theorem dX9_told_123 : decode cX9_told 123 = .ok (.ireturn, 1) := by decide +kernel
theorem dX9_told_124 : decode cX9_told 124 = .ok (.aload_n 0, 1) := by decide +kernel
theorem dX9_told_125 : decode cX9_told 125 = .ok (.getfield 19, 3) := by decide +kernel
theorem dX9_told_128 : decode cX9_told 128 = .ok (.iconst 2, 1) := by decide +kernel
theorem dX9_told_129 : decode cX9_told 129 = .ok (.aload_n 0, 1) := by decide +kernel
theorem dX9_told_130 : decode cX9_told 130 = .ok (.getfield 68, 3) := by decide +kernel
theorem dX9_told_133 : decode cX9_told 133 = .ok (.getfield 105, 3) := by decide +kernel
theorem dX9_told_136 : decode cX9_told 136 = .ok (.invokevirtual 120, 3) := by decide +kernel
theorem dX9_told_139 : decode cX9_told 139 = .ok (.ireturn, 1) := by decide +kernel
theorem dX9_told_140 : decode cX9_told 140 = .ok (.aload_n 0, 1) := by decide +kernel
theorem dX9_told_141 : decode cX9_told 141 = .ok (.getfield 19, 3) := by decide +kernel
theorem dX9_told_144 : decode cX9_told 144 = .ok (.iconst 3, 1) := by decide +kernel
theorem dX9_told_145 : decode cX9_told 145 = .ok (.aload_n 0, 1) := by decide +kernel
theorem dX9_told_146 : decode cX9_told 146 = .ok (.getfield 68, 3) := by decide +kernel
theorem dX9_told_149 : decode cX9_told 149 = .ok (.getfield 105, 3) := by decide +kernel
theorem dX9_told_152 : decode cX9_told 152 = .ok (.invokevirtual 120, 3) := by decide +kernel
theorem dX9_told_155 : decode cX9_told 155 = .ok (.ireturn, 1) := by decide +kernel
theorem dX9_told_156 : decode cX9_told 156 = .ok (.aload_n 0, 1) := by decide +kernel
theorem dX9_told_157 : decode cX9_told 157 = .ok (.getfield 19, 3) := by decide +kernel
theorem dX9_told_160 : decode cX9_told 160 = .ok (.iconst 4, 1) := by decide +kernel
theorem dX9_told_161 : decode cX9_told 161 = .ok (.aload_n 0, 1) := by decide +kernel
theorem dX9_told_162 : decode cX9_told 162 = .ok (.getfield 68, 3) := by decide +kernel
theorem dX9_told_165 : decode cX9_told 165 = .ok (.getfield 105, 3) := by decide +kernel
theorem dX9_told_168 : decode cX9_told 168 = .ok (.invokevirtual 120, 3) := by decide +kernel
theorem dX9_told_171 : decode cX9_told 171 = .ok (.ireturn, 1) := by decide +kernel
theorem dX9_told_172 : decode cX9_told 172 = .ok (.aload_n 0, 1) := by decide +kernel
theorem dX9_told_173 : decode cX9_told 173 = .ok (.invokevirtual 124, 3) := by decide +kernel
theorem dX9_told_176 : decode cX9_told 176 = .ok (.ireturn, 1) := by decide +kernel
theorem dX9_told_177 : decode cX9_told 177 = .ok (.aload_n 0, 1) := by decide +kernel
theorem dX9_told_178 : decode cX9_told 178 = .ok (.getfield 47, 3) := by decide +kernel
theorem dX9_told_181 : decode cX9_told 181 = .ok (.getfield 128, 3) := by decide +kernel
theorem dX9_told_184 : decode cX9_told 184 = .ok (.ireturn, 1) := by decide +kernel
theorem dX9_told_185 : decode cX9_told 185 = .ok (.aload_n 0, 1) := by decide +kernel
theorem dX9_told_186 : decode cX9_told 186 = .ok (.getfield 54, 3) := by decide +kernel
theorem dX9_told_189 : decode cX9_told 189 = .ok (.getfield 131, 3) := by decide +kernel
theorem dX9_told_192 : decode cX9_told 192 = .ok (.ireturn, 1) := by decide +kernel
theorem dX9_told_193 : decode cX9_told 193 = .ok (.aload_n 0, 1) := by decide +kernel
theorem dX9_told_194 : decode cX9_told 194 = .ok (.getfield 26, 3) := by decide +kernel
theorem dX9_told_197 : decode cX9_told 197 = .ok (.getfield 134, 3) := by decide +kernel
theorem dX9_told_200 : decode cX9_told 200 = .ok (.ireturn, 1) := by decide +kernel
theorem dX9_told_201 : decode cX9_told 201 = .ok (.ldc 79, 2) := by decide +kernel
theorem dX9_told_203 : decode cX9_told 203 = .ok (.ireturn, 1) := by decide +kernel
set_option maxRecDepth 20000 in
theorem ggX9_depth_X9_isNoCell : GoodIn wsX9_depth wsX9_isNoCell := goodIn_r _ [7, 8, 9, 6, 10] (by decide +kernel) (by decide +kernel)
set_option maxRecDepth 20000 in
theorem gX9_depth_X9_isNoCell : GoodIn wsX9_depth (va_wsS RX9 137 yX9_isNoCell wsX9_isNoCell) := goodIn_app (goodIn_of _ (by decide +kernel)) ggX9_depth_X9_isNoCell
set_option maxRecDepth 20000 in
theorem ggX9_depth_X9_isOutside : GoodIn wsX9_depth wsX9_isOutside := goodIn_r _ [10] (by decide +kernel) (by decide +kernel)
set_option maxRecDepth 20000 in
theorem gX9_depth_X9_isOutside : GoodIn wsX9_depth (va_wsS RX9 75 yX9_isOutside wsX9_isOutside) := goodIn_app (goodIn_of _ (by decide +kernel)) ggX9_depth_X9_isOutside
set_option maxRecDepth 20000 in
theorem ggX9_depth_X0_stands : GoodIn wsX9_depth wsX0_stands := goodIn_r _ [15, 16, 42, 43, 44, 45, 46, 47, 48, 49, 50] (by decide +kernel) (by decide +kernel)
set_option maxRecDepth 20000 in
theorem gX9_depth_X0_stands : GoodIn wsX9_depth (wsV RX9 141 RX0 yX0_stands wsX0_stands) := goodIn_app (goodIn_of _ (by decide +kernel)) ggX9_depth_X0_stands
set_option maxRecDepth 20000 in
theorem ggX9_depth_X9_depthBehind : GoodIn wsX9_depth wsX9_depthBehind := goodIn_r _ [20, 2, 21, 22, 23, 24, 25, 14, 26, 16, 27, 28, 29, 30, 31, 32, 33, 34, 35, 36, 37, 38, 39, 40, 41, 51, 52, 53, 54, 55, 56, 42, 43, 44, 45, 46, 47, 48, 49, 50] (by decide +kernel) (by decide +kernel)
set_option maxRecDepth 20000 in
theorem gX9_depth_X9_depthBehind : GoodIn wsX9_depth (wsV RX9 146 RX9 yX9_depthBehind wsX9_depthBehind) := goodIn_app (goodIn_of _ (by decide +kernel)) ggX9_depth_X9_depthBehind
theorem dX9_depth_0 : decode cX9_depth 0 = .ok (.iload_n 1, 1) := by decide +kernel
theorem dX9_depth_1 : decode cX9_depth 1 = .ok (.invokestatic 137, 3) := by decide +kernel
theorem dX9_depth_4 : decode cX9_depth 4 = .ok (.ifCond .ne 13, 3) := by decide +kernel
theorem dX9_depth_7 : decode cX9_depth 7 = .ok (.iload_n 2, 1) := by decide +kernel
theorem dX9_depth_8 : decode cX9_depth 8 = .ok (.iconst 0, 1) := by decide +kernel
theorem dX9_depth_9 : decode cX9_depth 9 = .ok (.bipush 99, 2) := by decide +kernel
theorem dX9_depth_11 : decode cX9_depth 11 = .ok (.invokestatic 75, 3) := by decide +kernel
theorem dX9_depth_14 : decode cX9_depth 14 = .ok (.ifCond .eq 6, 3) := by decide +kernel
theorem dX9_depth_17 : decode cX9_depth 17 = .ok (.ldc 79, 2) := by decide +kernel
theorem dX9_depth_19 : decode cX9_depth 19 = .ok (.ireturn, 1) := by decide +kernel
theorem dX9_depth_20 : decode cX9_depth 20 = .ok (.aload_n 0, 1) := by decide +kernel
theorem dX9_depth_21 : decode cX9_depth 21 = .ok (.getfield 68, 3) := by decide +kernel
theorem dX9_depth_24 : decode cX9_depth 24 = .ok (.invokevirtual 141, 3) := by decide +kernel
theorem dX9_depth_27 : decode cX9_depth 27 = .ok (.ifCond .ne 6, 3) := by decide +kernel
theorem dX9_depth_30 : decode cX9_depth 30 = .ok (.ldc 145, 2) := by decide +kernel
theorem dX9_depth_32 : decode cX9_depth 32 = .ok (.ireturn, 1) := by decide +kernel
theorem dX9_depth_33 : decode cX9_depth 33 = .ok (.aload_n 0, 1) := by decide +kernel
theorem dX9_depth_34 : decode cX9_depth 34 = .ok (.iload_n 1, 1) := by decide +kernel
theorem dX9_depth_35 : decode cX9_depth 35 = .ok (.iload_n 2, 1) := by decide +kernel
theorem dX9_depth_36 : decode cX9_depth 36 = .ok (.invokevirtual 146, 3) := by decide +kernel
theorem dX9_depth_39 : decode cX9_depth 39 = .ok (.ireturn, 1) := by decide +kernel
set_option maxRecDepth 20000 in
theorem ggX9_hut_X0_hasHut : GoodIn wsX9_hut wsX0_hasHut := goodIn_r _ [13, 14, 25, 26, 27, 28, 29, 30, 31, 32, 33] (by decide +kernel) (by decide +kernel)
set_option maxRecDepth 20000 in
theorem gX9_hut_X0_hasHut : GoodIn wsX9_hut (wsV RX9 149 RX0 yX0_hasHut wsX0_hasHut) := goodIn_app (goodIn_of _ (by decide +kernel)) ggX9_hut_X0_hasHut
theorem dX9_hut_0 : decode cX9_hut 0 = .ok (.aload_n 0, 1) := by decide +kernel
theorem dX9_hut_1 : decode cX9_hut 1 = .ok (.getfield 68, 3) := by decide +kernel
theorem dX9_hut_4 : decode cX9_hut 4 = .ok (.iload_n 1, 1) := by decide +kernel
theorem dX9_hut_5 : decode cX9_hut 5 = .ok (.invokevirtual 149, 3) := by decide +kernel
theorem dX9_hut_8 : decode cX9_hut 8 = .ok (.ifCond .ne 6, 3) := by decide +kernel
theorem dX9_hut_11 : decode cX9_hut 11 = .ok (.ldc 152, 2) := by decide +kernel
theorem dX9_hut_13 : decode cX9_hut 13 = .ok (.ireturn, 1) := by decide +kernel
theorem dX9_hut_14 : decode cX9_hut 14 = .ok (.iload_n 2, 1) := by decide +kernel
theorem dX9_hut_15 : decode cX9_hut 15 = .ok (.tableswitch 69 0 3 #[29, 39, 49, 59], 29) := by decide +kernel
theorem dX9_hut_44 : decode cX9_hut 44 = .ok (.aload_n 0, 1) := by decide +kernel
theorem dX9_hut_45 : decode cX9_hut 45 = .ok (.getfield 68, 3) := by decide +kernel
theorem dX9_hut_48 : decode cX9_hut 48 = .ok (.getfield 153, 3) := by decide +kernel
theorem dX9_hut_51 : decode cX9_hut 51 = .ok (.iload_n 1, 1) := by decide +kernel
theorem dX9_hut_52 : decode cX9_hut 52 = .ok (.iaload, 1) := by decide +kernel
theorem dX9_hut_53 : decode cX9_hut 53 = .ok (.ireturn, 1) := by decide +kernel
theorem dX9_hut_54 : decode cX9_hut 54 = .ok (.aload_n 0, 1) := by decide +kernel
theorem dX9_hut_55 : decode cX9_hut 55 = .ok (.getfield 19, 3) := by decide +kernel
theorem dX9_hut_58 : decode cX9_hut 58 = .ok (.getfield 157, 3) := by decide +kernel
theorem dX9_hut_61 : decode cX9_hut 61 = .ok (.iload_n 1, 1) := by decide +kernel
theorem dX9_hut_62 : decode cX9_hut 62 = .ok (.iaload, 1) := by decide +kernel
theorem dX9_hut_63 : decode cX9_hut 63 = .ok (.ireturn, 1) := by decide +kernel
theorem dX9_hut_64 : decode cX9_hut 64 = .ok (.aload_n 0, 1) := by decide +kernel
theorem dX9_hut_65 : decode cX9_hut 65 = .ok (.getfield 19, 3) := by decide +kernel
theorem dX9_hut_68 : decode cX9_hut 68 = .ok (.getfield 160, 3) := by decide +kernel
theorem dX9_hut_71 : decode cX9_hut 71 = .ok (.iload_n 1, 1) := by decide +kernel
theorem dX9_hut_72 : decode cX9_hut 72 = .ok (.iaload, 1) := by decide +kernel
theorem dX9_hut_73 : decode cX9_hut 73 = .ok (.ireturn, 1) := by decide +kernel
theorem dX9_hut_74 : decode cX9_hut 74 = .ok (.aload_n 0, 1) := by decide +kernel
theorem dX9_hut_75 : decode cX9_hut 75 = .ok (.getfield 19, 3) := by decide +kernel
theorem dX9_hut_78 : decode cX9_hut 78 = .ok (.getfield 163, 3) := by decide +kernel
theorem dX9_hut_81 : decode cX9_hut 81 = .ok (.iload_n 1, 1) := by decide +kernel
theorem dX9_hut_82 : decode cX9_hut 82 = .ok (.iaload, 1) := by decide +kernel
theorem dX9_hut_83 : decode cX9_hut 83 = .ok (.ireturn, 1) := by decide +kernel
theorem dX9_hut_84 : decode cX9_hut 84 = .ok (.ldc 79, 2) := by decide +kernel
theorem dX9_hut_86 : decode cX9_hut 86 = .ok (.ireturn, 1) := by decide +kernel
set_option maxRecDepth 20000 in
theorem ggX9_legal_X0_hasCase : GoodIn wsX9_legal wsX0_hasCase := goodIn_r _ [15, 16, 27, 28, 29, 30, 31, 32, 33, 34, 35] (by decide +kernel) (by decide +kernel)
set_option maxRecDepth 20000 in
theorem gX9_legal_X0_hasCase : GoodIn wsX9_legal (wsV RX9 166 RX0 yX0_hasCase wsX0_hasCase) := goodIn_app (goodIn_of _ (by decide +kernel)) ggX9_legal_X0_hasCase
theorem dX9_legal_0 : decode cX9_legal 0 = .ok (.aload_n 0, 1) := by decide +kernel
theorem dX9_legal_1 : decode cX9_legal 1 = .ok (.getfield 68, 3) := by decide +kernel
theorem dX9_legal_4 : decode cX9_legal 4 = .ok (.iload_n 1, 1) := by decide +kernel
theorem dX9_legal_5 : decode cX9_legal 5 = .ok (.invokevirtual 166, 3) := by decide +kernel
theorem dX9_legal_8 : decode cX9_legal 8 = .ok (.ifCond .ne 6, 3) := by decide +kernel
theorem dX9_legal_11 : decode cX9_legal 11 = .ok (.ldc 152, 2) := by decide +kernel
theorem dX9_legal_13 : decode cX9_legal 13 = .ok (.ireturn, 1) := by decide +kernel
theorem dX9_legal_14 : decode cX9_legal 14 = .ok (.iload_n 2, 1) := by decide +kernel
theorem dX9_legal_15 : decode cX9_legal 15 = .ok (.tableswitch 97 0 5 #[37, 47, 57, 67, 77, 87], 37) := by decide +kernel
theorem dX9_legal_52 : decode cX9_legal 52 = .ok (.aload_n 0, 1) := by decide +kernel
theorem dX9_legal_53 : decode cX9_legal 53 = .ok (.getfield 68, 3) := by decide +kernel
theorem dX9_legal_56 : decode cX9_legal 56 = .ok (.getfield 169, 3) := by decide +kernel
theorem dX9_legal_59 : decode cX9_legal 59 = .ok (.iload_n 1, 1) := by decide +kernel
theorem dX9_legal_60 : decode cX9_legal 60 = .ok (.iaload, 1) := by decide +kernel
theorem dX9_legal_61 : decode cX9_legal 61 = .ok (.ireturn, 1) := by decide +kernel
theorem dX9_legal_62 : decode cX9_legal 62 = .ok (.aload_n 0, 1) := by decide +kernel
theorem dX9_legal_63 : decode cX9_legal 63 = .ok (.getfield 68, 3) := by decide +kernel
theorem dX9_legal_66 : decode cX9_legal 66 = .ok (.getfield 172, 3) := by decide +kernel
theorem dX9_legal_69 : decode cX9_legal 69 = .ok (.iload_n 1, 1) := by decide +kernel
theorem dX9_legal_70 : decode cX9_legal 70 = .ok (.iaload, 1) := by decide +kernel
theorem dX9_legal_71 : decode cX9_legal 71 = .ok (.ireturn, 1) := by decide +kernel
theorem dX9_legal_72 : decode cX9_legal 72 = .ok (.aload_n 0, 1) := by decide +kernel
theorem dX9_legal_73 : decode cX9_legal 73 = .ok (.getfield 68, 3) := by decide +kernel
theorem dX9_legal_76 : decode cX9_legal 76 = .ok (.getfield 175, 3) := by decide +kernel
theorem dX9_legal_79 : decode cX9_legal 79 = .ok (.iload_n 1, 1) := by decide +kernel
theorem dX9_legal_80 : decode cX9_legal 80 = .ok (.iaload, 1) := by decide +kernel
theorem dX9_legal_81 : decode cX9_legal 81 = .ok (.ireturn, 1) := by decide +kernel
theorem dX9_legal_82 : decode cX9_legal 82 = .ok (.aload_n 0, 1) := by decide +kernel
theorem dX9_legal_83 : decode cX9_legal 83 = .ok (.getfield 68, 3) := by decide +kernel
theorem dX9_legal_86 : decode cX9_legal 86 = .ok (.getfield 178, 3) := by decide +kernel
theorem dX9_legal_89 : decode cX9_legal 89 = .ok (.iload_n 1, 1) := by decide +kernel
theorem dX9_legal_90 : decode cX9_legal 90 = .ok (.iaload, 1) := by decide +kernel
theorem dX9_legal_91 : decode cX9_legal 91 = .ok (.ireturn, 1) := by decide +kernel
theorem dX9_legal_92 : decode cX9_legal 92 = .ok (.aload_n 0, 1) := by decide +kernel
theorem dX9_legal_93 : decode cX9_legal 93 = .ok (.getfield 19, 3) := by decide +kernel
theorem dX9_legal_96 : decode cX9_legal 96 = .ok (.getfield 181, 3) := by decide +kernel
theorem dX9_legal_99 : decode cX9_legal 99 = .ok (.iload_n 1, 1) := by decide +kernel
theorem dX9_legal_100 : decode cX9_legal 100 = .ok (.iaload, 1) := by decide +kernel
theorem dX9_legal_101 : decode cX9_legal 101 = .ok (.ireturn, 1) := by decide +kernel
theorem dX9_legal_102 : decode cX9_legal 102 = .ok (.aload_n 0, 1) := by decide +kernel
theorem dX9_legal_103 : decode cX9_legal 103 = .ok (.getfield 19, 3) := by decide +kernel
theorem dX9_legal_106 : decode cX9_legal 106 = .ok (.getfield 184, 3) := by decide +kernel
theorem dX9_legal_109 : decode cX9_legal 109 = .ok (.iload_n 1, 1) := by decide +kernel
theorem dX9_legal_110 : decode cX9_legal 110 = .ok (.iaload, 1) := by decide +kernel
theorem dX9_legal_111 : decode cX9_legal 111 = .ok (.ireturn, 1) := by decide +kernel
theorem dX9_legal_112 : decode cX9_legal 112 = .ok (.ldc 79, 2) := by decide +kernel
theorem dX9_legal_114 : decode cX9_legal 114 = .ok (.ireturn, 1) := by decide +kernel
set_option maxRecDepth 20000 in
theorem ggX9_hour_X9_refusalOfHours : GoodIn wsX9_hour wsX9_refusalOfHours := goodIn_r _ [9, 10, 3, 11, 2, 4, 12, 13, 14, 8, 15, 16, 17, 18, 19, 20, 21, 86, 87, 88, 89, 90, 91, 92, 93, 94, 95, 96, 97, 98, 99, 100, 101, 102, 103, 104, 105, 106, 107, 108, 109, 110] (by decide +kernel) (by decide +kernel)
set_option maxRecDepth 20000 in
theorem gX9_hour_X9_refusalOfHours : GoodIn wsX9_hour (wsV RX9 187 RX9 yX9_refusalOfHours wsX9_refusalOfHours) := goodIn_app (goodIn_of _ (by decide +kernel)) ggX9_hour_X9_refusalOfHours
set_option maxRecDepth 20000 in
theorem ggX9_hour_X6_push : GoodIn wsX9_hour wsX6_push := goodIn_r _ [26, 27, 28, 29, 30, 31, 32, 33, 34, 35, 36, 37, 38, 39, 40, 41, 42, 43, 44, 45, 46, 47, 48, 111, 112, 113, 96, 97, 98, 99, 100, 101] (by decide +kernel) (by decide +kernel)
set_option maxRecDepth 20000 in
theorem gX9_hour_X6_push : GoodIn wsX9_hour (wsV RX9 190 RX6 yX6_push wsX6_push) := goodIn_app (goodIn_of _ (by decide +kernel)) ggX9_hour_X6_push
set_option maxRecDepth 20000 in
theorem ggX9_hour_X2_passHour : GoodIn wsX9_hour wsX2_passHour := goodIn_r _ [52, 53, 44, 39, 48, 45, 54, 55, 56, 19, 57, 58, 59, 60, 61, 62, 21, 63, 64, 65, 32, 66, 67, 68, 69, 37, 70, 47, 71, 72, 73, 74, 75, 76, 77, 78, 79, 80, 81, 46, 82, 83, 84, 85, 102, 103, 104, 105, 106, 107, 108, 109, 110, 96, 97, 98, 99, 100, 101] (by decide +kernel) (by decide +kernel)
set_option maxRecDepth 20000 in
theorem gX9_hour_X2_passHour : GoodIn wsX9_hour (wsV RX9 194 RX2 yX2_passHour wsX2_passHour) := goodIn_app (goodIn_of _ (by decide +kernel)) ggX9_hour_X2_passHour
theorem dX9_hour_0 : decode cX9_hour 0 = .ok (.aload_n 0, 1) := by decide +kernel
theorem dX9_hour_1 : decode cX9_hour 1 = .ok (.iload_n 1, 1) := by decide +kernel
theorem dX9_hour_2 : decode cX9_hour 2 = .ok (.invokevirtual 187, 3) := by decide +kernel
theorem dX9_hour_5 : decode cX9_hour 5 = .ok (.istore_n 2, 1) := by decide +kernel
theorem dX9_hour_6 : decode cX9_hour 6 = .ok (.iload_n 2, 1) := by decide +kernel
theorem dX9_hour_7 : decode cX9_hour 7 = .ok (.ifCond .eq 5, 3) := by decide +kernel
theorem dX9_hour_10 : decode cX9_hour 10 = .ok (.iload_n 2, 1) := by decide +kernel
theorem dX9_hour_11 : decode cX9_hour 11 = .ok (.ireturn, 1) := by decide +kernel
theorem dX9_hour_12 : decode cX9_hour 12 = .ok (.aload_n 0, 1) := by decide +kernel
theorem dX9_hour_13 : decode cX9_hour 13 = .ok (.getfield 26, 3) := by decide +kernel
theorem dX9_hour_16 : decode cX9_hour 16 = .ok (.aload_n 0, 1) := by decide +kernel
theorem dX9_hour_17 : decode cX9_hour 17 = .ok (.getfield 19, 3) := by decide +kernel
theorem dX9_hour_20 : decode cX9_hour 20 = .ok (.invokevirtual 190, 3) := by decide +kernel
theorem dX9_hour_23 : decode cX9_hour 23 = .ok (.iconst 0, 1) := by decide +kernel
theorem dX9_hour_24 : decode cX9_hour 24 = .ok (.istore_n 3, 1) := by decide +kernel
theorem dX9_hour_25 : decode cX9_hour 25 = .ok (.iload_n 3, 1) := by decide +kernel
theorem dX9_hour_26 : decode cX9_hour 26 = .ok (.iload_n 1, 1) := by decide +kernel
theorem dX9_hour_27 : decode cX9_hour 27 = .ok (.if_icmp .ge 20, 3) := by decide +kernel
theorem dX9_hour_30 : decode cX9_hour 30 = .ok (.aload_n 0, 1) := by decide +kernel
theorem dX9_hour_31 : decode cX9_hour 31 = .ok (.getfield 19, 3) := by decide +kernel
theorem dX9_hour_34 : decode cX9_hour 34 = .ok (.aload_n 0, 1) := by decide +kernel
theorem dX9_hour_35 : decode cX9_hour 35 = .ok (.getfield 68, 3) := by decide +kernel
theorem dX9_hour_38 : decode cX9_hour 38 = .ok (.invokevirtual 194, 3) := by decide +kernel
theorem dX9_hour_41 : decode cX9_hour 41 = .ok (.iinc 3 1, 3) := by decide +kernel
theorem dX9_hour_44 : decode cX9_hour 44 = .ok (.goto (-19), 3) := by decide +kernel
theorem dX9_hour_47 : decode cX9_hour 47 = .ok (.aload_n 0, 1) := by decide +kernel
theorem dX9_hour_48 : decode cX9_hour 48 = .ok (.getfield 19, 3) := by decide +kernel
theorem dX9_hour_51 : decode cX9_hour 51 = .ok (.getfield 117, 3) := by decide +kernel
theorem dX9_hour_54 : decode cX9_hour 54 = .ok (.ireturn, 1) := by decide +kernel
set_option maxRecDepth 20000 in
theorem ggX9_bring_X0_hasCase : GoodIn wsX9_bring wsX0_hasCase := goodIn_r _ [11, 12, 67, 68, 69, 70, 71, 72, 73, 74, 75] (by decide +kernel) (by decide +kernel)
set_option maxRecDepth 20000 in
theorem gX9_bring_X0_hasCase : GoodIn wsX9_bring (wsV RX9 166 RX0 yX0_hasCase wsX0_hasCase) := goodIn_app (goodIn_of _ (by decide +kernel)) ggX9_bring_X0_hasCase
set_option maxRecDepth 20000 in
theorem ggX9_bring_X0_hasHut : GoodIn wsX9_bring wsX0_hasHut := goodIn_r _ [16, 17, 67, 68, 69, 70, 71, 72, 73, 74, 75] (by decide +kernel) (by decide +kernel)
set_option maxRecDepth 20000 in
theorem gX9_bring_X0_hasHut : GoodIn wsX9_bring (wsV RX9 149 RX0 yX0_hasHut wsX0_hasHut) := goodIn_app (goodIn_of _ (by decide +kernel)) ggX9_bring_X0_hasHut
set_option maxRecDepth 20000 in
theorem ggX9_bring_X2_canEnter : GoodIn wsX9_bring wsX2_canEnter := goodIn_r _ [22, 23, 24, 25, 76, 77, 78, 79, 80, 81] (by decide +kernel) (by decide +kernel)
set_option maxRecDepth 20000 in
theorem gX9_bring_X2_canEnter : GoodIn wsX9_bring (wsV RX9 197 RX2 yX2_canEnter wsX2_canEnter) := goodIn_app (goodIn_of _ (by decide +kernel)) ggX9_bring_X2_canEnter
set_option maxRecDepth 20000 in
theorem ggX9_bring_X6_push : GoodIn wsX9_bring wsX6_push := goodIn_r _ [30, 31, 32, 33, 34, 35, 36, 37, 38, 39, 40, 21, 41, 25, 42, 43, 44, 45, 24, 46, 23, 47, 48, 82, 83, 84, 76, 77, 78, 79, 80, 81] (by decide +kernel) (by decide +kernel)
set_option maxRecDepth 20000 in
theorem gX9_bring_X6_push : GoodIn wsX9_bring (wsV RX9 190 RX6 yX6_push wsX6_push) := goodIn_app (goodIn_of _ (by decide +kernel)) ggX9_bring_X6_push
set_option maxRecDepth 20000 in
theorem ggX9_bring_X2_enter : GoodIn wsX9_bring wsX2_enter := goodIn_r _ [52, 23, 24, 76, 77, 78, 79, 80, 81] (by decide +kernel) (by decide +kernel)
set_option maxRecDepth 20000 in
theorem gX9_bring_X2_enter : GoodIn wsX9_bring (wsV RX9 201 RX2 yX2_enter wsX2_enter) := goodIn_app (goodIn_of _ (by decide +kernel)) ggX9_bring_X2_enter
set_option maxRecDepth 20000 in
theorem ggX9_bring_X2_setOf : GoodIn wsX9_bring wsX2_setOf := goodIn_r _ [56, 23, 76, 77, 78, 79, 80, 81] (by decide +kernel) (by decide +kernel)
set_option maxRecDepth 20000 in
theorem gX9_bring_X2_setOf : GoodIn wsX9_bring (wsV RX9 120 RX2 yX2_setOf wsX2_setOf) := goodIn_app (goodIn_of _ (by decide +kernel)) ggX9_bring_X2_setOf
theorem dX9_bring_0 : decode cX9_bring 0 = .ok (.aload_n 0, 1) := by decide +kernel
theorem dX9_bring_1 : decode cX9_bring 1 = .ok (.getfield 68, 3) := by decide +kernel
theorem dX9_bring_4 : decode cX9_bring 4 = .ok (.iload_n 1, 1) := by decide +kernel
theorem dX9_bring_5 : decode cX9_bring 5 = .ok (.invokevirtual 166, 3) := by decide +kernel
theorem dX9_bring_8 : decode cX9_bring 8 = .ok (.ifCond .eq 14, 3) := by decide +kernel
theorem dX9_bring_11 : decode cX9_bring 11 = .ok (.aload_n 0, 1) := by decide +kernel
theorem dX9_bring_12 : decode cX9_bring 12 = .ok (.getfield 68, 3) := by decide +kernel
theorem dX9_bring_15 : decode cX9_bring 15 = .ok (.iload_n 2, 1) := by decide +kernel
theorem dX9_bring_16 : decode cX9_bring 16 = .ok (.invokevirtual 149, 3) := by decide +kernel
theorem dX9_bring_19 : decode cX9_bring 19 = .ok (.ifCond .ne 6, 3) := by decide +kernel
theorem dX9_bring_22 : decode cX9_bring 22 = .ok (.ldc 152, 2) := by decide +kernel
theorem dX9_bring_24 : decode cX9_bring 24 = .ok (.ireturn, 1) := by decide +kernel
theorem dX9_bring_25 : decode cX9_bring 25 = .ok (.aload_n 0, 1) := by decide +kernel
theorem dX9_bring_26 : decode cX9_bring 26 = .ok (.getfield 19, 3) := by decide +kernel
theorem dX9_bring_29 : decode cX9_bring 29 = .ok (.iload_n 1, 1) := by decide +kernel
theorem dX9_bring_30 : decode cX9_bring 30 = .ok (.iload_n 2, 1) := by decide +kernel
theorem dX9_bring_31 : decode cX9_bring 31 = .ok (.invokevirtual 197, 3) := by decide +kernel
theorem dX9_bring_34 : decode cX9_bring 34 = .ok (.ifCond .ne 6, 3) := by decide +kernel
theorem dX9_bring_37 : decode cX9_bring 37 = .ok (.ldc 145, 2) := by decide +kernel
theorem dX9_bring_39 : decode cX9_bring 39 = .ok (.ireturn, 1) := by decide +kernel
theorem dX9_bring_40 : decode cX9_bring 40 = .ok (.aload_n 0, 1) := by decide +kernel
theorem dX9_bring_41 : decode cX9_bring 41 = .ok (.getfield 26, 3) := by decide +kernel
theorem dX9_bring_44 : decode cX9_bring 44 = .ok (.aload_n 0, 1) := by decide +kernel
theorem dX9_bring_45 : decode cX9_bring 45 = .ok (.getfield 19, 3) := by decide +kernel
theorem dX9_bring_48 : decode cX9_bring 48 = .ok (.invokevirtual 190, 3) := by decide +kernel
theorem dX9_bring_51 : decode cX9_bring 51 = .ok (.aload_n 0, 1) := by decide +kernel
theorem dX9_bring_52 : decode cX9_bring 52 = .ok (.getfield 19, 3) := by decide +kernel
theorem dX9_bring_55 : decode cX9_bring 55 = .ok (.iload_n 1, 1) := by decide +kernel
theorem dX9_bring_56 : decode cX9_bring 56 = .ok (.iload_n 2, 1) := by decide +kernel
theorem dX9_bring_57 : decode cX9_bring 57 = .ok (.invokevirtual 201, 3) := by decide +kernel
theorem dX9_bring_60 : decode cX9_bring 60 = .ok (.aload_n 0, 1) := by decide +kernel
theorem dX9_bring_61 : decode cX9_bring 61 = .ok (.getfield 19, 3) := by decide +kernel
theorem dX9_bring_64 : decode cX9_bring 64 = .ok (.iconst 0, 1) := by decide +kernel
theorem dX9_bring_65 : decode cX9_bring 65 = .ok (.aload_n 0, 1) := by decide +kernel
theorem dX9_bring_66 : decode cX9_bring 66 = .ok (.getfield 68, 3) := by decide +kernel
theorem dX9_bring_69 : decode cX9_bring 69 = .ok (.getfield 105, 3) := by decide +kernel
theorem dX9_bring_72 : decode cX9_bring 72 = .ok (.invokevirtual 120, 3) := by decide +kernel
theorem dX9_bring_75 : decode cX9_bring 75 = .ok (.ireturn, 1) := by decide +kernel
set_option maxRecDepth 20000 in
theorem ggX9_drawTo_X0_hasHut : GoodIn wsX9_drawTo wsX0_hasHut := goodIn_r _ [12, 13, 83, 84, 85, 86, 87, 88, 89, 90, 91] (by decide +kernel) (by decide +kernel)
set_option maxRecDepth 20000 in
theorem gX9_drawTo_X0_hasHut : GoodIn wsX9_drawTo (wsV RX9 149 RX0 yX0_hasHut wsX0_hasHut) := goodIn_app (goodIn_of _ (by decide +kernel)) ggX9_drawTo_X0_hasHut
set_option maxRecDepth 20000 in
theorem ggX9_drawTo_X9_isNoCell : GoodIn wsX9_drawTo wsX9_isNoCell := goodIn_r _ [17, 18, 19, 16, 20] (by decide +kernel) (by decide +kernel)
set_option maxRecDepth 20000 in
theorem gX9_drawTo_X9_isNoCell : GoodIn wsX9_drawTo (va_wsS RX9 137 yX9_isNoCell wsX9_isNoCell) := goodIn_app (goodIn_of _ (by decide +kernel)) ggX9_drawTo_X9_isNoCell
set_option maxRecDepth 20000 in
theorem ggX9_drawTo_X2_canMove : GoodIn wsX9_drawTo wsX2_canMove := goodIn_r _ [25, 26, 27, 28, 29, 30, 31, 92, 93, 94, 95, 96, 97] (by decide +kernel) (by decide +kernel)
set_option maxRecDepth 20000 in
theorem gX9_drawTo_X2_canMove : GoodIn wsX9_drawTo (wsV RX9 205 RX2 yX2_canMove wsX2_canMove) := goodIn_app (goodIn_of _ (by decide +kernel)) ggX9_drawTo_X2_canMove
set_option maxRecDepth 20000 in
theorem ggX9_drawTo_X6_push : GoodIn wsX9_drawTo wsX6_push := goodIn_r _ [36, 37, 38, 39, 40, 41, 30, 42, 43, 44, 45, 24, 46, 27, 47, 48, 49, 50, 51, 26, 52, 53, 54, 98, 99, 100, 92, 93, 94, 95, 96, 97] (by decide +kernel) (by decide +kernel)
set_option maxRecDepth 20000 in
theorem gX9_drawTo_X6_push : GoodIn wsX9_drawTo (wsV RX9 190 RX6 yX6_push wsX6_push) := goodIn_app (goodIn_of _ (by decide +kernel)) ggX9_drawTo_X6_push
set_option maxRecDepth 20000 in
theorem ggX9_drawTo_X2_move : GoodIn wsX9_drawTo wsX2_move := goodIn_r _ [58, 27, 26, 92, 93, 94, 95, 96, 97] (by decide +kernel) (by decide +kernel)
set_option maxRecDepth 20000 in
theorem gX9_drawTo_X2_move : GoodIn wsX9_drawTo (wsV RX9 208 RX2 yX2_move wsX2_move) := goodIn_app (goodIn_of _ (by decide +kernel)) ggX9_drawTo_X2_move
set_option maxRecDepth 20000 in
theorem ggX9_drawTo_X9_depthBehind : GoodIn wsX9_drawTo wsX9_depthBehind := goodIn_r _ [62, 1, 4, 63, 64, 65, 66, 11, 67, 68, 69, 70, 71, 30, 72, 73, 74, 75, 76, 77, 78, 79, 80, 81, 82, 92, 93, 94, 95, 96, 97, 83, 84, 85, 86, 87, 88, 89, 90, 91] (by decide +kernel) (by decide +kernel)
set_option maxRecDepth 20000 in
theorem gX9_drawTo_X9_depthBehind : GoodIn wsX9_drawTo (wsV RX9 146 RX9 yX9_depthBehind wsX9_depthBehind) := goodIn_app (goodIn_of _ (by decide +kernel)) ggX9_drawTo_X9_depthBehind
theorem dX9_drawTo_0 : decode cX9_drawTo 0 = .ok (.aload_n 0, 1) := by decide +kernel
theorem dX9_drawTo_1 : decode cX9_drawTo 1 = .ok (.getfield 68, 3) := by decide +kernel
theorem dX9_drawTo_4 : decode cX9_drawTo 4 = .ok (.iload_n 1, 1) := by decide +kernel
theorem dX9_drawTo_5 : decode cX9_drawTo 5 = .ok (.invokevirtual 149, 3) := by decide +kernel
theorem dX9_drawTo_8 : decode cX9_drawTo 8 = .ok (.ifCond .ne 6, 3) := by decide +kernel
theorem dX9_drawTo_11 : decode cX9_drawTo 11 = .ok (.ldc 152, 2) := by decide +kernel
theorem dX9_drawTo_13 : decode cX9_drawTo 13 = .ok (.ireturn, 1) := by decide +kernel
theorem dX9_drawTo_14 : decode cX9_drawTo 14 = .ok (.iload_n 2, 1) := by decide +kernel
theorem dX9_drawTo_15 : decode cX9_drawTo 15 = .ok (.invokestatic 137, 3) := by decide +kernel
theorem dX9_drawTo_18 : decode cX9_drawTo 18 = .ok (.ifCond .eq 6, 3) := by decide +kernel
theorem dX9_drawTo_21 : decode cX9_drawTo 21 = .ok (.ldc 79, 2) := by decide +kernel
theorem dX9_drawTo_23 : decode cX9_drawTo 23 = .ok (.ireturn, 1) := by decide +kernel
theorem dX9_drawTo_24 : decode cX9_drawTo 24 = .ok (.aload_n 0, 1) := by decide +kernel
theorem dX9_drawTo_25 : decode cX9_drawTo 25 = .ok (.getfield 19, 3) := by decide +kernel
theorem dX9_drawTo_28 : decode cX9_drawTo 28 = .ok (.iload_n 1, 1) := by decide +kernel
theorem dX9_drawTo_29 : decode cX9_drawTo 29 = .ok (.iload_n 2, 1) := by decide +kernel
theorem dX9_drawTo_30 : decode cX9_drawTo 30 = .ok (.aload_n 0, 1) := by decide +kernel
theorem dX9_drawTo_31 : decode cX9_drawTo 31 = .ok (.getfield 68, 3) := by decide +kernel
theorem dX9_drawTo_34 : decode cX9_drawTo 34 = .ok (.getfield 153, 3) := by decide +kernel
theorem dX9_drawTo_37 : decode cX9_drawTo 37 = .ok (.iload_n 1, 1) := by decide +kernel
theorem dX9_drawTo_38 : decode cX9_drawTo 38 = .ok (.iaload, 1) := by decide +kernel
theorem dX9_drawTo_39 : decode cX9_drawTo 39 = .ok (.invokevirtual 205, 3) := by decide +kernel
theorem dX9_drawTo_42 : decode cX9_drawTo 42 = .ok (.ifCond .ne 6, 3) := by decide +kernel
theorem dX9_drawTo_45 : decode cX9_drawTo 45 = .ok (.ldc 145, 2) := by decide +kernel
theorem dX9_drawTo_47 : decode cX9_drawTo 47 = .ok (.ireturn, 1) := by decide +kernel
theorem dX9_drawTo_48 : decode cX9_drawTo 48 = .ok (.aload_n 0, 1) := by decide +kernel
theorem dX9_drawTo_49 : decode cX9_drawTo 49 = .ok (.getfield 26, 3) := by decide +kernel
theorem dX9_drawTo_52 : decode cX9_drawTo 52 = .ok (.aload_n 0, 1) := by decide +kernel
theorem dX9_drawTo_53 : decode cX9_drawTo 53 = .ok (.getfield 19, 3) := by decide +kernel
theorem dX9_drawTo_56 : decode cX9_drawTo 56 = .ok (.invokevirtual 190, 3) := by decide +kernel
theorem dX9_drawTo_59 : decode cX9_drawTo 59 = .ok (.aload_n 0, 1) := by decide +kernel
theorem dX9_drawTo_60 : decode cX9_drawTo 60 = .ok (.getfield 19, 3) := by decide +kernel
theorem dX9_drawTo_63 : decode cX9_drawTo 63 = .ok (.iload_n 1, 1) := by decide +kernel
theorem dX9_drawTo_64 : decode cX9_drawTo 64 = .ok (.iload_n 2, 1) := by decide +kernel
theorem dX9_drawTo_65 : decode cX9_drawTo 65 = .ok (.invokevirtual 208, 3) := by decide +kernel
theorem dX9_drawTo_68 : decode cX9_drawTo 68 = .ok (.aload_n 0, 1) := by decide +kernel
theorem dX9_drawTo_69 : decode cX9_drawTo 69 = .ok (.iload_n 2, 1) := by decide +kernel
theorem dX9_drawTo_70 : decode cX9_drawTo 70 = .ok (.iconst 0, 1) := by decide +kernel
theorem dX9_drawTo_71 : decode cX9_drawTo 71 = .ok (.invokevirtual 146, 3) := by decide +kernel
theorem dX9_drawTo_74 : decode cX9_drawTo 74 = .ok (.ireturn, 1) := by decide +kernel
set_option maxRecDepth 20000 in
theorem ggX9_settle_X0_hasCase : GoodIn wsX9_settle wsX0_hasCase := goodIn_r _ [12, 13, 61, 62, 63, 64, 65, 66, 67, 68, 69] (by decide +kernel) (by decide +kernel)
set_option maxRecDepth 20000 in
theorem gX9_settle_X0_hasCase : GoodIn wsX9_settle (wsV RX9 166 RX0 yX0_hasCase wsX0_hasCase) := goodIn_app (goodIn_of _ (by decide +kernel)) ggX9_settle_X0_hasCase
set_option maxRecDepth 20000 in
theorem ggX9_settle_X6_push : GoodIn wsX9_settle wsX6_push := goodIn_r _ [18, 19, 20, 21, 22, 23, 24, 25, 26, 27, 28, 29, 30, 31, 32, 33, 34, 35, 36, 37, 38, 39, 40, 70, 71, 72, 55, 56, 57, 58, 59, 60] (by decide +kernel) (by decide +kernel)
set_option maxRecDepth 20000 in
theorem gX9_settle_X6_push : GoodIn wsX9_settle (wsV RX9 190 RX6 yX6_push wsX6_push) := goodIn_app (goodIn_of _ (by decide +kernel)) ggX9_settle_X6_push
set_option maxRecDepth 20000 in
theorem ggX9_settle_X2_endCase : GoodIn wsX9_settle wsX2_endCase := goodIn_r _ [44, 38, 36, 55, 56, 57, 58, 59, 60] (by decide +kernel) (by decide +kernel)
set_option maxRecDepth 20000 in
theorem gX9_settle_X2_endCase : GoodIn wsX9_settle (wsV RX9 211 RX2 yX2_endCase wsX2_endCase) := goodIn_app (goodIn_of _ (by decide +kernel)) ggX9_settle_X2_endCase
theorem dX9_settle_0 : decode cX9_settle 0 = .ok (.aload_n 0, 1) := by decide +kernel
theorem dX9_settle_1 : decode cX9_settle 1 = .ok (.getfield 68, 3) := by decide +kernel
theorem dX9_settle_4 : decode cX9_settle 4 = .ok (.iload_n 1, 1) := by decide +kernel
theorem dX9_settle_5 : decode cX9_settle 5 = .ok (.invokevirtual 166, 3) := by decide +kernel
theorem dX9_settle_8 : decode cX9_settle 8 = .ok (.ifCond .ne 6, 3) := by decide +kernel
theorem dX9_settle_11 : decode cX9_settle 11 = .ok (.ldc 152, 2) := by decide +kernel
theorem dX9_settle_13 : decode cX9_settle 13 = .ok (.ireturn, 1) := by decide +kernel
theorem dX9_settle_14 : decode cX9_settle 14 = .ok (.aload_n 0, 1) := by decide +kernel
theorem dX9_settle_15 : decode cX9_settle 15 = .ok (.getfield 19, 3) := by decide +kernel
theorem dX9_settle_18 : decode cX9_settle 18 = .ok (.getfield 181, 3) := by decide +kernel
theorem dX9_settle_21 : decode cX9_settle 21 = .ok (.iload_n 1, 1) := by decide +kernel
theorem dX9_settle_22 : decode cX9_settle 22 = .ok (.iaload, 1) := by decide +kernel
theorem dX9_settle_23 : decode cX9_settle 23 = .ok (.ifCond .eq 19, 3) := by decide +kernel
theorem dX9_settle_26 : decode cX9_settle 26 = .ok (.aload_n 0, 1) := by decide +kernel
theorem dX9_settle_27 : decode cX9_settle 27 = .ok (.getfield 19, 3) := by decide +kernel
theorem dX9_settle_30 : decode cX9_settle 30 = .ok (.getfield 181, 3) := by decide +kernel
theorem dX9_settle_33 : decode cX9_settle 33 = .ok (.iload_n 1, 1) := by decide +kernel
theorem dX9_settle_34 : decode cX9_settle 34 = .ok (.iaload, 1) := by decide +kernel
theorem dX9_settle_35 : decode cX9_settle 35 = .ok (.iconst 1, 1) := by decide +kernel
theorem dX9_settle_36 : decode cX9_settle 36 = .ok (.if_icmp .eq 6, 3) := by decide +kernel
theorem dX9_settle_39 : decode cX9_settle 39 = .ok (.ldc 145, 2) := by decide +kernel
theorem dX9_settle_41 : decode cX9_settle 41 = .ok (.ireturn, 1) := by decide +kernel
theorem dX9_settle_42 : decode cX9_settle 42 = .ok (.aload_n 0, 1) := by decide +kernel
theorem dX9_settle_43 : decode cX9_settle 43 = .ok (.getfield 26, 3) := by decide +kernel
theorem dX9_settle_46 : decode cX9_settle 46 = .ok (.aload_n 0, 1) := by decide +kernel
theorem dX9_settle_47 : decode cX9_settle 47 = .ok (.getfield 19, 3) := by decide +kernel
theorem dX9_settle_50 : decode cX9_settle 50 = .ok (.invokevirtual 190, 3) := by decide +kernel
theorem dX9_settle_53 : decode cX9_settle 53 = .ok (.aload_n 0, 1) := by decide +kernel
theorem dX9_settle_54 : decode cX9_settle 54 = .ok (.getfield 19, 3) := by decide +kernel
theorem dX9_settle_57 : decode cX9_settle 57 = .ok (.iload_n 1, 1) := by decide +kernel
theorem dX9_settle_58 : decode cX9_settle 58 = .ok (.iconst 3, 1) := by decide +kernel
theorem dX9_settle_59 : decode cX9_settle 59 = .ok (.invokevirtual 211, 3) := by decide +kernel
theorem dX9_settle_62 : decode cX9_settle 62 = .ok (.aload_n 0, 1) := by decide +kernel
theorem dX9_settle_63 : decode cX9_settle 63 = .ok (.getfield 68, 3) := by decide +kernel
theorem dX9_settle_66 : decode cX9_settle 66 = .ok (.getfield 178, 3) := by decide +kernel
theorem dX9_settle_69 : decode cX9_settle 69 = .ok (.iload_n 1, 1) := by decide +kernel
theorem dX9_settle_70 : decode cX9_settle 70 = .ok (.iaload, 1) := by decide +kernel
theorem dX9_settle_71 : decode cX9_settle 71 = .ok (.ireturn, 1) := by decide +kernel
set_option maxRecDepth 20000 in
theorem ggX9_drift_X9_refusalOfHours : GoodIn wsX9_drift wsX9_refusalOfHours := goodIn_r _ [9, 10, 3, 11, 2, 12, 13, 14, 15, 8, 16, 17, 18, 19, 20, 21, 22, 133, 134, 135, 136, 137, 138, 139, 140, 141, 142, 152, 153, 154, 155, 156, 157, 143, 144, 145, 146, 147, 148, 149, 150, 151] (by decide +kernel) (by decide +kernel)
set_option maxRecDepth 20000 in
theorem gX9_drift_X9_refusalOfHours : GoodIn wsX9_drift (wsV RX9 187 RX9 yX9_refusalOfHours wsX9_refusalOfHours) := goodIn_app (goodIn_of _ (by decide +kernel)) ggX9_drift_X9_refusalOfHours
set_option maxRecDepth 20000 in
theorem ggX9_drift_X6_push : GoodIn wsX9_drift wsX6_push := goodIn_r _ [27, 28, 29, 30, 31, 32, 33, 34, 35, 36, 37, 38, 39, 40, 41, 42, 43, 44, 45, 46, 47, 48, 49, 158, 159, 160, 152, 153, 154, 155, 156, 157] (by decide +kernel) (by decide +kernel)
set_option maxRecDepth 20000 in
theorem gX9_drift_X6_push : GoodIn wsX9_drift (wsV RX9 190 RX6 yX6_push wsX6_push) := goodIn_app (goodIn_of _ (by decide +kernel)) ggX9_drift_X6_push
set_option maxRecDepth 20000 in
theorem ggX9_drift_X9_actByDraws : GoodIn wsX9_drift wsX9_actByDraws := goodIn_r _ [53, 54, 3, 55, 2, 56, 4, 57, 58, 59, 60, 61, 62, 63, 64, 65, 66, 67, 68, 69, 20, 70, 71, 72, 73, 74, 38, 75, 46, 40, 76, 77, 33, 78, 79, 80, 81, 82, 83, 84, 85, 86, 87, 88, 89, 90, 91, 47, 45, 92, 93, 94, 95, 133, 134, 135, 136, 137, 138, 139, 140, 141, 142, 143, 144, 145, 146, 147, 148, 149, 150, 151, 161, 152, 153, 154, 155, 156, 157] (by decide +kernel) (by decide +kernel)
set_option maxRecDepth 20000 in
theorem gX9_drift_X9_actByDraws : GoodIn wsX9_drift (wsV RX9 214 RX9 yX9_actByDraws wsX9_actByDraws) := goodIn_app (goodIn_of _ (by decide +kernel)) ggX9_drift_X9_actByDraws
set_option maxRecDepth 20000 in
theorem ggX9_drift_X2_passHour : GoodIn wsX9_drift wsX2_passHour := goodIn_r _ [99, 100, 45, 40, 49, 46, 101, 84, 85, 20, 86, 87, 102, 103, 104, 105, 22, 106, 107, 108, 33, 109, 110, 111, 112, 38, 113, 48, 114, 115, 116, 117, 118, 119, 120, 121, 122, 123, 124, 47, 125, 126, 127, 128, 143, 144, 145, 146, 147, 148, 149, 150, 151, 152, 153, 154, 155, 156, 157] (by decide +kernel) (by decide +kernel)
set_option maxRecDepth 20000 in
theorem gX9_drift_X2_passHour : GoodIn wsX9_drift (wsV RX9 194 RX2 yX2_passHour wsX2_passHour) := goodIn_app (goodIn_of _ (by decide +kernel)) ggX9_drift_X2_passHour
set_option maxRecDepth 20000 in
theorem ggX9_drift_X2_setOf : GoodIn wsX9_drift wsX2_setOf := goodIn_r _ [132, 47, 152, 153, 154, 155, 156, 157] (by decide +kernel) (by decide +kernel)
set_option maxRecDepth 20000 in
theorem gX9_drift_X2_setOf : GoodIn wsX9_drift (wsV RX9 120 RX2 yX2_setOf wsX2_setOf) := goodIn_app (goodIn_of _ (by decide +kernel)) ggX9_drift_X2_setOf
theorem dX9_drift_0 : decode cX9_drift 0 = .ok (.aload_n 0, 1) := by decide +kernel
theorem dX9_drift_1 : decode cX9_drift 1 = .ok (.iload_n 1, 1) := by decide +kernel
theorem dX9_drift_2 : decode cX9_drift 2 = .ok (.invokevirtual 187, 3) := by decide +kernel
theorem dX9_drift_5 : decode cX9_drift 5 = .ok (.istore_n 2, 1) := by decide +kernel
theorem dX9_drift_6 : decode cX9_drift 6 = .ok (.iload_n 2, 1) := by decide +kernel
theorem dX9_drift_7 : decode cX9_drift 7 = .ok (.ifCond .eq 5, 3) := by decide +kernel
theorem dX9_drift_10 : decode cX9_drift 10 = .ok (.iload_n 2, 1) := by decide +kernel
theorem dX9_drift_11 : decode cX9_drift 11 = .ok (.ireturn, 1) := by decide +kernel
theorem dX9_drift_12 : decode cX9_drift 12 = .ok (.aload_n 0, 1) := by decide +kernel
theorem dX9_drift_13 : decode cX9_drift 13 = .ok (.getfield 26, 3) := by decide +kernel
theorem dX9_drift_16 : decode cX9_drift 16 = .ok (.aload_n 0, 1) := by decide +kernel
theorem dX9_drift_17 : decode cX9_drift 17 = .ok (.getfield 19, 3) := by decide +kernel
theorem dX9_drift_20 : decode cX9_drift 20 = .ok (.invokevirtual 190, 3) := by decide +kernel
theorem dX9_drift_23 : decode cX9_drift 23 = .ok (.iconst 0, 1) := by decide +kernel
theorem dX9_drift_24 : decode cX9_drift 24 = .ok (.istore_n 3, 1) := by decide +kernel
theorem dX9_drift_25 : decode cX9_drift 25 = .ok (.iload_n 3, 1) := by decide +kernel
theorem dX9_drift_26 : decode cX9_drift 26 = .ok (.iload_n 1, 1) := by decide +kernel
theorem dX9_drift_27 : decode cX9_drift 27 = .ok (.if_icmp .ge 24, 3) := by decide +kernel
theorem dX9_drift_30 : decode cX9_drift 30 = .ok (.aload_n 0, 1) := by decide +kernel
theorem dX9_drift_31 : decode cX9_drift 31 = .ok (.invokevirtual 214, 3) := by decide +kernel
theorem dX9_drift_34 : decode cX9_drift 34 = .ok (.aload_n 0, 1) := by decide +kernel
theorem dX9_drift_35 : decode cX9_drift 35 = .ok (.getfield 19, 3) := by decide +kernel
theorem dX9_drift_38 : decode cX9_drift 38 = .ok (.aload_n 0, 1) := by decide +kernel
theorem dX9_drift_39 : decode cX9_drift 39 = .ok (.getfield 68, 3) := by decide +kernel
theorem dX9_drift_42 : decode cX9_drift 42 = .ok (.invokevirtual 194, 3) := by decide +kernel
theorem dX9_drift_45 : decode cX9_drift 45 = .ok (.iinc 3 1, 3) := by decide +kernel
theorem dX9_drift_48 : decode cX9_drift 48 = .ok (.goto (-23), 3) := by decide +kernel
theorem dX9_drift_51 : decode cX9_drift 51 = .ok (.aload_n 0, 1) := by decide +kernel
theorem dX9_drift_52 : decode cX9_drift 52 = .ok (.getfield 19, 3) := by decide +kernel
theorem dX9_drift_55 : decode cX9_drift 55 = .ok (.iconst 2, 1) := by decide +kernel
theorem dX9_drift_56 : decode cX9_drift 56 = .ok (.aload_n 0, 1) := by decide +kernel
theorem dX9_drift_57 : decode cX9_drift 57 = .ok (.getfield 68, 3) := by decide +kernel
theorem dX9_drift_60 : decode cX9_drift 60 = .ok (.getfield 105, 3) := by decide +kernel
theorem dX9_drift_63 : decode cX9_drift 63 = .ok (.invokevirtual 120, 3) := by decide +kernel
theorem dX9_drift_66 : decode cX9_drift 66 = .ok (.ireturn, 1) := by decide +kernel
set_option maxRecDepth 20000 in
theorem ggX9_undo_X6_pop : GoodIn wsX9_undo wsX6_pop := goodIn_r _ [9, 10, 11, 12, 13, 14, 15, 16, 17, 18, 19, 20, 21, 22, 23, 24, 25, 26, 27, 38, 39, 40, 41, 42, 43, 44, 45, 46] (by decide +kernel) (by decide +kernel)
set_option maxRecDepth 20000 in
theorem gX9_undo_X6_pop : GoodIn wsX9_undo (wsV RX9 217 RX6 yX6_pop wsX6_pop) := goodIn_app (goodIn_of _ (by decide +kernel)) ggX9_undo_X6_pop
theorem dX9_undo_0 : decode cX9_undo 0 = .ok (.aload_n 0, 1) := by decide +kernel
theorem dX9_undo_1 : decode cX9_undo 1 = .ok (.getfield 26, 3) := by decide +kernel
theorem dX9_undo_4 : decode cX9_undo 4 = .ok (.getfield 134, 3) := by decide +kernel
theorem dX9_undo_7 : decode cX9_undo 7 = .ok (.ifCond .ne 6, 3) := by decide +kernel
theorem dX9_undo_10 : decode cX9_undo 10 = .ok (.ldc 145, 2) := by decide +kernel
theorem dX9_undo_12 : decode cX9_undo 12 = .ok (.ireturn, 1) := by decide +kernel
theorem dX9_undo_13 : decode cX9_undo 13 = .ok (.aload_n 0, 1) := by decide +kernel
theorem dX9_undo_14 : decode cX9_undo 14 = .ok (.getfield 26, 3) := by decide +kernel
theorem dX9_undo_17 : decode cX9_undo 17 = .ok (.aload_n 0, 1) := by decide +kernel
theorem dX9_undo_18 : decode cX9_undo 18 = .ok (.getfield 19, 3) := by decide +kernel
theorem dX9_undo_21 : decode cX9_undo 21 = .ok (.invokevirtual 217, 3) := by decide +kernel
theorem dX9_undo_24 : decode cX9_undo 24 = .ok (.aload_n 0, 1) := by decide +kernel
theorem dX9_undo_25 : decode cX9_undo 25 = .ok (.getfield 26, 3) := by decide +kernel
theorem dX9_undo_28 : decode cX9_undo 28 = .ok (.getfield 134, 3) := by decide +kernel
theorem dX9_undo_31 : decode cX9_undo 31 = .ok (.ireturn, 1) := by decide +kernel
set_option maxRecDepth 20000 in
theorem ggX9_open_X0_hasCase : GoodIn wsX9_open wsX0_hasCase := goodIn_r _ [9, 10, 58, 59, 60, 61, 62, 63, 64, 65, 66] (by decide +kernel) (by decide +kernel)
set_option maxRecDepth 20000 in
theorem gX9_open_X0_hasCase : GoodIn wsX9_open (wsV RX9 166 RX0 yX0_hasCase wsX0_hasCase) := goodIn_app (goodIn_of _ (by decide +kernel)) ggX9_open_X0_hasCase
set_option maxRecDepth 20000 in
theorem ggX9_open_X0_hoursOpen : GoodIn wsX9_open wsX0_hoursOpen := goodIn_r _ [14, 15, 16, 17, 8, 18, 19, 20, 21, 22, 23, 24, 25, 26, 27, 28, 29, 30, 31, 32, 33, 34, 35, 36, 37, 38, 39, 40, 41, 58, 59, 60, 61, 62, 63, 64, 65, 66] (by decide +kernel) (by decide +kernel)
set_option maxRecDepth 20000 in
theorem gX9_open_X0_hoursOpen : GoodIn wsX9_open (wsV RX9 220 RX0 yX0_hoursOpen wsX0_hoursOpen) := goodIn_app (goodIn_of _ (by decide +kernel)) ggX9_open_X0_hoursOpen
theorem dX9_open_0 : decode cX9_open 0 = .ok (.aload_n 0, 1) := by decide +kernel
theorem dX9_open_1 : decode cX9_open 1 = .ok (.getfield 68, 3) := by decide +kernel
theorem dX9_open_4 : decode cX9_open 4 = .ok (.iload_n 1, 1) := by decide +kernel
theorem dX9_open_5 : decode cX9_open 5 = .ok (.invokevirtual 166, 3) := by decide +kernel
theorem dX9_open_8 : decode cX9_open 8 = .ok (.ifCond .ne 6, 3) := by decide +kernel
theorem dX9_open_11 : decode cX9_open 11 = .ok (.ldc 152, 2) := by decide +kernel
theorem dX9_open_13 : decode cX9_open 13 = .ok (.ireturn, 1) := by decide +kernel
theorem dX9_open_14 : decode cX9_open 14 = .ok (.aload_n 0, 1) := by decide +kernel
theorem dX9_open_15 : decode cX9_open 15 = .ok (.getfield 68, 3) := by decide +kernel
theorem dX9_open_18 : decode cX9_open 18 = .ok (.iload_n 1, 1) := by decide +kernel
theorem dX9_open_19 : decode cX9_open 19 = .ok (.aload_n 0, 1) := by decide +kernel
theorem dX9_open_20 : decode cX9_open 20 = .ok (.getfield 19, 3) := by decide +kernel
theorem dX9_open_23 : decode cX9_open 23 = .ok (.getfield 117, 3) := by decide +kernel
theorem dX9_open_26 : decode cX9_open 26 = .ok (.invokevirtual 220, 3) := by decide +kernel
theorem dX9_open_29 : decode cX9_open 29 = .ok (.ireturn, 1) := by decide +kernel
set_option maxRecDepth 20000 in
theorem ggX9_plan_X0_hasCase : GoodIn wsX9_plan wsX0_hasCase := goodIn_r _ [10, 11, 120, 121, 122, 123, 124, 125, 126, 127, 128] (by decide +kernel) (by decide +kernel)
set_option maxRecDepth 20000 in
theorem gX9_plan_X0_hasCase : GoodIn wsX9_plan (wsV RX9 166 RX0 yX0_hasCase wsX0_hasCase) := goodIn_app (goodIn_of _ (by decide +kernel)) ggX9_plan_X0_hasCase
set_option maxRecDepth 20000 in
theorem ggX9_plan_X9_isOutside : GoodIn wsX9_plan wsX9_isOutside := goodIn_r _ [15] (by decide +kernel) (by decide +kernel)
set_option maxRecDepth 20000 in
theorem gX9_plan_X9_isOutside : GoodIn wsX9_plan (va_wsS RX9 75 yX9_isOutside wsX9_isOutside) := goodIn_app (goodIn_of _ (by decide +kernel)) ggX9_plan_X9_isOutside
set_option maxRecDepth 20000 in
theorem ggX9_plan_X7_search : GoodIn wsX9_plan wsX7_search := goodIn_r _ [20, 21, 22, 23, 24, 25, 26, 27, 28, 29, 30, 31, 32, 33, 34, 35, 36, 37, 38, 39, 7, 8, 9, 10, 11, 40, 41, 42, 43, 44, 45, 46, 47, 48, 49, 50, 51, 52, 53, 54, 55, 56, 57, 58, 59, 60, 61, 62, 63, 64, 65, 66, 67, 68, 69, 70, 19, 71, 72, 73, 74, 75, 76, 77, 78, 79, 80, 81, 82, 83, 84, 85, 86, 87, 88, 89, 90, 91, 92, 93, 94, 95, 96, 97, 98, 99, 100, 101, 129, 130, 131, 132, 133, 134, 135, 136, 137, 138, 139, 140, 141, 142, 143, 120, 121, 122, 123, 124, 125, 126, 127, 128] (by decide +kernel) (by decide +kernel)
set_option maxRecDepth 20000 in
theorem gX9_plan_X7_search : GoodIn wsX9_plan (wsV RX9 223 RX7 yX7_search wsX7_search) := goodIn_app (goodIn_of _ (by decide +kernel)) ggX9_plan_X7_search
set_option maxRecDepth 20000 in
theorem ggX9_plan_X7_hoursForAll : GoodIn wsX9_plan wsX7_hoursForAll := goodIn_r _ [105, 23, 129, 130, 131, 132, 133, 134, 135, 136, 137] (by decide +kernel) (by decide +kernel)
set_option maxRecDepth 20000 in
theorem gX9_plan_X7_hoursForAll : GoodIn wsX9_plan (wsV RX9 227 RX7 yX7_hoursForAll wsX7_hoursForAll) := goodIn_app (goodIn_of _ (by decide +kernel)) ggX9_plan_X7_hoursForAll
set_option maxRecDepth 20000 in
theorem ggX9_plan_X7_beginOf : GoodIn wsX9_plan wsX7_beginOf := goodIn_r _ [109, 26, 129, 130, 131, 132, 133, 134, 135, 136, 137] (by decide +kernel) (by decide +kernel)
set_option maxRecDepth 20000 in
theorem gX9_plan_X7_beginOf : GoodIn wsX9_plan (wsV RX9 230 RX7 yX7_beginOf wsX7_beginOf) := goodIn_app (goodIn_of _ (by decide +kernel)) ggX9_plan_X7_beginOf
theorem dX9_plan_0 : decode cX9_plan 0 = .ok (.iload_n 2, 1) := by decide +kernel
theorem dX9_plan_1 : decode cX9_plan 1 = .ok (.iconst (-1), 1) := by decide +kernel
theorem dX9_plan_2 : decode cX9_plan 2 = .ok (.if_icmp .eq 17, 3) := by decide +kernel
theorem dX9_plan_5 : decode cX9_plan 5 = .ok (.aload_n 0, 1) := by decide +kernel
theorem dX9_plan_6 : decode cX9_plan 6 = .ok (.getfield 68, 3) := by decide +kernel
theorem dX9_plan_9 : decode cX9_plan 9 = .ok (.iload_n 2, 1) := by decide +kernel
theorem dX9_plan_10 : decode cX9_plan 10 = .ok (.invokevirtual 166, 3) := by decide +kernel
theorem dX9_plan_13 : decode cX9_plan 13 = .ok (.ifCond .ne 6, 3) := by decide +kernel
theorem dX9_plan_16 : decode cX9_plan 16 = .ok (.ldc 152, 2) := by decide +kernel
theorem dX9_plan_18 : decode cX9_plan 18 = .ok (.ireturn, 1) := by decide +kernel
theorem dX9_plan_19 : decode cX9_plan 19 = .ok (.iload_n 1, 1) := by decide +kernel
theorem dX9_plan_20 : decode cX9_plan 20 = .ok (.iconst 1, 1) := by decide +kernel
theorem dX9_plan_21 : decode cX9_plan 21 = .ok (.iconst 4, 1) := by decide +kernel
theorem dX9_plan_22 : decode cX9_plan 22 = .ok (.invokestatic 75, 3) := by decide +kernel
theorem dX9_plan_25 : decode cX9_plan 25 = .ok (.ifCond .eq 6, 3) := by decide +kernel
theorem dX9_plan_28 : decode cX9_plan 28 = .ok (.ldc 79, 2) := by decide +kernel
theorem dX9_plan_30 : decode cX9_plan 30 = .ok (.ireturn, 1) := by decide +kernel
theorem dX9_plan_31 : decode cX9_plan 31 = .ok (.aload_n 0, 1) := by decide +kernel
theorem dX9_plan_32 : decode cX9_plan 32 = .ok (.getfield 40, 3) := by decide +kernel
theorem dX9_plan_35 : decode cX9_plan 35 = .ok (.aload_n 0, 1) := by decide +kernel
theorem dX9_plan_36 : decode cX9_plan 36 = .ok (.getfield 68, 3) := by decide +kernel
theorem dX9_plan_39 : decode cX9_plan 39 = .ok (.aload_n 0, 1) := by decide +kernel
theorem dX9_plan_40 : decode cX9_plan 40 = .ok (.getfield 19, 3) := by decide +kernel
theorem dX9_plan_43 : decode cX9_plan 43 = .ok (.iload_n 1, 1) := by decide +kernel
theorem dX9_plan_44 : decode cX9_plan 44 = .ok (.invokevirtual 223, 3) := by decide +kernel
theorem dX9_plan_47 : decode cX9_plan 47 = .ok (.iload_n 2, 1) := by decide +kernel
theorem dX9_plan_48 : decode cX9_plan 48 = .ok (.iconst (-1), 1) := by decide +kernel
theorem dX9_plan_49 : decode cX9_plan 49 = .ok (.if_icmp .ne 13, 3) := by decide +kernel
theorem dX9_plan_52 : decode cX9_plan 52 = .ok (.aload_n 0, 1) := by decide +kernel
theorem dX9_plan_53 : decode cX9_plan 53 = .ok (.getfield 40, 3) := by decide +kernel
theorem dX9_plan_56 : decode cX9_plan 56 = .ok (.invokevirtual 227, 3) := by decide +kernel
theorem dX9_plan_59 : decode cX9_plan 59 = .ok (.goto 11, 3) := by decide +kernel
theorem dX9_plan_62 : decode cX9_plan 62 = .ok (.aload_n 0, 1) := by decide +kernel
theorem dX9_plan_63 : decode cX9_plan 63 = .ok (.getfield 40, 3) := by decide +kernel
theorem dX9_plan_66 : decode cX9_plan 66 = .ok (.iload_n 2, 1) := by decide +kernel
theorem dX9_plan_67 : decode cX9_plan 67 = .ok (.invokevirtual 230, 3) := by decide +kernel
theorem dX9_plan_70 : decode cX9_plan 70 = .ok (.ireturn, 1) := by decide +kernel
set_option maxRecDepth 20000 in
theorem ggX9_dry_X9_isNoCell : GoodIn wsX9_dry wsX9_isNoCell := goodIn_r _ [7, 8, 9, 6, 10] (by decide +kernel) (by decide +kernel)
set_option maxRecDepth 20000 in
theorem gX9_dry_X9_isNoCell : GoodIn wsX9_dry (va_wsS RX9 137 yX9_isNoCell wsX9_isNoCell) := goodIn_app (goodIn_of _ (by decide +kernel)) ggX9_dry_X9_isNoCell
set_option maxRecDepth 20000 in
theorem ggX9_dry_X0_stands : GoodIn wsX9_dry wsX0_stands := goodIn_r _ [15, 16, 42, 43, 44, 45, 46, 47, 48, 49, 50] (by decide +kernel) (by decide +kernel)
set_option maxRecDepth 20000 in
theorem gX9_dry_X0_stands : GoodIn wsX9_dry (wsV RX9 141 RX0 yX0_stands wsX0_stands) := goodIn_app (goodIn_of _ (by decide +kernel)) ggX9_dry_X0_stands
set_option maxRecDepth 20000 in
theorem ggX9_dry_X9_depthBehind : GoodIn wsX9_dry wsX9_depthBehind := goodIn_r _ [20, 2, 21, 22, 23, 24, 25, 14, 26, 16, 27, 28, 29, 30, 31, 32, 33, 34, 35, 36, 37, 38, 39, 40, 41, 51, 52, 53, 54, 55, 56, 42, 43, 44, 45, 46, 47, 48, 49, 50] (by decide +kernel) (by decide +kernel)
set_option maxRecDepth 20000 in
theorem gX9_dry_X9_depthBehind : GoodIn wsX9_dry (wsV RX9 146 RX9 yX9_depthBehind wsX9_depthBehind) := goodIn_app (goodIn_of _ (by decide +kernel)) ggX9_dry_X9_depthBehind
theorem dX9_dry_0 : decode cX9_dry 0 = .ok (.iload_n 1, 1) := by decide +kernel
theorem dX9_dry_1 : decode cX9_dry 1 = .ok (.invokestatic 137, 3) := by decide +kernel
theorem dX9_dry_4 : decode cX9_dry 4 = .ok (.ifCond .eq 6, 3) := by decide +kernel
theorem dX9_dry_7 : decode cX9_dry 7 = .ok (.ldc 79, 2) := by decide +kernel
theorem dX9_dry_9 : decode cX9_dry 9 = .ok (.ireturn, 1) := by decide +kernel
theorem dX9_dry_10 : decode cX9_dry 10 = .ok (.aload_n 0, 1) := by decide +kernel
theorem dX9_dry_11 : decode cX9_dry 11 = .ok (.getfield 68, 3) := by decide +kernel
theorem dX9_dry_14 : decode cX9_dry 14 = .ok (.invokevirtual 141, 3) := by decide +kernel
theorem dX9_dry_17 : decode cX9_dry 17 = .ok (.ifCond .ne 6, 3) := by decide +kernel
theorem dX9_dry_20 : decode cX9_dry 20 = .ok (.ldc 145, 2) := by decide +kernel
theorem dX9_dry_22 : decode cX9_dry 22 = .ok (.ireturn, 1) := by decide +kernel
theorem dX9_dry_23 : decode cX9_dry 23 = .ok (.iconst 0, 1) := by decide +kernel
theorem dX9_dry_24 : decode cX9_dry 24 = .ok (.istore_n 2, 1) := by decide +kernel
theorem dX9_dry_25 : decode cX9_dry 25 = .ok (.iload_n 2, 1) := by decide +kernel
theorem dX9_dry_26 : decode cX9_dry 26 = .ok (.bipush 100, 2) := by decide +kernel
theorem dX9_dry_28 : decode cX9_dry 28 = .ok (.if_icmp .gt 20, 3) := by decide +kernel
theorem dX9_dry_31 : decode cX9_dry 31 = .ok (.aload_n 0, 1) := by decide +kernel
theorem dX9_dry_32 : decode cX9_dry 32 = .ok (.iload_n 1, 1) := by decide +kernel
theorem dX9_dry_33 : decode cX9_dry 33 = .ok (.iload_n 2, 1) := by decide +kernel
theorem dX9_dry_34 : decode cX9_dry 34 = .ok (.invokevirtual 146, 3) := by decide +kernel
theorem dX9_dry_37 : decode cX9_dry 37 = .ok (.ifCond .ne 5, 3) := by decide +kernel
theorem dX9_dry_40 : decode cX9_dry 40 = .ok (.iload_n 2, 1) := by decide +kernel
theorem dX9_dry_41 : decode cX9_dry 41 = .ok (.ireturn, 1) := by decide +kernel
theorem dX9_dry_42 : decode cX9_dry 42 = .ok (.iinc 2 1, 3) := by decide +kernel
theorem dX9_dry_45 : decode cX9_dry 45 = .ok (.goto (-20), 3) := by decide +kernel
theorem dX9_dry_48 : decode cX9_dry 48 = .ok (.iconst (-1), 1) := by decide +kernel
theorem dX9_dry_49 : decode cX9_dry 49 = .ok (.ireturn, 1) := by decide +kernel
set_option maxRecDepth 20000 in
theorem ggX9_stays_X9_isNoCell : GoodIn wsX9_stays wsX9_isNoCell := goodIn_r _ [7, 8, 9, 6, 10] (by decide +kernel) (by decide +kernel)
set_option maxRecDepth 20000 in
theorem gX9_stays_X9_isNoCell : GoodIn wsX9_stays (va_wsS RX9 137 yX9_isNoCell wsX9_isNoCell) := goodIn_app (goodIn_of _ (by decide +kernel)) ggX9_stays_X9_isNoCell
set_option maxRecDepth 20000 in
theorem ggX9_stays_X9_isNoDepth : GoodIn wsX9_stays wsX9_isNoDepth := goodIn_r _ [13, 8, 9, 6, 10] (by decide +kernel) (by decide +kernel)
set_option maxRecDepth 20000 in
theorem gX9_stays_X9_isNoDepth : GoodIn wsX9_stays (va_wsS RX9 233 yX9_isNoDepth wsX9_isNoDepth) := goodIn_app (goodIn_of _ (by decide +kernel)) ggX9_stays_X9_isNoDepth
set_option maxRecDepth 20000 in
theorem ggX9_stays_X0_stands : GoodIn wsX9_stays wsX0_stands := goodIn_r _ [18, 19, 45, 46, 47, 48, 49, 50, 51, 52, 53] (by decide +kernel) (by decide +kernel)
set_option maxRecDepth 20000 in
theorem gX9_stays_X0_stands : GoodIn wsX9_stays (wsV RX9 141 RX0 yX0_stands wsX0_stands) := goodIn_app (goodIn_of _ (by decide +kernel)) ggX9_stays_X0_stands
set_option maxRecDepth 20000 in
theorem ggX9_stays_X9_depthBehind : GoodIn wsX9_stays wsX9_depthBehind := goodIn_r _ [23, 2, 24, 25, 26, 27, 28, 17, 29, 19, 30, 31, 32, 33, 34, 35, 36, 37, 38, 39, 40, 41, 42, 43, 44, 54, 55, 56, 57, 58, 59, 45, 46, 47, 48, 49, 50, 51, 52, 53] (by decide +kernel) (by decide +kernel)
set_option maxRecDepth 20000 in
theorem gX9_stays_X9_depthBehind : GoodIn wsX9_stays (wsV RX9 146 RX9 yX9_depthBehind wsX9_depthBehind) := goodIn_app (goodIn_of _ (by decide +kernel)) ggX9_stays_X9_depthBehind
theorem dX9_stays_0 : decode cX9_stays 0 = .ok (.iload_n 1, 1) := by decide +kernel
theorem dX9_stays_1 : decode cX9_stays 1 = .ok (.invokestatic 137, 3) := by decide +kernel
theorem dX9_stays_4 : decode cX9_stays 4 = .ok (.ifCond .ne 10, 3) := by decide +kernel
theorem dX9_stays_7 : decode cX9_stays 7 = .ok (.iload_n 2, 1) := by decide +kernel
theorem dX9_stays_8 : decode cX9_stays 8 = .ok (.invokestatic 233, 3) := by decide +kernel
theorem dX9_stays_11 : decode cX9_stays 11 = .ok (.ifCond .eq 6, 3) := by decide +kernel
theorem dX9_stays_14 : decode cX9_stays 14 = .ok (.ldc 79, 2) := by decide +kernel
theorem dX9_stays_16 : decode cX9_stays 16 = .ok (.ireturn, 1) := by decide +kernel
theorem dX9_stays_17 : decode cX9_stays 17 = .ok (.aload_n 0, 1) := by decide +kernel
theorem dX9_stays_18 : decode cX9_stays 18 = .ok (.getfield 68, 3) := by decide +kernel
theorem dX9_stays_21 : decode cX9_stays 21 = .ok (.invokevirtual 141, 3) := by decide +kernel
theorem dX9_stays_24 : decode cX9_stays 24 = .ok (.ifCond .ne 6, 3) := by decide +kernel
theorem dX9_stays_27 : decode cX9_stays 27 = .ok (.ldc 145, 2) := by decide +kernel
theorem dX9_stays_29 : decode cX9_stays 29 = .ok (.ireturn, 1) := by decide +kernel
theorem dX9_stays_30 : decode cX9_stays 30 = .ok (.iconst 0, 1) := by decide +kernel
theorem dX9_stays_31 : decode cX9_stays 31 = .ok (.istore_n 3, 1) := by decide +kernel
theorem dX9_stays_32 : decode cX9_stays 32 = .ok (.iload_n 3, 1) := by decide +kernel
theorem dX9_stays_33 : decode cX9_stays 33 = .ok (.bipush 100, 2) := by decide +kernel
theorem dX9_stays_35 : decode cX9_stays 35 = .ok (.if_icmp .ge 21, 3) := by decide +kernel
theorem dX9_stays_38 : decode cX9_stays 38 = .ok (.aload_n 0, 1) := by decide +kernel
theorem dX9_stays_39 : decode cX9_stays 39 = .ok (.iload_n 1, 1) := by decide +kernel
theorem dX9_stays_40 : decode cX9_stays 40 = .ok (.iload_n 3, 1) := by decide +kernel
theorem dX9_stays_41 : decode cX9_stays 41 = .ok (.invokevirtual 146, 3) := by decide +kernel
theorem dX9_stays_44 : decode cX9_stays 44 = .ok (.iload_n 2, 1) := by decide +kernel
theorem dX9_stays_45 : decode cX9_stays 45 = .ok (.if_icmp .le 5, 3) := by decide +kernel
theorem dX9_stays_48 : decode cX9_stays 48 = .ok (.iload_n 3, 1) := by decide +kernel
theorem dX9_stays_49 : decode cX9_stays 49 = .ok (.ireturn, 1) := by decide +kernel
theorem dX9_stays_50 : decode cX9_stays 50 = .ok (.iinc 3 1, 3) := by decide +kernel
theorem dX9_stays_53 : decode cX9_stays 53 = .ok (.goto (-21), 3) := by decide +kernel
theorem dX9_stays_56 : decode cX9_stays 56 = .ok (.bipush 100, 2) := by decide +kernel
theorem dX9_stays_58 : decode cX9_stays 58 = .ok (.ireturn, 1) := by decide +kernel
set_option maxRecDepth 20000 in
theorem ggX9_spot_X9_isNoDepth : GoodIn wsX9_spot wsX9_isNoDepth := goodIn_r _ [7, 8, 9, 6, 10] (by decide +kernel) (by decide +kernel)
set_option maxRecDepth 20000 in
theorem gX9_spot_X9_isNoDepth : GoodIn wsX9_spot (va_wsS RX9 233 yX9_isNoDepth wsX9_isNoDepth) := goodIn_app (goodIn_of _ (by decide +kernel)) ggX9_spot_X9_isNoDepth
set_option maxRecDepth 20000 in
theorem ggX9_spot_X0_stands : GoodIn wsX9_spot wsX0_stands := goodIn_r _ [15, 16, 42, 43, 44, 45, 46, 47, 48, 49, 50] (by decide +kernel) (by decide +kernel)
set_option maxRecDepth 20000 in
theorem gX9_spot_X0_stands : GoodIn wsX9_spot (wsV RX9 141 RX0 yX0_stands wsX0_stands) := goodIn_app (goodIn_of _ (by decide +kernel)) ggX9_spot_X0_stands
set_option maxRecDepth 20000 in
theorem ggX9_spot_X9_depthBehind : GoodIn wsX9_spot wsX9_depthBehind := goodIn_r _ [20, 2, 21, 22, 23, 24, 25, 14, 26, 16, 27, 28, 29, 30, 31, 32, 33, 34, 35, 36, 37, 38, 39, 40, 41, 51, 52, 53, 54, 55, 56, 42, 43, 44, 45, 46, 47, 48, 49, 50] (by decide +kernel) (by decide +kernel)
set_option maxRecDepth 20000 in
theorem gX9_spot_X9_depthBehind : GoodIn wsX9_spot (wsV RX9 146 RX9 yX9_depthBehind wsX9_depthBehind) := goodIn_app (goodIn_of _ (by decide +kernel)) ggX9_spot_X9_depthBehind
theorem dX9_spot_0 : decode cX9_spot 0 = .ok (.iload_n 1, 1) := by decide +kernel
theorem dX9_spot_1 : decode cX9_spot 1 = .ok (.invokestatic 233, 3) := by decide +kernel
theorem dX9_spot_4 : decode cX9_spot 4 = .ok (.ifCond .eq 6, 3) := by decide +kernel
theorem dX9_spot_7 : decode cX9_spot 7 = .ok (.ldc 79, 2) := by decide +kernel
theorem dX9_spot_9 : decode cX9_spot 9 = .ok (.ireturn, 1) := by decide +kernel
theorem dX9_spot_10 : decode cX9_spot 10 = .ok (.aload_n 0, 1) := by decide +kernel
theorem dX9_spot_11 : decode cX9_spot 11 = .ok (.getfield 68, 3) := by decide +kernel
theorem dX9_spot_14 : decode cX9_spot 14 = .ok (.invokevirtual 141, 3) := by decide +kernel
theorem dX9_spot_17 : decode cX9_spot 17 = .ok (.ifCond .ne 6, 3) := by decide +kernel
theorem dX9_spot_20 : decode cX9_spot 20 = .ok (.ldc 145, 2) := by decide +kernel
theorem dX9_spot_22 : decode cX9_spot 22 = .ok (.ireturn, 1) := by decide +kernel
theorem dX9_spot_23 : decode cX9_spot 23 = .ok (.iconst 0, 1) := by decide +kernel
theorem dX9_spot_24 : decode cX9_spot 24 = .ok (.istore_n 2, 1) := by decide +kernel
theorem dX9_spot_25 : decode cX9_spot 25 = .ok (.iload_n 2, 1) := by decide +kernel
theorem dX9_spot_26 : decode cX9_spot 26 = .ok (.bipush 10, 2) := by decide +kernel
theorem dX9_spot_28 : decode cX9_spot 28 = .ok (.if_icmp .ge 21, 3) := by decide +kernel
theorem dX9_spot_31 : decode cX9_spot 31 = .ok (.aload_n 0, 1) := by decide +kernel
theorem dX9_spot_32 : decode cX9_spot 32 = .ok (.iload_n 2, 1) := by decide +kernel
theorem dX9_spot_33 : decode cX9_spot 33 = .ok (.iconst 0, 1) := by decide +kernel
theorem dX9_spot_34 : decode cX9_spot 34 = .ok (.invokevirtual 146, 3) := by decide +kernel
theorem dX9_spot_37 : decode cX9_spot 37 = .ok (.iload_n 1, 1) := by decide +kernel
theorem dX9_spot_38 : decode cX9_spot 38 = .ok (.if_icmp .ne 5, 3) := by decide +kernel
theorem dX9_spot_41 : decode cX9_spot 41 = .ok (.iload_n 2, 1) := by decide +kernel
theorem dX9_spot_42 : decode cX9_spot 42 = .ok (.ireturn, 1) := by decide +kernel
theorem dX9_spot_43 : decode cX9_spot 43 = .ok (.iinc 2 1, 3) := by decide +kernel
theorem dX9_spot_46 : decode cX9_spot 46 = .ok (.goto (-21), 3) := by decide +kernel
theorem dX9_spot_49 : decode cX9_spot 49 = .ok (.iconst (-1), 1) := by decide +kernel
theorem dX9_spot_50 : decode cX9_spot 50 = .ok (.ireturn, 1) := by decide +kernel
set_option maxRecDepth 20000 in
theorem ggX9_soonest_X0_hasHut : GoodIn wsX9_soonest wsX0_hasHut := goodIn_r _ [12, 13, 62, 63, 64, 65, 66, 67, 68, 69, 70] (by decide +kernel) (by decide +kernel)
set_option maxRecDepth 20000 in
theorem gX9_soonest_X0_hasHut : GoodIn wsX9_soonest (wsV RX9 149 RX0 yX0_hasHut wsX0_hasHut) := goodIn_app (goodIn_of _ (by decide +kernel)) ggX9_soonest_X0_hasHut
set_option maxRecDepth 20000 in
theorem ggX9_soonest_X0_hasCase : GoodIn wsX9_soonest wsX0_hasCase := goodIn_r _ [17, 18, 62, 63, 64, 65, 66, 67, 68, 69, 70] (by decide +kernel) (by decide +kernel)
set_option maxRecDepth 20000 in
theorem gX9_soonest_X0_hasCase : GoodIn wsX9_soonest (wsV RX9 166 RX0 yX0_hasCase wsX0_hasCase) := goodIn_app (goodIn_of _ (by decide +kernel)) ggX9_soonest_X0_hasCase
set_option maxRecDepth 20000 in
theorem ggX9_soonest_X0_suitsWithin : GoodIn wsX9_soonest wsX0_suitsWithin := goodIn_r _ [22, 23, 24, 25, 26, 27, 28, 29, 30, 31, 32, 11, 33, 34, 35, 36, 37, 38, 39, 40, 41, 42, 43, 44, 45, 62, 63, 64, 65, 66, 67, 68, 69, 70] (by decide +kernel) (by decide +kernel)
set_option maxRecDepth 20000 in
theorem gX9_soonest_X0_suitsWithin : GoodIn wsX9_soonest (wsV RX9 236 RX0 yX0_suitsWithin wsX0_suitsWithin) := goodIn_app (goodIn_of _ (by decide +kernel)) ggX9_soonest_X0_suitsWithin
theorem dX9_soonest_0 : decode cX9_soonest 0 = .ok (.aload_n 0, 1) := by decide +kernel
theorem dX9_soonest_1 : decode cX9_soonest 1 = .ok (.getfield 68, 3) := by decide +kernel
theorem dX9_soonest_4 : decode cX9_soonest 4 = .ok (.iload_n 1, 1) := by decide +kernel
theorem dX9_soonest_5 : decode cX9_soonest 5 = .ok (.invokevirtual 149, 3) := by decide +kernel
theorem dX9_soonest_8 : decode cX9_soonest 8 = .ok (.ifCond .eq 14, 3) := by decide +kernel
theorem dX9_soonest_11 : decode cX9_soonest 11 = .ok (.aload_n 0, 1) := by decide +kernel
theorem dX9_soonest_12 : decode cX9_soonest 12 = .ok (.getfield 68, 3) := by decide +kernel
theorem dX9_soonest_15 : decode cX9_soonest 15 = .ok (.iload_n 2, 1) := by decide +kernel
theorem dX9_soonest_16 : decode cX9_soonest 16 = .ok (.invokevirtual 166, 3) := by decide +kernel
theorem dX9_soonest_19 : decode cX9_soonest 19 = .ok (.ifCond .ne 6, 3) := by decide +kernel
theorem dX9_soonest_22 : decode cX9_soonest 22 = .ok (.ldc 152, 2) := by decide +kernel
theorem dX9_soonest_24 : decode cX9_soonest 24 = .ok (.ireturn, 1) := by decide +kernel
theorem dX9_soonest_25 : decode cX9_soonest 25 = .ok (.aload_n 0, 1) := by decide +kernel
theorem dX9_soonest_26 : decode cX9_soonest 26 = .ok (.getfield 19, 3) := by decide +kernel
theorem dX9_soonest_29 : decode cX9_soonest 29 = .ok (.getfield 157, 3) := by decide +kernel
theorem dX9_soonest_32 : decode cX9_soonest 32 = .ok (.iload_n 1, 1) := by decide +kernel
theorem dX9_soonest_33 : decode cX9_soonest 33 = .ok (.iaload, 1) := by decide +kernel
theorem dX9_soonest_34 : decode cX9_soonest 34 = .ok (.istore_n 3, 1) := by decide +kernel
theorem dX9_soonest_35 : decode cX9_soonest 35 = .ok (.aload_n 0, 1) := by decide +kernel
theorem dX9_soonest_36 : decode cX9_soonest 36 = .ok (.getfield 68, 3) := by decide +kernel
theorem dX9_soonest_39 : decode cX9_soonest 39 = .ok (.getfield 153, 3) := by decide +kernel
theorem dX9_soonest_42 : decode cX9_soonest 42 = .ok (.iload_n 1, 1) := by decide +kernel
theorem dX9_soonest_43 : decode cX9_soonest 43 = .ok (.iaload, 1) := by decide +kernel
theorem dX9_soonest_44 : decode cX9_soonest 44 = .ok (.istore 4, 2) := by decide +kernel
theorem dX9_soonest_46 : decode cX9_soonest 46 = .ok (.aload_n 0, 1) := by decide +kernel
theorem dX9_soonest_47 : decode cX9_soonest 47 = .ok (.getfield 19, 3) := by decide +kernel
theorem dX9_soonest_50 : decode cX9_soonest 50 = .ok (.getfield 163, 3) := by decide +kernel
theorem dX9_soonest_53 : decode cX9_soonest 53 = .ok (.iload_n 1, 1) := by decide +kernel
theorem dX9_soonest_54 : decode cX9_soonest 54 = .ok (.iaload, 1) := by decide +kernel
theorem dX9_soonest_55 : decode cX9_soonest 55 = .ok (.ifCond .ne 8, 3) := by decide +kernel
theorem dX9_soonest_58 : decode cX9_soonest 58 = .ok (.iload 4, 2) := by decide +kernel
theorem dX9_soonest_60 : decode cX9_soonest 60 = .ok (.goto 4, 3) := by decide +kernel
theorem dX9_soonest_63 : decode cX9_soonest 63 = .ok (.iconst 0, 1) := by decide +kernel
theorem dX9_soonest_64 : decode cX9_soonest 64 = .ok (.istore 5, 2) := by decide +kernel
theorem dX9_soonest_66 : decode cX9_soonest 66 = .ok (.iconst 0, 1) := by decide +kernel
theorem dX9_soonest_67 : decode cX9_soonest 67 = .ok (.istore 6, 2) := by decide +kernel
theorem dX9_soonest_69 : decode cX9_soonest 69 = .ok (.iload 6, 2) := by decide +kernel
theorem dX9_soonest_71 : decode cX9_soonest 71 = .ok (.bipush 30, 2) := by decide +kernel
theorem dX9_soonest_73 : decode cX9_soonest 73 = .ok (.if_icmp .gt 48, 3) := by decide +kernel
theorem dX9_soonest_76 : decode cX9_soonest 76 = .ok (.aload_n 0, 1) := by decide +kernel
theorem dX9_soonest_77 : decode cX9_soonest 77 = .ok (.getfield 68, 3) := by decide +kernel
theorem dX9_soonest_80 : decode cX9_soonest 80 = .ok (.iload_n 2, 1) := by decide +kernel
theorem dX9_soonest_81 : decode cX9_soonest 81 = .ok (.iload_n 3, 1) := by decide +kernel
theorem dX9_soonest_82 : decode cX9_soonest 82 = .ok (.iload 5, 2) := by decide +kernel
theorem dX9_soonest_84 : decode cX9_soonest 84 = .ok (.isub, 1) := by decide +kernel
theorem dX9_soonest_85 : decode cX9_soonest 85 = .ok (.iload_n 3, 1) := by decide +kernel
theorem dX9_soonest_86 : decode cX9_soonest 86 = .ok (.iload 5, 2) := by decide +kernel
theorem dX9_soonest_88 : decode cX9_soonest 88 = .ok (.iadd, 1) := by decide +kernel
theorem dX9_soonest_89 : decode cX9_soonest 89 = .ok (.aload_n 0, 1) := by decide +kernel
theorem dX9_soonest_90 : decode cX9_soonest 90 = .ok (.getfield 19, 3) := by decide +kernel
theorem dX9_soonest_93 : decode cX9_soonest 93 = .ok (.getfield 117, 3) := by decide +kernel
theorem dX9_soonest_96 : decode cX9_soonest 96 = .ok (.iload 6, 2) := by decide +kernel
theorem dX9_soonest_98 : decode cX9_soonest 98 = .ok (.iadd, 1) := by decide +kernel
theorem dX9_soonest_99 : decode cX9_soonest 99 = .ok (.invokevirtual 236, 3) := by decide +kernel
theorem dX9_soonest_102 : decode cX9_soonest 102 = .ok (.ifCond .eq 6, 3) := by decide +kernel
theorem dX9_soonest_105 : decode cX9_soonest 105 = .ok (.iload 6, 2) := by decide +kernel
theorem dX9_soonest_107 : decode cX9_soonest 107 = .ok (.ireturn, 1) := by decide +kernel
theorem dX9_soonest_108 : decode cX9_soonest 108 = .ok (.iload 5, 2) := by decide +kernel
theorem dX9_soonest_110 : decode cX9_soonest 110 = .ok (.iload 4, 2) := by decide +kernel
theorem dX9_soonest_112 : decode cX9_soonest 112 = .ok (.iadd, 1) := by decide +kernel
theorem dX9_soonest_113 : decode cX9_soonest 113 = .ok (.istore 5, 2) := by decide +kernel
theorem dX9_soonest_115 : decode cX9_soonest 115 = .ok (.iinc 6 1, 3) := by decide +kernel
theorem dX9_soonest_118 : decode cX9_soonest 118 = .ok (.goto (-49), 3) := by decide +kernel
theorem dX9_soonest_121 : decode cX9_soonest 121 = .ok (.iconst (-1), 1) := by decide +kernel
theorem dX9_soonest_122 : decode cX9_soonest 122 = .ok (.ireturn, 1) := by decide +kernel
set_option maxRecDepth 20000 in
theorem ggX9_offer_X0_hasCase : GoodIn wsX9_offer wsX0_hasCase := goodIn_r _ [13, 14, 29, 30, 31, 32, 33, 34, 35, 36, 37] (by decide +kernel) (by decide +kernel)
set_option maxRecDepth 20000 in
theorem gX9_offer_X0_hasCase : GoodIn wsX9_offer (wsV RX9 166 RX0 yX0_hasCase wsX0_hasCase) := goodIn_app (goodIn_of _ (by decide +kernel)) ggX9_offer_X0_hasCase
set_option maxRecDepth 20000 in
theorem ggX9_offer_X9_isOutside : GoodIn wsX9_offer wsX9_isOutside := goodIn_r _ [18] (by decide +kernel) (by decide +kernel)
set_option maxRecDepth 20000 in
theorem gX9_offer_X9_isOutside : GoodIn wsX9_offer (va_wsS RX9 75 yX9_isOutside wsX9_isOutside) := goodIn_app (goodIn_of _ (by decide +kernel)) ggX9_offer_X9_isOutside
theorem dX9_offer_0 : decode cX9_offer 0 = .ok (.aload_n 0, 1) := by decide +kernel
theorem dX9_offer_1 : decode cX9_offer 1 = .ok (.getfield 68, 3) := by decide +kernel
theorem dX9_offer_4 : decode cX9_offer 4 = .ok (.iload_n 1, 1) := by decide +kernel
theorem dX9_offer_5 : decode cX9_offer 5 = .ok (.invokevirtual 166, 3) := by decide +kernel
theorem dX9_offer_8 : decode cX9_offer 8 = .ok (.ifCond .ne 6, 3) := by decide +kernel
theorem dX9_offer_11 : decode cX9_offer 11 = .ok (.ldc 152, 2) := by decide +kernel
theorem dX9_offer_13 : decode cX9_offer 13 = .ok (.ireturn, 1) := by decide +kernel
theorem dX9_offer_14 : decode cX9_offer 14 = .ok (.iload_n 2, 1) := by decide +kernel
theorem dX9_offer_15 : decode cX9_offer 15 = .ok (.iconst 0, 1) := by decide +kernel
theorem dX9_offer_16 : decode cX9_offer 16 = .ok (.bipush 100, 2) := by decide +kernel
theorem dX9_offer_18 : decode cX9_offer 18 = .ok (.invokestatic 75, 3) := by decide +kernel
theorem dX9_offer_21 : decode cX9_offer 21 = .ok (.ifCond .ne 24, 3) := by decide +kernel
theorem dX9_offer_24 : decode cX9_offer 24 = .ok (.iload_n 3, 1) := by decide +kernel
theorem dX9_offer_25 : decode cX9_offer 25 = .ok (.iconst 0, 1) := by decide +kernel
theorem dX9_offer_26 : decode cX9_offer 26 = .ok (.sipush 999, 3) := by decide +kernel
theorem dX9_offer_29 : decode cX9_offer 29 = .ok (.invokestatic 75, 3) := by decide +kernel
theorem dX9_offer_32 : decode cX9_offer 32 = .ok (.ifCond .ne 13, 3) := by decide +kernel
theorem dX9_offer_35 : decode cX9_offer 35 = .ok (.iload 4, 2) := by decide +kernel
theorem dX9_offer_37 : decode cX9_offer 37 = .ok (.iconst 0, 1) := by decide +kernel
theorem dX9_offer_38 : decode cX9_offer 38 = .ok (.iconst 1, 1) := by decide +kernel
theorem dX9_offer_39 : decode cX9_offer 39 = .ok (.invokestatic 75, 3) := by decide +kernel
theorem dX9_offer_42 : decode cX9_offer 42 = .ok (.ifCond .eq 6, 3) := by decide +kernel
theorem dX9_offer_45 : decode cX9_offer 45 = .ok (.ldc 79, 2) := by decide +kernel
theorem dX9_offer_47 : decode cX9_offer 47 = .ok (.ireturn, 1) := by decide +kernel
theorem dX9_offer_48 : decode cX9_offer 48 = .ok (.aload_n 0, 1) := by decide +kernel
theorem dX9_offer_49 : decode cX9_offer 49 = .ok (.getfield 68, 3) := by decide +kernel
theorem dX9_offer_52 : decode cX9_offer 52 = .ok (.getfield 178, 3) := by decide +kernel
theorem dX9_offer_55 : decode cX9_offer 55 = .ok (.iload_n 1, 1) := by decide +kernel
theorem dX9_offer_56 : decode cX9_offer 56 = .ok (.iaload, 1) := by decide +kernel
theorem dX9_offer_57 : decode cX9_offer 57 = .ok (.iload_n 2, 1) := by decide +kernel
theorem dX9_offer_58 : decode cX9_offer 58 = .ok (.imul, 1) := by decide +kernel
theorem dX9_offer_59 : decode cX9_offer 59 = .ok (.bipush 100, 2) := by decide +kernel
theorem dX9_offer_61 : decode cX9_offer 61 = .ok (.idiv, 1) := by decide +kernel
theorem dX9_offer_62 : decode cX9_offer 62 = .ok (.istore 5, 2) := by decide +kernel
theorem dX9_offer_64 : decode cX9_offer 64 = .ok (.iload 4, 2) := by decide +kernel
theorem dX9_offer_66 : decode cX9_offer 66 = .ok (.ifCond .ne 14, 3) := by decide +kernel
theorem dX9_offer_69 : decode cX9_offer 69 = .ok (.iconst 0, 1) := by decide +kernel
theorem dX9_offer_70 : decode cX9_offer 70 = .ok (.iload 5, 2) := by decide +kernel
theorem dX9_offer_72 : decode cX9_offer 72 = .ok (.iload_n 3, 1) := by decide +kernel
theorem dX9_offer_73 : decode cX9_offer 73 = .ok (.isub, 1) := by decide +kernel
theorem dX9_offer_74 : decode cX9_offer 74 = .ok (.invokestatic 240, 3) := by decide +kernel
theorem dX9_offer_77 : decode cX9_offer 77 = .ok (.goto 7, 3) := by decide +kernel
theorem dX9_offer_80 : decode cX9_offer 80 = .ok (.iload 5, 2) := by decide +kernel
theorem dX9_offer_82 : decode cX9_offer 82 = .ok (.iload_n 3, 1) := by decide +kernel
theorem dX9_offer_83 : decode cX9_offer 83 = .ok (.iadd, 1) := by decide +kernel
theorem dX9_offer_84 : decode cX9_offer 84 = .ok (.ireturn, 1) := by decide +kernel
set_option maxRecDepth 20000 in
theorem ggX9_calm_X9_isOutside : GoodIn wsX9_calm wsX9_isOutside := goodIn_r _ [7] (by decide +kernel) (by decide +kernel)
set_option maxRecDepth 20000 in
theorem gX9_calm_X9_isOutside : GoodIn wsX9_calm (va_wsS RX9 75 yX9_isOutside wsX9_isOutside) := goodIn_app (goodIn_of _ (by decide +kernel)) ggX9_calm_X9_isOutside
theorem dX9_calm_0 : decode cX9_calm 0 = .ok (.iload_n 1, 1) := by decide +kernel
theorem dX9_calm_1 : decode cX9_calm 1 = .ok (.iconst 0, 1) := by decide +kernel
theorem dX9_calm_2 : decode cX9_calm 2 = .ok (.bipush 60, 2) := by decide +kernel
theorem dX9_calm_4 : decode cX9_calm 4 = .ok (.invokestatic 75, 3) := by decide +kernel
theorem dX9_calm_7 : decode cX9_calm 7 = .ok (.ifCond .ne 13, 3) := by decide +kernel
theorem dX9_calm_10 : decode cX9_calm 10 = .ok (.iload_n 2, 1) := by decide +kernel
theorem dX9_calm_11 : decode cX9_calm 11 = .ok (.iconst 0, 1) := by decide +kernel
theorem dX9_calm_12 : decode cX9_calm 12 = .ok (.bipush 100, 2) := by decide +kernel
theorem dX9_calm_14 : decode cX9_calm 14 = .ok (.invokestatic 75, 3) := by decide +kernel
theorem dX9_calm_17 : decode cX9_calm 17 = .ok (.ifCond .eq 6, 3) := by decide +kernel
theorem dX9_calm_20 : decode cX9_calm 20 = .ok (.ldc 79, 2) := by decide +kernel
theorem dX9_calm_22 : decode cX9_calm 22 = .ok (.ireturn, 1) := by decide +kernel
theorem dX9_calm_23 : decode cX9_calm 23 = .ok (.ldc2_w 245, 3) := by decide +kernel
theorem dX9_calm_26 : decode cX9_calm 26 = .ok (.lstore_n 3, 1) := by decide +kernel
theorem dX9_calm_27 : decode cX9_calm 27 = .ok (.iconst 0, 1) := by decide +kernel
theorem dX9_calm_28 : decode cX9_calm 28 = .ok (.istore 5, 2) := by decide +kernel
theorem dX9_calm_30 : decode cX9_calm 30 = .ok (.iload 5, 2) := by decide +kernel
theorem dX9_calm_32 : decode cX9_calm 32 = .ok (.iload_n 1, 1) := by decide +kernel
theorem dX9_calm_33 : decode cX9_calm 33 = .ok (.if_icmp .ge 21, 3) := by decide +kernel
theorem dX9_calm_36 : decode cX9_calm 36 = .ok (.lload_n 3, 1) := by decide +kernel
theorem dX9_calm_37 : decode cX9_calm 37 = .ok (.bipush 100, 2) := by decide +kernel
theorem dX9_calm_39 : decode cX9_calm 39 = .ok (.iload_n 2, 1) := by decide +kernel
theorem dX9_calm_40 : decode cX9_calm 40 = .ok (.isub, 1) := by decide +kernel
theorem dX9_calm_41 : decode cX9_calm 41 = .ok (.i2l, 1) := by decide +kernel
theorem dX9_calm_42 : decode cX9_calm 42 = .ok (.lmul, 1) := by decide +kernel
theorem dX9_calm_43 : decode cX9_calm 43 = .ok (.ldc2_w 247, 3) := by decide +kernel
theorem dX9_calm_46 : decode cX9_calm 46 = .ok (.ldiv, 1) := by decide +kernel
theorem dX9_calm_47 : decode cX9_calm 47 = .ok (.lstore_n 3, 1) := by decide +kernel
theorem dX9_calm_48 : decode cX9_calm 48 = .ok (.iinc 5 1, 3) := by decide +kernel
theorem dX9_calm_51 : decode cX9_calm 51 = .ok (.goto (-21), 3) := by decide +kernel
theorem dX9_calm_54 : decode cX9_calm 54 = .ok (.lload_n 3, 1) := by decide +kernel
theorem dX9_calm_55 : decode cX9_calm 55 = .ok (.l2i, 1) := by decide +kernel
theorem dX9_calm_56 : decode cX9_calm 56 = .ok (.ireturn, 1) := by decide +kernel
set_option maxRecDepth 20000 in
theorem ggX9_shout_X9_isNoDepth : GoodIn wsX9_shout wsX9_isNoDepth := goodIn_r _ [8, 9, 10, 7, 11] (by decide +kernel) (by decide +kernel)
set_option maxRecDepth 20000 in
theorem gX9_shout_X9_isNoDepth : GoodIn wsX9_shout (va_wsS RX9 233 yX9_isNoDepth wsX9_isNoDepth) := goodIn_app (goodIn_of _ (by decide +kernel)) ggX9_shout_X9_isNoDepth
set_option maxRecDepth 20000 in
theorem ggX9_shout_X4_add : GoodIn wsX9_shout wsX4_add := goodIn_r _ [16, 17, 18, 19, 30, 31, 32] (by decide +kernel) (by decide +kernel)
set_option maxRecDepth 20000 in
theorem gX9_shout_X4_add : GoodIn wsX9_shout (wsV RX9 249 RX4 yX4_add wsX4_add) := goodIn_app (goodIn_of _ (by decide +kernel)) ggX9_shout_X4_add
theorem dX9_shout_0 : decode cX9_shout 0 = .ok (.iload_n 1, 1) := by decide +kernel
theorem dX9_shout_1 : decode cX9_shout 1 = .ok (.invokestatic 233, 3) := by decide +kernel
theorem dX9_shout_4 : decode cX9_shout 4 = .ok (.ifCond .eq 6, 3) := by decide +kernel
theorem dX9_shout_7 : decode cX9_shout 7 = .ok (.ldc 79, 2) := by decide +kernel
theorem dX9_shout_9 : decode cX9_shout 9 = .ok (.ireturn, 1) := by decide +kernel
theorem dX9_shout_10 : decode cX9_shout 10 = .ok (.aload_n 0, 1) := by decide +kernel
theorem dX9_shout_11 : decode cX9_shout 11 = .ok (.getfield 47, 3) := by decide +kernel
theorem dX9_shout_14 : decode cX9_shout 14 = .ok (.getfield 128, 3) := by decide +kernel
theorem dX9_shout_17 : decode cX9_shout 17 = .ok (.bipush 6, 2) := by decide +kernel
theorem dX9_shout_19 : decode cX9_shout 19 = .ok (.if_icmp .lt 6, 3) := by decide +kernel
theorem dX9_shout_22 : decode cX9_shout 22 = .ok (.ldc 84, 2) := by decide +kernel
theorem dX9_shout_24 : decode cX9_shout 24 = .ok (.ireturn, 1) := by decide +kernel
theorem dX9_shout_25 : decode cX9_shout 25 = .ok (.aload_n 0, 1) := by decide +kernel
theorem dX9_shout_26 : decode cX9_shout 26 = .ok (.getfield 47, 3) := by decide +kernel
theorem dX9_shout_29 : decode cX9_shout 29 = .ok (.iload_n 1, 1) := by decide +kernel
theorem dX9_shout_30 : decode cX9_shout 30 = .ok (.iload_n 2, 1) := by decide +kernel
theorem dX9_shout_31 : decode cX9_shout 31 = .ok (.invokevirtual 249, 3) := by decide +kernel
theorem dX9_shout_34 : decode cX9_shout 34 = .ok (.ireturn, 1) := by decide +kernel
set_option maxRecDepth 20000 in
theorem ggX9_bears_X4_allThatFits : GoodIn wsX9_bears wsX4_allThatFits := goodIn_r _ [6, 7, 8, 9, 5, 10, 11, 12, 13, 24, 25, 26] (by decide +kernel) (by decide +kernel)
set_option maxRecDepth 20000 in
theorem gX9_bears_X4_allThatFits : GoodIn wsX9_bears (wsV RX9 252 RX4 yX4_allThatFits wsX4_allThatFits) := goodIn_app (goodIn_of _ (by decide +kernel)) ggX9_bears_X4_allThatFits
theorem dX9_bears_0 : decode cX9_bears 0 = .ok (.aload_n 0, 1) := by decide +kernel
theorem dX9_bears_1 : decode cX9_bears 1 = .ok (.getfield 47, 3) := by decide +kernel
theorem dX9_bears_4 : decode cX9_bears 4 = .ok (.invokevirtual 252, 3) := by decide +kernel
theorem dX9_bears_7 : decode cX9_bears 7 = .ok (.ireturn, 1) := by decide +kernel
set_option maxRecDepth 20000 in
theorem ggX9_listen_X4_bestDepth : GoodIn wsX9_listen wsX4_bestDepth := goodIn_r _ [6, 7, 8, 9, 10, 11, 12, 13, 5, 14, 15, 16, 17, 18, 19, 20, 21, 22, 23, 24, 25, 26, 27, 28, 39, 40, 41] (by decide +kernel) (by decide +kernel)
set_option maxRecDepth 20000 in
theorem gX9_listen_X4_bestDepth : GoodIn wsX9_listen (wsV RX9 255 RX4 yX4_bestDepth wsX4_bestDepth) := goodIn_app (goodIn_of _ (by decide +kernel)) ggX9_listen_X4_bestDepth
theorem dX9_listen_0 : decode cX9_listen 0 = .ok (.aload_n 0, 1) := by decide +kernel
theorem dX9_listen_1 : decode cX9_listen 1 = .ok (.getfield 47, 3) := by decide +kernel
theorem dX9_listen_4 : decode cX9_listen 4 = .ok (.invokevirtual 255, 3) := by decide +kernel
theorem dX9_listen_7 : decode cX9_listen 7 = .ok (.ireturn, 1) := by decide +kernel
set_option maxRecDepth 20000 in
theorem ggX9_write_X0_hasCase : GoodIn wsX9_write wsX0_hasCase := goodIn_r _ [11, 12, 38, 39, 40, 41, 42, 43, 44, 45, 46] (by decide +kernel) (by decide +kernel)
set_option maxRecDepth 20000 in
theorem gX9_write_X0_hasCase : GoodIn wsX9_write (wsV RX9 166 RX0 yX0_hasCase wsX0_hasCase) := goodIn_app (goodIn_of _ (by decide +kernel)) ggX9_write_X0_hasCase
set_option maxRecDepth 20000 in
theorem ggX9_write_X9_isOutside : GoodIn wsX9_write wsX9_isOutside := goodIn_r _ [16] (by decide +kernel) (by decide +kernel)
set_option maxRecDepth 20000 in
theorem gX9_write_X9_isOutside : GoodIn wsX9_write (va_wsS RX9 75 yX9_isOutside wsX9_isOutside) := goodIn_app (goodIn_of _ (by decide +kernel)) ggX9_write_X9_isOutside
set_option maxRecDepth 20000 in
theorem ggX9_write_X1_add : GoodIn wsX9_write wsX1_add := goodIn_r _ [21, 22, 23, 24, 35, 36, 37] (by decide +kernel) (by decide +kernel)
set_option maxRecDepth 20000 in
theorem gX9_write_X1_add : GoodIn wsX9_write (wsV RX9 258 RX1 yX1_add wsX1_add) := goodIn_app (goodIn_of _ (by decide +kernel)) ggX9_write_X1_add
theorem dX9_write_0 : decode cX9_write 0 = .ok (.aload_n 0, 1) := by decide +kernel
theorem dX9_write_1 : decode cX9_write 1 = .ok (.getfield 68, 3) := by decide +kernel
theorem dX9_write_4 : decode cX9_write 4 = .ok (.iload_n 1, 1) := by decide +kernel
theorem dX9_write_5 : decode cX9_write 5 = .ok (.invokevirtual 166, 3) := by decide +kernel
theorem dX9_write_8 : decode cX9_write 8 = .ok (.ifCond .ne 6, 3) := by decide +kernel
theorem dX9_write_11 : decode cX9_write 11 = .ok (.ldc 152, 2) := by decide +kernel
theorem dX9_write_13 : decode cX9_write 13 = .ok (.ireturn, 1) := by decide +kernel
theorem dX9_write_14 : decode cX9_write 14 = .ok (.iload_n 2, 1) := by decide +kernel
theorem dX9_write_15 : decode cX9_write 15 = .ok (.iconst 0, 1) := by decide +kernel
theorem dX9_write_16 : decode cX9_write 16 = .ok (.iconst 4, 1) := by decide +kernel
theorem dX9_write_17 : decode cX9_write 17 = .ok (.invokestatic 75, 3) := by decide +kernel
theorem dX9_write_20 : decode cX9_write 20 = .ok (.ifCond .eq 6, 3) := by decide +kernel
theorem dX9_write_23 : decode cX9_write 23 = .ok (.ldc 79, 2) := by decide +kernel
theorem dX9_write_25 : decode cX9_write 25 = .ok (.ireturn, 1) := by decide +kernel
theorem dX9_write_26 : decode cX9_write 26 = .ok (.aload_n 0, 1) := by decide +kernel
theorem dX9_write_27 : decode cX9_write 27 = .ok (.getfield 54, 3) := by decide +kernel
theorem dX9_write_30 : decode cX9_write 30 = .ok (.getfield 131, 3) := by decide +kernel
theorem dX9_write_33 : decode cX9_write 33 = .ok (.bipush 15, 2) := by decide +kernel
theorem dX9_write_35 : decode cX9_write 35 = .ok (.if_icmp .lt 6, 3) := by decide +kernel
theorem dX9_write_38 : decode cX9_write 38 = .ok (.ldc 84, 2) := by decide +kernel
theorem dX9_write_40 : decode cX9_write 40 = .ok (.ireturn, 1) := by decide +kernel
theorem dX9_write_41 : decode cX9_write 41 = .ok (.aload_n 0, 1) := by decide +kernel
theorem dX9_write_42 : decode cX9_write 42 = .ok (.getfield 54, 3) := by decide +kernel
theorem dX9_write_45 : decode cX9_write 45 = .ok (.iload_n 1, 1) := by decide +kernel
theorem dX9_write_46 : decode cX9_write 46 = .ok (.iload_n 2, 1) := by decide +kernel
theorem dX9_write_47 : decode cX9_write 47 = .ok (.invokevirtual 258, 3) := by decide +kernel
theorem dX9_write_50 : decode cX9_write 50 = .ok (.ireturn, 1) := by decide +kernel
set_option maxRecDepth 20000 in
theorem ggX9_tear_X4_forget : GoodIn wsX9_tear wsX4_forget := goodIn_r _ [9, 10, 27, 28, 29] (by decide +kernel) (by decide +kernel)
set_option maxRecDepth 20000 in
theorem gX9_tear_X4_forget : GoodIn wsX9_tear (wsV RX9 103 RX4 yX4_forget wsX4_forget) := goodIn_app (goodIn_of _ (by decide +kernel)) ggX9_tear_X4_forget
set_option maxRecDepth 20000 in
theorem ggX9_tear_X1_forget : GoodIn wsX9_tear wsX1_forget := goodIn_r _ [15, 16, 30, 31, 32] (by decide +kernel) (by decide +kernel)
set_option maxRecDepth 20000 in
theorem gX9_tear_X1_forget : GoodIn wsX9_tear (wsV RX9 104 RX1 yX1_forget wsX1_forget) := goodIn_app (goodIn_of _ (by decide +kernel)) ggX9_tear_X1_forget
theorem dX9_tear_0 : decode cX9_tear 0 = .ok (.aload_n 0, 1) := by decide +kernel
theorem dX9_tear_1 : decode cX9_tear 1 = .ok (.getfield 47, 3) := by decide +kernel
theorem dX9_tear_4 : decode cX9_tear 4 = .ok (.getfield 128, 3) := by decide +kernel
theorem dX9_tear_7 : decode cX9_tear 7 = .ok (.aload_n 0, 1) := by decide +kernel
theorem dX9_tear_8 : decode cX9_tear 8 = .ok (.getfield 54, 3) := by decide +kernel
theorem dX9_tear_11 : decode cX9_tear 11 = .ok (.getfield 131, 3) := by decide +kernel
theorem dX9_tear_14 : decode cX9_tear 14 = .ok (.iadd, 1) := by decide +kernel
theorem dX9_tear_15 : decode cX9_tear 15 = .ok (.istore_n 1, 1) := by decide +kernel
theorem dX9_tear_16 : decode cX9_tear 16 = .ok (.aload_n 0, 1) := by decide +kernel
theorem dX9_tear_17 : decode cX9_tear 17 = .ok (.getfield 47, 3) := by decide +kernel
theorem dX9_tear_20 : decode cX9_tear 20 = .ok (.invokevirtual 103, 3) := by decide +kernel
theorem dX9_tear_23 : decode cX9_tear 23 = .ok (.aload_n 0, 1) := by decide +kernel
theorem dX9_tear_24 : decode cX9_tear 24 = .ok (.getfield 54, 3) := by decide +kernel
theorem dX9_tear_27 : decode cX9_tear 27 = .ok (.invokevirtual 104, 3) := by decide +kernel
theorem dX9_tear_30 : decode cX9_tear 30 = .ok (.iload_n 1, 1) := by decide +kernel
theorem dX9_tear_31 : decode cX9_tear 31 = .ok (.ireturn, 1) := by decide +kernel
set_option maxRecDepth 20000 in
theorem ggX9_judge_X1_firstWrong : GoodIn wsX9_judge wsX1_firstWrong := goodIn_r _ [7, 8, 9, 10, 11, 22, 23, 24, 25, 26, 27, 28, 29, 30] (by decide +kernel) (by decide +kernel)
set_option maxRecDepth 20000 in
theorem gX9_judge_X1_firstWrong : GoodIn wsX9_judge (wsV RX9 260 RX1 yX1_firstWrong wsX1_firstWrong) := goodIn_app (goodIn_of _ (by decide +kernel)) ggX9_judge_X1_firstWrong
theorem dX9_judge_0 : decode cX9_judge 0 = .ok (.aload_n 0, 1) := by decide +kernel
theorem dX9_judge_1 : decode cX9_judge 1 = .ok (.getfield 54, 3) := by decide +kernel
theorem dX9_judge_4 : decode cX9_judge 4 = .ok (.aload_n 0, 1) := by decide +kernel
theorem dX9_judge_5 : decode cX9_judge 5 = .ok (.getfield 19, 3) := by decide +kernel
theorem dX9_judge_8 : decode cX9_judge 8 = .ok (.invokevirtual 260, 3) := by decide +kernel
theorem dX9_judge_11 : decode cX9_judge 11 = .ok (.ireturn, 1) := by decide +kernel
theorem dX9_seed_0 : decode cX9_seed 0 = .ok (.iload_n 1, 1) := by decide +kernel
theorem dX9_seed_1 : decode cX9_seed 1 = .ok (.ifCond .ge 6, 3) := by decide +kernel
theorem dX9_seed_4 : decode cX9_seed 4 = .ok (.ldc 79, 2) := by decide +kernel
theorem dX9_seed_6 : decode cX9_seed 6 = .ok (.ireturn, 1) := by decide +kernel
theorem dX9_seed_7 : decode cX9_seed 7 = .ok (.aload_n 0, 1) := by decide +kernel
theorem dX9_seed_8 : decode cX9_seed 8 = .ok (.getfield 61, 3) := by decide +kernel
theorem dX9_seed_11 : decode cX9_seed 11 = .ok (.getfield 264, 3) := by decide +kernel
theorem dX9_seed_14 : decode cX9_seed 14 = .ok (.istore_n 2, 1) := by decide +kernel
theorem dX9_seed_15 : decode cX9_seed 15 = .ok (.aload_n 0, 1) := by decide +kernel
theorem dX9_seed_16 : decode cX9_seed 16 = .ok (.getfield 61, 3) := by decide +kernel
theorem dX9_seed_19 : decode cX9_seed 19 = .ok (.iload_n 1, 1) := by decide +kernel
theorem dX9_seed_20 : decode cX9_seed 20 = .ok (.putfield 264, 3) := by decide +kernel
theorem dX9_seed_23 : decode cX9_seed 23 = .ok (.iload_n 2, 1) := by decide +kernel
theorem dX9_seed_24 : decode cX9_seed 24 = .ok (.ireturn, 1) := by decide +kernel
set_option maxRecDepth 20000 in
theorem ggX9_keep_X9_isNoImage : GoodIn wsX9_keep wsX9_isNoImage := goodIn_r _ [10, 11, 12, 9, 13] (by decide +kernel) (by decide +kernel)
set_option maxRecDepth 20000 in
theorem gX9_keep_X9_isNoImage : GoodIn wsX9_keep (va_wsS RX9 267 yX9_isNoImage wsX9_isNoImage) := goodIn_app (goodIn_of _ (by decide +kernel)) ggX9_keep_X9_isNoImage
set_option maxRecDepth 20000 in
theorem ggX9_keep_X5_take : GoodIn wsX9_keep wsX5_take := goodIn_r _ [18, 19, 20, 21, 22, 23, 24, 25, 26, 27, 28, 29, 30, 31, 32, 33, 34, 35, 36, 54, 55, 56, 57, 58, 59, 60, 61, 62] (by decide +kernel) (by decide +kernel)
set_option maxRecDepth 20000 in
theorem gX9_keep_X5_take : GoodIn wsX9_keep (wsV RX9 270 RX5 yX5_take wsX5_take) := goodIn_app (goodIn_of _ (by decide +kernel)) ggX9_keep_X5_take
set_option maxRecDepth 20000 in
theorem ggX9_keep_X6_forget : GoodIn wsX9_keep wsX6_forget := goodIn_r _ [41, 42, 63, 64, 65] (by decide +kernel) (by decide +kernel)
set_option maxRecDepth 20000 in
theorem gX9_keep_X6_forget : GoodIn wsX9_keep (wsV RX9 99 RX6 yX6_forget wsX6_forget) := goodIn_app (goodIn_of _ (by decide +kernel)) ggX9_keep_X6_forget
theorem dX9_keep_0 : decode cX9_keep 0 = .ok (.iload_n 1, 1) := by decide +kernel
theorem dX9_keep_1 : decode cX9_keep 1 = .ok (.invokestatic 267, 3) := by decide +kernel
theorem dX9_keep_4 : decode cX9_keep 4 = .ok (.ifCond .eq 6, 3) := by decide +kernel
theorem dX9_keep_7 : decode cX9_keep 7 = .ok (.ldc 152, 2) := by decide +kernel
theorem dX9_keep_9 : decode cX9_keep 9 = .ok (.ireturn, 1) := by decide +kernel
theorem dX9_keep_10 : decode cX9_keep 10 = .ok (.aload_n 0, 1) := by decide +kernel
theorem dX9_keep_11 : decode cX9_keep 11 = .ok (.getfield 33, 3) := by decide +kernel
theorem dX9_keep_14 : decode cX9_keep 14 = .ok (.iload_n 1, 1) := by decide +kernel
theorem dX9_keep_15 : decode cX9_keep 15 = .ok (.aload_n 0, 1) := by decide +kernel
theorem dX9_keep_16 : decode cX9_keep 16 = .ok (.getfield 19, 3) := by decide +kernel
theorem dX9_keep_19 : decode cX9_keep 19 = .ok (.aload_n 0, 1) := by decide +kernel
theorem dX9_keep_20 : decode cX9_keep 20 = .ok (.getfield 61, 3) := by decide +kernel
theorem dX9_keep_23 : decode cX9_keep 23 = .ok (.getfield 264, 3) := by decide +kernel
theorem dX9_keep_26 : decode cX9_keep 26 = .ok (.invokevirtual 270, 3) := by decide +kernel
theorem dX9_keep_29 : decode cX9_keep 29 = .ok (.aload_n 0, 1) := by decide +kernel
theorem dX9_keep_30 : decode cX9_keep 30 = .ok (.getfield 26, 3) := by decide +kernel
theorem dX9_keep_33 : decode cX9_keep 33 = .ok (.invokevirtual 99, 3) := by decide +kernel
theorem dX9_keep_36 : decode cX9_keep 36 = .ok (.iconst 1, 1) := by decide +kernel
theorem dX9_keep_37 : decode cX9_keep 37 = .ok (.ireturn, 1) := by decide +kernel
set_option maxRecDepth 20000 in
theorem ggX9_goBack_X9_isNoImage : GoodIn wsX9_goBack wsX9_isNoImage := goodIn_r _ [13, 14, 15, 12, 16] (by decide +kernel) (by decide +kernel)
set_option maxRecDepth 20000 in
theorem gX9_goBack_X9_isNoImage : GoodIn wsX9_goBack (va_wsS RX9 267 yX9_isNoImage wsX9_isNoImage) := goodIn_app (goodIn_of _ (by decide +kernel)) ggX9_goBack_X9_isNoImage
set_option maxRecDepth 20000 in
theorem ggX9_goBack_X5_show : GoodIn wsX9_goBack wsX5_show := goodIn_r _ [21, 22, 23, 24, 25, 26, 27, 28, 29, 30, 31, 32, 33, 34, 35, 36, 37, 54, 55, 56, 58, 59, 60, 61, 62, 63] (by decide +kernel) (by decide +kernel)
set_option maxRecDepth 20000 in
theorem gX9_goBack_X5_show : GoodIn wsX9_goBack (wsV RX9 278 RX5 yX5_show wsX5_show) := goodIn_app (goodIn_of _ (by decide +kernel)) ggX9_goBack_X5_show
set_option maxRecDepth 20000 in
theorem ggX9_goBack_X6_forget : GoodIn wsX9_goBack wsX6_forget := goodIn_r _ [42, 43, 64, 65, 66] (by decide +kernel) (by decide +kernel)
set_option maxRecDepth 20000 in
theorem gX9_goBack_X6_forget : GoodIn wsX9_goBack (wsV RX9 99 RX6 yX6_forget wsX6_forget) := goodIn_app (goodIn_of _ (by decide +kernel)) ggX9_goBack_X6_forget
theorem dX9_goBack_0 : decode cX9_goBack 0 = .ok (.iload_n 1, 1) := by decide +kernel
theorem dX9_goBack_1 : decode cX9_goBack 1 = .ok (.invokestatic 267, 3) := by decide +kernel
theorem dX9_goBack_4 : decode cX9_goBack 4 = .ok (.ifCond .eq 6, 3) := by decide +kernel
theorem dX9_goBack_7 : decode cX9_goBack 7 = .ok (.ldc 152, 2) := by decide +kernel
theorem dX9_goBack_9 : decode cX9_goBack 9 = .ok (.ireturn, 1) := by decide +kernel
theorem dX9_goBack_10 : decode cX9_goBack 10 = .ok (.aload_n 0, 1) := by decide +kernel
theorem dX9_goBack_11 : decode cX9_goBack 11 = .ok (.getfield 33, 3) := by decide +kernel
theorem dX9_goBack_14 : decode cX9_goBack 14 = .ok (.getfield 274, 3) := by decide +kernel
theorem dX9_goBack_17 : decode cX9_goBack 17 = .ok (.iload_n 1, 1) := by decide +kernel
theorem dX9_goBack_18 : decode cX9_goBack 18 = .ok (.baload, 1) := by decide +kernel
theorem dX9_goBack_19 : decode cX9_goBack 19 = .ok (.ifCond .ne 6, 3) := by decide +kernel
theorem dX9_goBack_22 : decode cX9_goBack 22 = .ok (.ldc 145, 2) := by decide +kernel
theorem dX9_goBack_24 : decode cX9_goBack 24 = .ok (.ireturn, 1) := by decide +kernel
theorem dX9_goBack_25 : decode cX9_goBack 25 = .ok (.aload_n 0, 1) := by decide +kernel
theorem dX9_goBack_26 : decode cX9_goBack 26 = .ok (.getfield 33, 3) := by decide +kernel
theorem dX9_goBack_29 : decode cX9_goBack 29 = .ok (.iload_n 1, 1) := by decide +kernel
theorem dX9_goBack_30 : decode cX9_goBack 30 = .ok (.aload_n 0, 1) := by decide +kernel
theorem dX9_goBack_31 : decode cX9_goBack 31 = .ok (.getfield 19, 3) := by decide +kernel
theorem dX9_goBack_34 : decode cX9_goBack 34 = .ok (.invokevirtual 278, 3) := by decide +kernel
theorem dX9_goBack_37 : decode cX9_goBack 37 = .ok (.aload_n 0, 1) := by decide +kernel
theorem dX9_goBack_38 : decode cX9_goBack 38 = .ok (.getfield 61, 3) := by decide +kernel
theorem dX9_goBack_41 : decode cX9_goBack 41 = .ok (.aload_n 0, 1) := by decide +kernel
theorem dX9_goBack_42 : decode cX9_goBack 42 = .ok (.getfield 33, 3) := by decide +kernel
theorem dX9_goBack_45 : decode cX9_goBack 45 = .ok (.getfield 282, 3) := by decide +kernel
theorem dX9_goBack_48 : decode cX9_goBack 48 = .ok (.iload_n 1, 1) := by decide +kernel
theorem dX9_goBack_49 : decode cX9_goBack 49 = .ok (.iaload, 1) := by decide +kernel
theorem dX9_goBack_50 : decode cX9_goBack 50 = .ok (.putfield 264, 3) := by decide +kernel
theorem dX9_goBack_53 : decode cX9_goBack 53 = .ok (.aload_n 0, 1) := by decide +kernel
theorem dX9_goBack_54 : decode cX9_goBack 54 = .ok (.getfield 26, 3) := by decide +kernel
theorem dX9_goBack_57 : decode cX9_goBack 57 = .ok (.invokevirtual 99, 3) := by decide +kernel
theorem dX9_goBack_60 : decode cX9_goBack 60 = .ok (.iconst 1, 1) := by decide +kernel
theorem dX9_goBack_61 : decode cX9_goBack 61 = .ok (.ireturn, 1) := by decide +kernel
theorem dX9_isOutside_0 : decode cX9_isOutside 0 = .ok (.iload_n 0, 1) := by decide +kernel
theorem dX9_isOutside_1 : decode cX9_isOutside 1 = .ok (.iload_n 1, 1) := by decide +kernel
theorem dX9_isOutside_2 : decode cX9_isOutside 2 = .ok (.if_icmp .lt 8, 3) := by decide +kernel
theorem dX9_isOutside_5 : decode cX9_isOutside 5 = .ok (.iload_n 0, 1) := by decide +kernel
theorem dX9_isOutside_6 : decode cX9_isOutside 6 = .ok (.iload_n 2, 1) := by decide +kernel
theorem dX9_isOutside_7 : decode cX9_isOutside 7 = .ok (.if_icmp .le 7, 3) := by decide +kernel
theorem dX9_isOutside_10 : decode cX9_isOutside 10 = .ok (.iconst 1, 1) := by decide +kernel
theorem dX9_isOutside_11 : decode cX9_isOutside 11 = .ok (.goto 4, 3) := by decide +kernel
theorem dX9_isOutside_14 : decode cX9_isOutside 14 = .ok (.iconst 0, 1) := by decide +kernel
theorem dX9_isOutside_15 : decode cX9_isOutside 15 = .ok (.ireturn, 1) := by decide +kernel
set_option maxRecDepth 20000 in
theorem ggX9_isNoCell_X9_isOutside : GoodIn wsX9_isNoCell wsX9_isOutside := goodIn_r _ [4] (by decide +kernel) (by decide +kernel)
set_option maxRecDepth 20000 in
theorem gX9_isNoCell_X9_isOutside : GoodIn wsX9_isNoCell (va_wsS RX9 75 yX9_isOutside wsX9_isOutside) := goodIn_app (goodIn_of _ (by decide +kernel)) ggX9_isNoCell_X9_isOutside
theorem dX9_isNoCell_0 : decode cX9_isNoCell 0 = .ok (.iload_n 0, 1) := by decide +kernel
theorem dX9_isNoCell_1 : decode cX9_isNoCell 1 = .ok (.iconst 0, 1) := by decide +kernel
theorem dX9_isNoCell_2 : decode cX9_isNoCell 2 = .ok (.bipush 9, 2) := by decide +kernel
theorem dX9_isNoCell_4 : decode cX9_isNoCell 4 = .ok (.invokestatic 75, 3) := by decide +kernel
theorem dX9_isNoCell_7 : decode cX9_isNoCell 7 = .ok (.ireturn, 1) := by decide +kernel
set_option maxRecDepth 20000 in
theorem ggX9_isNoDepth_X9_isOutside : GoodIn wsX9_isNoDepth wsX9_isOutside := goodIn_r _ [4] (by decide +kernel) (by decide +kernel)
set_option maxRecDepth 20000 in
theorem gX9_isNoDepth_X9_isOutside : GoodIn wsX9_isNoDepth (va_wsS RX9 75 yX9_isOutside wsX9_isOutside) := goodIn_app (goodIn_of _ (by decide +kernel)) ggX9_isNoDepth_X9_isOutside
theorem dX9_isNoDepth_0 : decode cX9_isNoDepth 0 = .ok (.iload_n 0, 1) := by decide +kernel
theorem dX9_isNoDepth_1 : decode cX9_isNoDepth 1 = .ok (.iconst 0, 1) := by decide +kernel
theorem dX9_isNoDepth_2 : decode cX9_isNoDepth 2 = .ok (.bipush 10, 2) := by decide +kernel
theorem dX9_isNoDepth_4 : decode cX9_isNoDepth 4 = .ok (.invokestatic 75, 3) := by decide +kernel
theorem dX9_isNoDepth_7 : decode cX9_isNoDepth 7 = .ok (.ireturn, 1) := by decide +kernel
set_option maxRecDepth 20000 in
theorem ggX9_isNoImage_X9_isOutside : GoodIn wsX9_isNoImage wsX9_isOutside := goodIn_r _ [4] (by decide +kernel) (by decide +kernel)
set_option maxRecDepth 20000 in
theorem gX9_isNoImage_X9_isOutside : GoodIn wsX9_isNoImage (va_wsS RX9 75 yX9_isOutside wsX9_isOutside) := goodIn_app (goodIn_of _ (by decide +kernel)) ggX9_isNoImage_X9_isOutside
theorem dX9_isNoImage_0 : decode cX9_isNoImage 0 = .ok (.iload_n 0, 1) := by decide +kernel
theorem dX9_isNoImage_1 : decode cX9_isNoImage 1 = .ok (.iconst 0, 1) := by decide +kernel
theorem dX9_isNoImage_2 : decode cX9_isNoImage 2 = .ok (.iconst 1, 1) := by decide +kernel
theorem dX9_isNoImage_3 : decode cX9_isNoImage 3 = .ok (.invokestatic 75, 3) := by decide +kernel
theorem dX9_isNoImage_6 : decode cX9_isNoImage 6 = .ok (.ireturn, 1) := by decide +kernel
set_option maxRecDepth 20000 in
theorem ggX9_depthBehind_X0_depthAt : GoodIn wsX9_depthBehind wsX0_depthAt := goodIn_r _ [8, 9, 10, 11, 12, 13, 14, 31, 32, 33, 34, 35, 36, 37, 38, 39] (by decide +kernel) (by decide +kernel)
set_option maxRecDepth 20000 in
theorem gX9_depthBehind_X0_depthAt : GoodIn wsX9_depthBehind (wsV RX9 285 RX0 yX0_depthAt wsX0_depthAt) := goodIn_app (goodIn_of _ (by decide +kernel)) ggX9_depthBehind_X0_depthAt
theorem dX9_depthBehind_0 : decode cX9_depthBehind 0 = .ok (.aload_n 0, 1) := by decide +kernel
theorem dX9_depthBehind_1 : decode cX9_depthBehind 1 = .ok (.getfield 68, 3) := by decide +kernel
theorem dX9_depthBehind_4 : decode cX9_depthBehind 4 = .ok (.iload_n 1, 1) := by decide +kernel
theorem dX9_depthBehind_5 : decode cX9_depthBehind 5 = .ok (.aload_n 0, 1) := by decide +kernel
theorem dX9_depthBehind_6 : decode cX9_depthBehind 6 = .ok (.getfield 19, 3) := by decide +kernel
theorem dX9_depthBehind_9 : decode cX9_depthBehind 9 = .ok (.getfield 117, 3) := by decide +kernel
theorem dX9_depthBehind_12 : decode cX9_depthBehind 12 = .ok (.iload_n 2, 1) := by decide +kernel
theorem dX9_depthBehind_13 : decode cX9_depthBehind 13 = .ok (.iadd, 1) := by decide +kernel
theorem dX9_depthBehind_14 : decode cX9_depthBehind 14 = .ok (.invokevirtual 285, 3) := by decide +kernel
theorem dX9_depthBehind_17 : decode cX9_depthBehind 17 = .ok (.ireturn, 1) := by decide +kernel
theorem dX9_owed_0 : decode cX9_owed 0 = .ok (.iconst 0, 1) := by decide +kernel
theorem dX9_owed_1 : decode cX9_owed 1 = .ok (.istore_n 1, 1) := by decide +kernel
theorem dX9_owed_2 : decode cX9_owed 2 = .ok (.iconst 0, 1) := by decide +kernel
theorem dX9_owed_3 : decode cX9_owed 3 = .ok (.istore_n 2, 1) := by decide +kernel
theorem dX9_owed_4 : decode cX9_owed 4 = .ok (.iload_n 2, 1) := by decide +kernel
theorem dX9_owed_5 : decode cX9_owed 5 = .ok (.aload_n 0, 1) := by decide +kernel
theorem dX9_owed_6 : decode cX9_owed 6 = .ok (.getfield 68, 3) := by decide +kernel
theorem dX9_owed_9 : decode cX9_owed 9 = .ok (.getfield 105, 3) := by decide +kernel
theorem dX9_owed_12 : decode cX9_owed 12 = .ok (.if_icmp .ge 34, 3) := by decide +kernel
theorem dX9_owed_15 : decode cX9_owed 15 = .ok (.aload_n 0, 1) := by decide +kernel
theorem dX9_owed_16 : decode cX9_owed 16 = .ok (.getfield 19, 3) := by decide +kernel
theorem dX9_owed_19 : decode cX9_owed 19 = .ok (.getfield 181, 3) := by decide +kernel
theorem dX9_owed_22 : decode cX9_owed 22 = .ok (.iload_n 2, 1) := by decide +kernel
theorem dX9_owed_23 : decode cX9_owed 23 = .ok (.iaload, 1) := by decide +kernel
theorem dX9_owed_24 : decode cX9_owed 24 = .ok (.iconst 2, 1) := by decide +kernel
theorem dX9_owed_25 : decode cX9_owed 25 = .ok (.if_icmp .ne 15, 3) := by decide +kernel
theorem dX9_owed_28 : decode cX9_owed 28 = .ok (.iload_n 1, 1) := by decide +kernel
theorem dX9_owed_29 : decode cX9_owed 29 = .ok (.aload_n 0, 1) := by decide +kernel
theorem dX9_owed_30 : decode cX9_owed 30 = .ok (.getfield 68, 3) := by decide +kernel
theorem dX9_owed_33 : decode cX9_owed 33 = .ok (.getfield 178, 3) := by decide +kernel
theorem dX9_owed_36 : decode cX9_owed 36 = .ok (.iload_n 2, 1) := by decide +kernel
theorem dX9_owed_37 : decode cX9_owed 37 = .ok (.iaload, 1) := by decide +kernel
theorem dX9_owed_38 : decode cX9_owed 38 = .ok (.iadd, 1) := by decide +kernel
theorem dX9_owed_39 : decode cX9_owed 39 = .ok (.istore_n 1, 1) := by decide +kernel
theorem dX9_owed_40 : decode cX9_owed 40 = .ok (.iinc 2 1, 3) := by decide +kernel
theorem dX9_owed_43 : decode cX9_owed 43 = .ok (.goto (-39), 3) := by decide +kernel
theorem dX9_owed_46 : decode cX9_owed 46 = .ok (.iload_n 1, 1) := by decide +kernel
theorem dX9_owed_47 : decode cX9_owed 47 = .ok (.ireturn, 1) := by decide +kernel
set_option maxRecDepth 20000 in
theorem ggX9_refusalOfHours_X9_isOutside : GoodIn wsX9_refusalOfHours wsX9_isOutside := goodIn_r _ [10] (by decide +kernel) (by decide +kernel)
set_option maxRecDepth 20000 in
theorem gX9_refusalOfHours_X9_isOutside : GoodIn wsX9_refusalOfHours (va_wsS RX9 75 yX9_isOutside wsX9_isOutside) := goodIn_app (goodIn_of _ (by decide +kernel)) ggX9_refusalOfHours_X9_isOutside
set_option maxRecDepth 20000 in
theorem ggX9_refusalOfHours_X0_stands : GoodIn wsX9_refusalOfHours wsX0_stands := goodIn_r _ [15, 16, 33, 34, 35, 36, 37, 38, 39, 40, 41] (by decide +kernel) (by decide +kernel)
set_option maxRecDepth 20000 in
theorem gX9_refusalOfHours_X0_stands : GoodIn wsX9_refusalOfHours (wsV RX9 141 RX0 yX0_stands wsX0_stands) := goodIn_app (goodIn_of _ (by decide +kernel)) ggX9_refusalOfHours_X0_stands
theorem dX9_refusalOfHours_0 : decode cX9_refusalOfHours 0 = .ok (.iload_n 1, 1) := by decide +kernel
theorem dX9_refusalOfHours_1 : decode cX9_refusalOfHours 1 = .ok (.iconst 1, 1) := by decide +kernel
theorem dX9_refusalOfHours_2 : decode cX9_refusalOfHours 2 = .ok (.bipush 60, 2) := by decide +kernel
theorem dX9_refusalOfHours_4 : decode cX9_refusalOfHours 4 = .ok (.invokestatic 75, 3) := by decide +kernel
theorem dX9_refusalOfHours_7 : decode cX9_refusalOfHours 7 = .ok (.ifCond .eq 6, 3) := by decide +kernel
theorem dX9_refusalOfHours_10 : decode cX9_refusalOfHours 10 = .ok (.ldc 79, 2) := by decide +kernel
theorem dX9_refusalOfHours_12 : decode cX9_refusalOfHours 12 = .ok (.ireturn, 1) := by decide +kernel
theorem dX9_refusalOfHours_13 : decode cX9_refusalOfHours 13 = .ok (.aload_n 0, 1) := by decide +kernel
theorem dX9_refusalOfHours_14 : decode cX9_refusalOfHours 14 = .ok (.getfield 68, 3) := by decide +kernel
theorem dX9_refusalOfHours_17 : decode cX9_refusalOfHours 17 = .ok (.invokevirtual 141, 3) := by decide +kernel
theorem dX9_refusalOfHours_20 : decode cX9_refusalOfHours 20 = .ok (.ifCond .ne 6, 3) := by decide +kernel
theorem dX9_refusalOfHours_23 : decode cX9_refusalOfHours 23 = .ok (.ldc 145, 2) := by decide +kernel
theorem dX9_refusalOfHours_25 : decode cX9_refusalOfHours 25 = .ok (.ireturn, 1) := by decide +kernel
theorem dX9_refusalOfHours_26 : decode cX9_refusalOfHours 26 = .ok (.aload_n 0, 1) := by decide +kernel
theorem dX9_refusalOfHours_27 : decode cX9_refusalOfHours 27 = .ok (.getfield 19, 3) := by decide +kernel
theorem dX9_refusalOfHours_30 : decode cX9_refusalOfHours 30 = .ok (.getfield 117, 3) := by decide +kernel
theorem dX9_refusalOfHours_33 : decode cX9_refusalOfHours 33 = .ok (.sipush 9000, 3) := by decide +kernel
theorem dX9_refusalOfHours_36 : decode cX9_refusalOfHours 36 = .ok (.if_icmp .le 8, 3) := by decide +kernel
theorem dX9_refusalOfHours_39 : decode cX9_refusalOfHours 39 = .ok (.ldc 84, 2) := by decide +kernel
theorem dX9_refusalOfHours_41 : decode cX9_refusalOfHours 41 = .ok (.goto 4, 3) := by decide +kernel
theorem dX9_refusalOfHours_44 : decode cX9_refusalOfHours 44 = .ok (.iconst 0, 1) := by decide +kernel
theorem dX9_refusalOfHours_45 : decode cX9_refusalOfHours 45 = .ok (.ireturn, 1) := by decide +kernel
set_option maxRecDepth 20000 in
theorem ggX9_actByDraws_X3_next : GoodIn wsX9_actByDraws wsX3_next := goodIn_r _ [11, 12, 13, 14, 15, 16, 72] (by decide +kernel) (by decide +kernel)
set_option maxRecDepth 20000 in
theorem gX9_actByDraws_X3_next : GoodIn wsX9_actByDraws (wsV RX9 288 RX3 yX3_next wsX3_next) := goodIn_app (goodIn_of _ (by decide +kernel)) ggX9_actByDraws_X3_next
set_option maxRecDepth 20000 in
theorem ggX9_actByDraws_X0_hasHut : GoodIn wsX9_actByDraws wsX0_hasHut := goodIn_r _ [21, 22, 63, 64, 65, 66, 67, 68, 69, 70, 71] (by decide +kernel) (by decide +kernel)
set_option maxRecDepth 20000 in
theorem gX9_actByDraws_X0_hasHut : GoodIn wsX9_actByDraws (wsV RX9 149 RX0 yX0_hasHut wsX0_hasHut) := goodIn_app (goodIn_of _ (by decide +kernel)) ggX9_actByDraws_X0_hasHut
set_option maxRecDepth 20000 in
theorem ggX9_actByDraws_X2_canMove : GoodIn wsX9_actByDraws wsX2_canMove := goodIn_r _ [27, 28, 29, 30, 31, 32, 33, 73, 74, 75, 76, 77, 78] (by decide +kernel) (by decide +kernel)
set_option maxRecDepth 20000 in
theorem gX9_actByDraws_X2_canMove : GoodIn wsX9_actByDraws (wsV RX9 205 RX2 yX2_canMove wsX2_canMove) := goodIn_app (goodIn_of _ (by decide +kernel)) ggX9_actByDraws_X2_canMove
set_option maxRecDepth 20000 in
theorem ggX9_actByDraws_X2_move : GoodIn wsX9_actByDraws wsX2_move := goodIn_r _ [37, 29, 28, 73, 74, 75, 76, 77, 78] (by decide +kernel) (by decide +kernel)
set_option maxRecDepth 20000 in
theorem gX9_actByDraws_X2_move : GoodIn wsX9_actByDraws (wsV RX9 208 RX2 yX2_move wsX2_move) := goodIn_app (goodIn_of _ (by decide +kernel)) ggX9_actByDraws_X2_move
set_option maxRecDepth 20000 in
theorem ggX9_actByDraws_X0_hasCase : GoodIn wsX9_actByDraws wsX0_hasCase := goodIn_r _ [41, 42, 63, 64, 65, 66, 67, 68, 69, 70, 71] (by decide +kernel) (by decide +kernel)
set_option maxRecDepth 20000 in
theorem gX9_actByDraws_X0_hasCase : GoodIn wsX9_actByDraws (wsV RX9 166 RX0 yX0_hasCase wsX0_hasCase) := goodIn_app (goodIn_of _ (by decide +kernel)) ggX9_actByDraws_X0_hasCase
set_option maxRecDepth 20000 in
theorem ggX9_actByDraws_X2_canEnter : GoodIn wsX9_actByDraws wsX2_canEnter := goodIn_r _ [46, 47, 48, 29, 73, 74, 75, 76, 77, 78] (by decide +kernel) (by decide +kernel)
set_option maxRecDepth 20000 in
theorem gX9_actByDraws_X2_canEnter : GoodIn wsX9_actByDraws (wsV RX9 197 RX2 yX2_canEnter wsX2_canEnter) := goodIn_app (goodIn_of _ (by decide +kernel)) ggX9_actByDraws_X2_canEnter
set_option maxRecDepth 20000 in
theorem ggX9_actByDraws_X2_enter : GoodIn wsX9_actByDraws wsX2_enter := goodIn_r _ [52, 47, 48, 73, 74, 75, 76, 77, 78] (by decide +kernel) (by decide +kernel)
set_option maxRecDepth 20000 in
theorem gX9_actByDraws_X2_enter : GoodIn wsX9_actByDraws (wsV RX9 201 RX2 yX2_enter wsX2_enter) := goodIn_app (goodIn_of _ (by decide +kernel)) ggX9_actByDraws_X2_enter
theorem dX9_actByDraws_0 : decode cX9_actByDraws 0 = .ok (.aload_n 0, 1) := by decide +kernel
theorem dX9_actByDraws_1 : decode cX9_actByDraws 1 = .ok (.getfield 61, 3) := by decide +kernel
theorem dX9_actByDraws_4 : decode cX9_actByDraws 4 = .ok (.aload_n 0, 1) := by decide +kernel
theorem dX9_actByDraws_5 : decode cX9_actByDraws 5 = .ok (.getfield 68, 3) := by decide +kernel
theorem dX9_actByDraws_8 : decode cX9_actByDraws 8 = .ok (.getfield 114, 3) := by decide +kernel
theorem dX9_actByDraws_11 : decode cX9_actByDraws 11 = .ok (.invokevirtual 288, 3) := by decide +kernel
theorem dX9_actByDraws_14 : decode cX9_actByDraws 14 = .ok (.istore_n 1, 1) := by decide +kernel
theorem dX9_actByDraws_15 : decode cX9_actByDraws 15 = .ok (.aload_n 0, 1) := by decide +kernel
theorem dX9_actByDraws_16 : decode cX9_actByDraws 16 = .ok (.getfield 68, 3) := by decide +kernel
theorem dX9_actByDraws_19 : decode cX9_actByDraws 19 = .ok (.iload_n 1, 1) := by decide +kernel
theorem dX9_actByDraws_20 : decode cX9_actByDraws 20 = .ok (.invokevirtual 149, 3) := by decide +kernel
theorem dX9_actByDraws_23 : decode cX9_actByDraws 23 = .ok (.ifCond .ne 4, 3) := by decide +kernel
theorem dX9_actByDraws_26 : decode cX9_actByDraws 26 = .ok (.return_, 1) := by decide +kernel
theorem dX9_actByDraws_27 : decode cX9_actByDraws 27 = .ok (.aload_n 0, 1) := by decide +kernel
theorem dX9_actByDraws_28 : decode cX9_actByDraws 28 = .ok (.getfield 61, 3) := by decide +kernel
theorem dX9_actByDraws_31 : decode cX9_actByDraws 31 = .ok (.bipush 10, 2) := by decide +kernel
theorem dX9_actByDraws_33 : decode cX9_actByDraws 33 = .ok (.invokevirtual 288, 3) := by decide +kernel
theorem dX9_actByDraws_36 : decode cX9_actByDraws 36 = .ok (.istore_n 2, 1) := by decide +kernel
theorem dX9_actByDraws_37 : decode cX9_actByDraws 37 = .ok (.aload_n 0, 1) := by decide +kernel
theorem dX9_actByDraws_38 : decode cX9_actByDraws 38 = .ok (.getfield 19, 3) := by decide +kernel
theorem dX9_actByDraws_41 : decode cX9_actByDraws 41 = .ok (.iload_n 1, 1) := by decide +kernel
theorem dX9_actByDraws_42 : decode cX9_actByDraws 42 = .ok (.iload_n 2, 1) := by decide +kernel
theorem dX9_actByDraws_43 : decode cX9_actByDraws 43 = .ok (.aload_n 0, 1) := by decide +kernel
theorem dX9_actByDraws_44 : decode cX9_actByDraws 44 = .ok (.getfield 68, 3) := by decide +kernel
theorem dX9_actByDraws_47 : decode cX9_actByDraws 47 = .ok (.getfield 153, 3) := by decide +kernel
theorem dX9_actByDraws_50 : decode cX9_actByDraws 50 = .ok (.iload_n 1, 1) := by decide +kernel
theorem dX9_actByDraws_51 : decode cX9_actByDraws 51 = .ok (.iaload, 1) := by decide +kernel
theorem dX9_actByDraws_52 : decode cX9_actByDraws 52 = .ok (.invokevirtual 205, 3) := by decide +kernel
theorem dX9_actByDraws_55 : decode cX9_actByDraws 55 = .ok (.ifCond .eq 12, 3) := by decide +kernel
theorem dX9_actByDraws_58 : decode cX9_actByDraws 58 = .ok (.aload_n 0, 1) := by decide +kernel
theorem dX9_actByDraws_59 : decode cX9_actByDraws 59 = .ok (.getfield 19, 3) := by decide +kernel
theorem dX9_actByDraws_62 : decode cX9_actByDraws 62 = .ok (.iload_n 1, 1) := by decide +kernel
theorem dX9_actByDraws_63 : decode cX9_actByDraws 63 = .ok (.iload_n 2, 1) := by decide +kernel
theorem dX9_actByDraws_64 : decode cX9_actByDraws 64 = .ok (.invokevirtual 208, 3) := by decide +kernel
theorem dX9_actByDraws_67 : decode cX9_actByDraws 67 = .ok (.aload_n 0, 1) := by decide +kernel
theorem dX9_actByDraws_68 : decode cX9_actByDraws 68 = .ok (.getfield 61, 3) := by decide +kernel
theorem dX9_actByDraws_71 : decode cX9_actByDraws 71 = .ok (.aload_n 0, 1) := by decide +kernel
theorem dX9_actByDraws_72 : decode cX9_actByDraws 72 = .ok (.getfield 68, 3) := by decide +kernel
theorem dX9_actByDraws_75 : decode cX9_actByDraws 75 = .ok (.getfield 105, 3) := by decide +kernel
theorem dX9_actByDraws_78 : decode cX9_actByDraws 78 = .ok (.invokevirtual 288, 3) := by decide +kernel
theorem dX9_actByDraws_81 : decode cX9_actByDraws 81 = .ok (.istore_n 3, 1) := by decide +kernel
theorem dX9_actByDraws_82 : decode cX9_actByDraws 82 = .ok (.aload_n 0, 1) := by decide +kernel
theorem dX9_actByDraws_83 : decode cX9_actByDraws 83 = .ok (.getfield 68, 3) := by decide +kernel
theorem dX9_actByDraws_86 : decode cX9_actByDraws 86 = .ok (.iload_n 3, 1) := by decide +kernel
theorem dX9_actByDraws_87 : decode cX9_actByDraws 87 = .ok (.invokevirtual 166, 3) := by decide +kernel
theorem dX9_actByDraws_90 : decode cX9_actByDraws 90 = .ok (.ifCond .eq 24, 3) := by decide +kernel
theorem dX9_actByDraws_93 : decode cX9_actByDraws 93 = .ok (.aload_n 0, 1) := by decide +kernel
theorem dX9_actByDraws_94 : decode cX9_actByDraws 94 = .ok (.getfield 19, 3) := by decide +kernel
theorem dX9_actByDraws_97 : decode cX9_actByDraws 97 = .ok (.iload_n 3, 1) := by decide +kernel
theorem dX9_actByDraws_98 : decode cX9_actByDraws 98 = .ok (.iload_n 1, 1) := by decide +kernel
theorem dX9_actByDraws_99 : decode cX9_actByDraws 99 = .ok (.invokevirtual 197, 3) := by decide +kernel
theorem dX9_actByDraws_102 : decode cX9_actByDraws 102 = .ok (.ifCond .eq 12, 3) := by decide +kernel
theorem dX9_actByDraws_105 : decode cX9_actByDraws 105 = .ok (.aload_n 0, 1) := by decide +kernel
theorem dX9_actByDraws_106 : decode cX9_actByDraws 106 = .ok (.getfield 19, 3) := by decide +kernel
theorem dX9_actByDraws_109 : decode cX9_actByDraws 109 = .ok (.iload_n 3, 1) := by decide +kernel
theorem dX9_actByDraws_110 : decode cX9_actByDraws 110 = .ok (.iload_n 1, 1) := by decide +kernel
theorem dX9_actByDraws_111 : decode cX9_actByDraws 111 = .ok (.invokevirtual 201, 3) := by decide +kernel
theorem dX9_actByDraws_114 : decode cX9_actByDraws 114 = .ok (.return_, 1) := by decide +kernel
theorem dX10_init_0 : decode cX10_init 0 = .ok (.aload_n 0, 1) := by decide +kernel
theorem dX10_init_1 : decode cX10_init 1 = .ok (.invokespecial 1, 3) := by decide +kernel
theorem dX10_init_4 : decode cX10_init 4 = .ok (.aload_n 0, 1) := by decide +kernel
theorem dX10_init_5 : decode cX10_init 5 = .ok (.bipush 12, 2) := by decide +kernel
theorem dX10_init_7 : decode cX10_init 7 = .ok (.newarray .int, 2) := by decide +kernel
theorem dX10_init_9 : decode cX10_init 9 = .ok (.putfield 7, 3) := by decide +kernel
theorem dX10_init_12 : decode cX10_init 12 = .ok (.aload_n 0, 1) := by decide +kernel
theorem dX10_init_13 : decode cX10_init 13 = .ok (.iconst 4, 1) := by decide +kernel
theorem dX10_init_14 : decode cX10_init 14 = .ok (.newarray .int, 2) := by decide +kernel
theorem dX10_init_16 : decode cX10_init 16 = .ok (.putfield 13, 3) := by decide +kernel
theorem dX10_init_19 : decode cX10_init 19 = .ok (.aload_n 0, 1) := by decide +kernel
theorem dX10_init_20 : decode cX10_init 20 = .ok (.iconst 5, 1) := by decide +kernel
theorem dX10_init_21 : decode cX10_init 21 = .ok (.newarray .int, 2) := by decide +kernel
theorem dX10_init_23 : decode cX10_init 23 = .ok (.putfield 16, 3) := by decide +kernel
theorem dX10_init_26 : decode cX10_init 26 = .ok (.aload_n 0, 1) := by decide +kernel
theorem dX10_init_27 : decode cX10_init 27 = .ok (.iconst 5, 1) := by decide +kernel
theorem dX10_init_28 : decode cX10_init 28 = .ok (.newarray .int, 2) := by decide +kernel
theorem dX10_init_30 : decode cX10_init 30 = .ok (.putfield 19, 3) := by decide +kernel
theorem dX10_init_33 : decode cX10_init 33 = .ok (.aload_n 0, 1) := by decide +kernel
theorem dX10_init_34 : decode cX10_init 34 = .ok (.iconst 5, 1) := by decide +kernel
theorem dX10_init_35 : decode cX10_init 35 = .ok (.newarray .int, 2) := by decide +kernel
theorem dX10_init_37 : decode cX10_init 37 = .ok (.putfield 22, 3) := by decide +kernel
theorem dX10_init_40 : decode cX10_init 40 = .ok (.aload_n 0, 1) := by decide +kernel
theorem dX10_init_41 : decode cX10_init 41 = .ok (.iconst 5, 1) := by decide +kernel
theorem dX10_init_42 : decode cX10_init 42 = .ok (.newarray .int, 2) := by decide +kernel
theorem dX10_init_44 : decode cX10_init 44 = .ok (.putfield 25, 3) := by decide +kernel
theorem dX10_init_47 : decode cX10_init 47 = .ok (.aload_n 0, 1) := by decide +kernel
theorem dX10_init_48 : decode cX10_init 48 = .ok (.bipush 23, 2) := by decide +kernel
theorem dX10_init_50 : decode cX10_init 50 = .ok (.newarray .int, 2) := by decide +kernel
theorem dX10_init_52 : decode cX10_init 52 = .ok (.putfield 28, 3) := by decide +kernel
theorem dX10_init_55 : decode cX10_init 55 = .ok (.aload_n 0, 1) := by decide +kernel
theorem dX10_init_56 : decode cX10_init 56 = .ok (.sipush 240, 3) := by decide +kernel
theorem dX10_init_59 : decode cX10_init 59 = .ok (.newarray .int, 2) := by decide +kernel
theorem dX10_init_61 : decode cX10_init 61 = .ok (.putfield 31, 3) := by decide +kernel
theorem dX10_init_64 : decode cX10_init 64 = .ok (.aload_n 0, 1) := by decide +kernel
theorem dX10_init_65 : decode cX10_init 65 = .ok (.iconst (-1), 1) := by decide +kernel
theorem dX10_init_66 : decode cX10_init 66 = .ok (.putfield 34, 3) := by decide +kernel
theorem dX10_init_69 : decode cX10_init 69 = .ok (.aload_n 0, 1) := by decide +kernel
