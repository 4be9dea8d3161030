theorem dX10_undo_33 : decode cX10_undo 33 = .ok (.aload_n 0, 1) := by decide +kernel
theorem dX10_undo_34 : decode cX10_undo 34 = .ok (.getfield 56, 3) := by decide +kernel
theorem dX10_undo_37 : decode cX10_undo 37 = .ok (.bipush 23, 2) := by decide +kernel
theorem dX10_undo_39 : decode cX10_undo 39 = .ok (.aload_n 0, 1) := by decide +kernel
theorem dX10_undo_40 : decode cX10_undo 40 = .ok (.getfield 167, 3) := by decide +kernel
theorem dX10_undo_43 : decode cX10_undo 43 = .ok (.imul, 1) := by decide +kernel
theorem dX10_undo_44 : decode cX10_undo 44 = .ok (.iload_n 1, 1) := by decide +kernel
theorem dX10_undo_45 : decode cX10_undo 45 = .ok (.iadd, 1) := by decide +kernel
theorem dX10_undo_46 : decode cX10_undo 46 = .ok (.iaload, 1) := by decide +kernel
theorem dX10_undo_47 : decode cX10_undo 47 = .ok (.iastore, 1) := by decide +kernel
theorem dX10_undo_48 : decode cX10_undo 48 = .ok (.iinc 1 1, 3) := by decide +kernel
theorem dX10_undo_51 : decode cX10_undo 51 = .ok (.goto (-29), 3) := by decide +kernel
theorem dX10_undo_54 : decode cX10_undo 54 = .ok (.aload_n 0, 1) := by decide +kernel
theorem dX10_undo_55 : decode cX10_undo 55 = .ok (.getfield 167, 3) := by decide +kernel
theorem dX10_undo_58 : decode cX10_undo 58 = .ok (.ireturn, 1) := by decide +kernel
set_option maxRecDepth 20000 in
theorem ggX10_isOpen_X10_depthBehind : GoodIn wsX10_isOpen wsX10_depthBehind := goodIn_r _ [5, 6, 7, 8, 18, 19, 20, 21, 22, 23, 24, 25, 26, 27, 28, 29, 30, 31, 32, 33, 34, 35, 36, 37, 38, 39, 40, 41, 42, 43, 44, 45, 46, 47, 48, 49, 50, 51, 52, 53, 54, 55, 56] (by decide +kernel) (by decide +kernel)
set_option maxRecDepth 20000 in
theorem gX10_isOpen_X10_depthBehind : GoodIn wsX10_isOpen (wsV RX10 184 RX10 yX10_depthBehind wsX10_depthBehind) := goodIn_app (goodIn_of _ (by decide +kernel)) ggX10_isOpen_X10_depthBehind
set_option maxRecDepth 20000 in
theorem ggX10_isOpen_X10_isDeepEnough : GoodIn wsX10_isOpen wsX10_isDeepEnough := goodIn_r _ [12, 13, 14, 15, 16, 4, 17, 18, 19, 20, 21, 22, 23, 24, 25, 26, 27, 28, 29, 30, 31, 32, 33, 34, 35, 36, 37, 38, 39, 40, 41, 42, 43, 44, 45, 46, 47, 48, 49, 50, 51, 52, 53, 54, 55, 56] (by decide +kernel) (by decide +kernel)
set_option maxRecDepth 20000 in
theorem gX10_isOpen_X10_isDeepEnough : GoodIn wsX10_isOpen (wsV RX10 238 RX10 yX10_isDeepEnough wsX10_isDeepEnough) := goodIn_app (goodIn_of _ (by decide +kernel)) ggX10_isOpen_X10_isDeepEnough
theorem dX10_isOpen_0 : decode cX10_isOpen 0 = .ok (.iconst 0, 1) := by decide +kernel
theorem dX10_isOpen_1 : decode cX10_isOpen 1 = .ok (.istore_n 3, 1) := by decide +kernel
theorem dX10_isOpen_2 : decode cX10_isOpen 2 = .ok (.iconst 0, 1) := by decide +kernel
theorem dX10_isOpen_3 : decode cX10_isOpen 3 = .ok (.istore 4, 2) := by decide +kernel
theorem dX10_isOpen_5 : decode cX10_isOpen 5 = .ok (.iload 4, 2) := by decide +kernel
theorem dX10_isOpen_7 : decode cX10_isOpen 7 = .ok (.bipush 10, 2) := by decide +kernel
theorem dX10_isOpen_9 : decode cX10_isOpen 9 = .ok (.if_icmp .ge 34, 3) := by decide +kernel
theorem dX10_isOpen_12 : decode cX10_isOpen 12 = .ok (.iload_n 3, 1) := by decide +kernel
theorem dX10_isOpen_13 : decode cX10_isOpen 13 = .ok (.ifCond .ne 18, 3) := by decide +kernel
theorem dX10_isOpen_16 : decode cX10_isOpen 16 = .ok (.aload_n 0, 1) := by decide +kernel
theorem dX10_isOpen_17 : decode cX10_isOpen 17 = .ok (.iload_n 1, 1) := by decide +kernel
theorem dX10_isOpen_18 : decode cX10_isOpen 18 = .ok (.aload_n 0, 1) := by decide +kernel
theorem dX10_isOpen_19 : decode cX10_isOpen 19 = .ok (.iload 4, 2) := by decide +kernel
theorem dX10_isOpen_21 : decode cX10_isOpen 21 = .ok (.iload_n 2, 1) := by decide +kernel
theorem dX10_isOpen_22 : decode cX10_isOpen 22 = .ok (.invokevirtual 184, 3) := by decide +kernel
theorem dX10_isOpen_25 : decode cX10_isOpen 25 = .ok (.invokevirtual 238, 3) := by decide +kernel
theorem dX10_isOpen_28 : decode cX10_isOpen 28 = .ok (.ifCond .eq 7, 3) := by decide +kernel
theorem dX10_isOpen_31 : decode cX10_isOpen 31 = .ok (.iconst 1, 1) := by decide +kernel
theorem dX10_isOpen_32 : decode cX10_isOpen 32 = .ok (.goto 4, 3) := by decide +kernel
theorem dX10_isOpen_35 : decode cX10_isOpen 35 = .ok (.iconst 0, 1) := by decide +kernel
theorem dX10_isOpen_36 : decode cX10_isOpen 36 = .ok (.istore_n 3, 1) := by decide +kernel
theorem dX10_isOpen_37 : decode cX10_isOpen 37 = .ok (.iinc 4 1, 3) := by decide +kernel
theorem dX10_isOpen_40 : decode cX10_isOpen 40 = .ok (.goto (-35), 3) := by decide +kernel
theorem dX10_isOpen_43 : decode cX10_isOpen 43 = .ok (.iload_n 3, 1) := by decide +kernel
theorem dX10_isOpen_44 : decode cX10_isOpen 44 = .ok (.ireturn, 1) := by decide +kernel
set_option maxRecDepth 20000 in
theorem ggX10_openSet_X10_isOpen : GoodIn wsX10_openSet wsX10_isOpen := goodIn_r _ [5, 6, 7, 8, 4, 9, 10, 11, 12, 13, 14, 15, 16, 17, 18, 19, 20, 21, 22, 23, 24, 25, 26, 27, 28, 29, 30, 31, 32, 33, 34, 35, 36, 37, 38, 39, 40, 41, 42, 43, 44, 45, 46, 47, 48, 49, 50, 51, 52, 53, 54, 55, 56, 57, 58, 59, 60] (by decide +kernel) (by decide +kernel)
set_option maxRecDepth 20000 in
theorem gX10_openSet_X10_isOpen : GoodIn wsX10_openSet (wsV RX10 241 RX10 yX10_isOpen wsX10_isOpen) := goodIn_app (goodIn_of _ (by decide +kernel)) ggX10_openSet_X10_isOpen
theorem dX10_openSet_0 : decode cX10_openSet 0 = .ok (.iconst 0, 1) := by decide +kernel
theorem dX10_openSet_1 : decode cX10_openSet 1 = .ok (.istore_n 2, 1) := by decide +kernel
theorem dX10_openSet_2 : decode cX10_openSet 2 = .ok (.iconst 0, 1) := by decide +kernel
theorem dX10_openSet_3 : decode cX10_openSet 3 = .ok (.istore_n 3, 1) := by decide +kernel
theorem dX10_openSet_4 : decode cX10_openSet 4 = .ok (.iload_n 3, 1) := by decide +kernel
theorem dX10_openSet_5 : decode cX10_openSet 5 = .ok (.bipush 12, 2) := by decide +kernel
theorem dX10_openSet_7 : decode cX10_openSet 7 = .ok (.if_icmp .ge 28, 3) := by decide +kernel
theorem dX10_openSet_10 : decode cX10_openSet 10 = .ok (.iload_n 2, 1) := by decide +kernel
theorem dX10_openSet_11 : decode cX10_openSet 11 = .ok (.aload_n 0, 1) := by decide +kernel
theorem dX10_openSet_12 : decode cX10_openSet 12 = .ok (.iload_n 1, 1) := by decide +kernel
theorem dX10_openSet_13 : decode cX10_openSet 13 = .ok (.iload_n 3, 1) := by decide +kernel
theorem dX10_openSet_14 : decode cX10_openSet 14 = .ok (.invokevirtual 241, 3) := by decide +kernel
theorem dX10_openSet_17 : decode cX10_openSet 17 = .ok (.ifCond .eq 9, 3) := by decide +kernel
theorem dX10_openSet_20 : decode cX10_openSet 20 = .ok (.iconst 1, 1) := by decide +kernel
theorem dX10_openSet_21 : decode cX10_openSet 21 = .ok (.iload_n 3, 1) := by decide +kernel
theorem dX10_openSet_22 : decode cX10_openSet 22 = .ok (.ishl, 1) := by decide +kernel
theorem dX10_openSet_23 : decode cX10_openSet 23 = .ok (.goto 4, 3) := by decide +kernel
theorem dX10_openSet_26 : decode cX10_openSet 26 = .ok (.iconst 0, 1) := by decide +kernel
theorem dX10_openSet_27 : decode cX10_openSet 27 = .ok (.ior, 1) := by decide +kernel
theorem dX10_openSet_28 : decode cX10_openSet 28 = .ok (.istore_n 2, 1) := by decide +kernel
theorem dX10_openSet_29 : decode cX10_openSet 29 = .ok (.iinc 3 1, 3) := by decide +kernel
theorem dX10_openSet_32 : decode cX10_openSet 32 = .ok (.goto (-28), 3) := by decide +kernel
theorem dX10_openSet_35 : decode cX10_openSet 35 = .ok (.iload_n 2, 1) := by decide +kernel
theorem dX10_openSet_36 : decode cX10_openSet 36 = .ok (.ireturn, 1) := by decide +kernel
set_option maxRecDepth 20000 in
theorem ggX10_open_X10_isCase : GoodIn wsX10_open wsX10_isCase := goodIn_r _ [6, 7, 8, 9, 5, 10, 32, 33, 34, 35, 36, 37, 38, 39, 40, 41, 42, 43, 44, 45, 46, 47, 48, 49, 50, 51, 52, 53, 54, 55, 56, 57, 58, 59, 60, 61, 62, 63, 64, 65, 66, 67, 68, 69, 70] (by decide +kernel) (by decide +kernel)
set_option maxRecDepth 20000 in
theorem gX10_open_X10_isCase : GoodIn wsX10_open (wsV RX10 191 RX10 yX10_isCase wsX10_isCase) := goodIn_app (goodIn_of _ (by decide +kernel)) ggX10_open_X10_isCase
set_option maxRecDepth 20000 in
theorem ggX10_open_X10_openSet : GoodIn wsX10_open wsX10_openSet := goodIn_r _ [14, 15, 16, 17, 5, 18, 19, 20, 21, 22, 23, 24, 25, 26, 27, 28, 29, 30, 31, 8, 9, 10, 32, 33, 34, 35, 36, 37, 38, 39, 40, 41, 42, 43, 44, 45, 46, 47, 48, 49, 50, 51, 52, 53, 54, 55, 56, 57, 58, 59, 60, 61, 62, 63, 64, 65, 66, 67, 68, 69, 70] (by decide +kernel) (by decide +kernel)
set_option maxRecDepth 20000 in
theorem gX10_open_X10_openSet : GoodIn wsX10_open (wsV RX10 244 RX10 yX10_openSet wsX10_openSet) := goodIn_app (goodIn_of _ (by decide +kernel)) ggX10_open_X10_openSet
theorem dX10_open_0 : decode cX10_open 0 = .ok (.aload_n 0, 1) := by decide +kernel
theorem dX10_open_1 : decode cX10_open 1 = .ok (.iload_n 1, 1) := by decide +kernel
theorem dX10_open_2 : decode cX10_open 2 = .ok (.invokevirtual 191, 3) := by decide +kernel
theorem dX10_open_5 : decode cX10_open 5 = .ok (.ifCond .eq 11, 3) := by decide +kernel
theorem dX10_open_8 : decode cX10_open 8 = .ok (.aload_n 0, 1) := by decide +kernel
theorem dX10_open_9 : decode cX10_open 9 = .ok (.iload_n 1, 1) := by decide +kernel
theorem dX10_open_10 : decode cX10_open 10 = .ok (.invokevirtual 244, 3) := by decide +kernel
theorem dX10_open_13 : decode cX10_open 13 = .ok (.goto 5, 3) := by decide +kernel
theorem dX10_open_16 : decode cX10_open 16 = .ok (.ldc 190, 2) := by decide +kernel
theorem dX10_open_18 : decode cX10_open 18 = .ok (.ireturn, 1) := by decide +kernel
theorem dX10_waysToBegin_0 : decode cX10_waysToBegin 0 = .ok (.iconst 1, 1) := by decide +kernel
theorem dX10_waysToBegin_1 : decode cX10_waysToBegin 1 = .ok (.istore_n 1, 1) := by decide +kernel
theorem dX10_waysToBegin_2 : decode cX10_waysToBegin 2 = .ok (.iconst 0, 1) := by decide +kernel
theorem dX10_waysToBegin_3 : decode cX10_waysToBegin 3 = .ok (.istore_n 2, 1) := by decide +kernel
theorem dX10_waysToBegin_4 : decode cX10_waysToBegin 4 = .ok (.iload_n 2, 1) := by decide +kernel
theorem dX10_waysToBegin_5 : decode cX10_waysToBegin 5 = .ok (.aload_n 0, 1) := by decide +kernel
theorem dX10_waysToBegin_6 : decode cX10_waysToBegin 6 = .ok (.getfield 94, 3) := by decide +kernel
theorem dX10_waysToBegin_9 : decode cX10_waysToBegin 9 = .ok (.if_icmp .ge 30, 3) := by decide +kernel
theorem dX10_waysToBegin_12 : decode cX10_waysToBegin 12 = .ok (.iload_n 1, 1) := by decide +kernel
theorem dX10_waysToBegin_13 : decode cX10_waysToBegin 13 = .ok (.aload_n 0, 1) := by decide +kernel
theorem dX10_waysToBegin_14 : decode cX10_waysToBegin 14 = .ok (.getfield 28, 3) := by decide +kernel
theorem dX10_waysToBegin_17 : decode cX10_waysToBegin 17 = .ok (.bipush 12, 2) := by decide +kernel
theorem dX10_waysToBegin_19 : decode cX10_waysToBegin 19 = .ok (.iload_n 2, 1) := by decide +kernel
theorem dX10_waysToBegin_20 : decode cX10_waysToBegin 20 = .ok (.iadd, 1) := by decide +kernel
theorem dX10_waysToBegin_21 : decode cX10_waysToBegin 21 = .ok (.iaload, 1) := by decide +kernel
theorem dX10_waysToBegin_22 : decode cX10_waysToBegin 22 = .ok (.ifCond .ne 8, 3) := by decide +kernel
theorem dX10_waysToBegin_25 : decode cX10_waysToBegin 25 = .ok (.bipush 12, 2) := by decide +kernel
theorem dX10_waysToBegin_27 : decode cX10_waysToBegin 27 = .ok (.goto 4, 3) := by decide +kernel
theorem dX10_waysToBegin_30 : decode cX10_waysToBegin 30 = .ok (.iconst 1, 1) := by decide +kernel
theorem dX10_waysToBegin_31 : decode cX10_waysToBegin 31 = .ok (.imul, 1) := by decide +kernel
theorem dX10_waysToBegin_32 : decode cX10_waysToBegin 32 = .ok (.istore_n 1, 1) := by decide +kernel
theorem dX10_waysToBegin_33 : decode cX10_waysToBegin 33 = .ok (.iinc 2 1, 3) := by decide +kernel
theorem dX10_waysToBegin_36 : decode cX10_waysToBegin 36 = .ok (.goto (-32), 3) := by decide +kernel
theorem dX10_waysToBegin_39 : decode cX10_waysToBegin 39 = .ok (.iload_n 1, 1) := by decide +kernel
theorem dX10_waysToBegin_40 : decode cX10_waysToBegin 40 = .ok (.ireturn, 1) := by decide +kernel
set_option maxRecDepth 20000 in
theorem ggX10_beginBy_X10_in : GoodIn wsX10_beginBy wsX10_in := goodIn_r _ [9] (by decide +kernel) (by decide +kernel)
set_option maxRecDepth 20000 in
theorem gX10_beginBy_X10_in : GoodIn wsX10_beginBy (va_wsS RX10 90 yX10_in wsX10_in) := goodIn_app (goodIn_of _ (by decide +kernel)) ggX10_beginBy_X10_in
theorem dX10_beginBy_0 : decode cX10_beginBy 0 = .ok (.iload_n 1, 1) := by decide +kernel
theorem dX10_beginBy_1 : decode cX10_beginBy 1 = .ok (.istore_n 3, 1) := by decide +kernel
theorem dX10_beginBy_2 : decode cX10_beginBy 2 = .ok (.iconst 0, 1) := by decide +kernel
theorem dX10_beginBy_3 : decode cX10_beginBy 3 = .ok (.istore 4, 2) := by decide +kernel
theorem dX10_beginBy_5 : decode cX10_beginBy 5 = .ok (.aload_n 0, 1) := by decide +kernel
theorem dX10_beginBy_6 : decode cX10_beginBy 6 = .ok (.getfield 94, 3) := by decide +kernel
theorem dX10_beginBy_9 : decode cX10_beginBy 9 = .ok (.iconst 1, 1) := by decide +kernel
theorem dX10_beginBy_10 : decode cX10_beginBy 10 = .ok (.isub, 1) := by decide +kernel
theorem dX10_beginBy_11 : decode cX10_beginBy 11 = .ok (.istore 5, 2) := by decide +kernel
theorem dX10_beginBy_13 : decode cX10_beginBy 13 = .ok (.iload 5, 2) := by decide +kernel
theorem dX10_beginBy_15 : decode cX10_beginBy 15 = .ok (.ifCond .lt 127, 3) := by decide +kernel
theorem dX10_beginBy_18 : decode cX10_beginBy 18 = .ok (.aload_n 0, 1) := by decide +kernel
theorem dX10_beginBy_19 : decode cX10_beginBy 19 = .ok (.getfield 62, 3) := by decide +kernel
theorem dX10_beginBy_22 : decode cX10_beginBy 22 = .ok (.iload 5, 2) := by decide +kernel
theorem dX10_beginBy_24 : decode cX10_beginBy 24 = .ok (.iconst (-1), 1) := by decide +kernel
theorem dX10_beginBy_25 : decode cX10_beginBy 25 = .ok (.iastore, 1) := by decide +kernel
theorem dX10_beginBy_26 : decode cX10_beginBy 26 = .ok (.aload_n 0, 1) := by decide +kernel
theorem dX10_beginBy_27 : decode cX10_beginBy 27 = .ok (.getfield 28, 3) := by decide +kernel
theorem dX10_beginBy_30 : decode cX10_beginBy 30 = .ok (.bipush 12, 2) := by decide +kernel
theorem dX10_beginBy_32 : decode cX10_beginBy 32 = .ok (.iload 5, 2) := by decide +kernel
theorem dX10_beginBy_34 : decode cX10_beginBy 34 = .ok (.iadd, 1) := by decide +kernel
theorem dX10_beginBy_35 : decode cX10_beginBy 35 = .ok (.iaload, 1) := by decide +kernel
theorem dX10_beginBy_36 : decode cX10_beginBy 36 = .ok (.ifCond .ne 100, 3) := by decide +kernel
theorem dX10_beginBy_39 : decode cX10_beginBy 39 = .ok (.aload_n 0, 1) := by decide +kernel
theorem dX10_beginBy_40 : decode cX10_beginBy 40 = .ok (.getfield 62, 3) := by decide +kernel
theorem dX10_beginBy_43 : decode cX10_beginBy 43 = .ok (.iload 5, 2) := by decide +kernel
theorem dX10_beginBy_45 : decode cX10_beginBy 45 = .ok (.iload_n 3, 1) := by decide +kernel
theorem dX10_beginBy_46 : decode cX10_beginBy 46 = .ok (.bipush 12, 2) := by decide +kernel
theorem dX10_beginBy_48 : decode cX10_beginBy 48 = .ok (.irem, 1) := by decide +kernel
theorem dX10_beginBy_49 : decode cX10_beginBy 49 = .ok (.iastore, 1) := by decide +kernel
theorem dX10_beginBy_50 : decode cX10_beginBy 50 = .ok (.iload_n 3, 1) := by decide +kernel
theorem dX10_beginBy_51 : decode cX10_beginBy 51 = .ok (.bipush 12, 2) := by decide +kernel
theorem dX10_beginBy_53 : decode cX10_beginBy 53 = .ok (.idiv, 1) := by decide +kernel
theorem dX10_beginBy_54 : decode cX10_beginBy 54 = .ok (.istore_n 3, 1) := by decide +kernel
theorem dX10_beginBy_55 : decode cX10_beginBy 55 = .ok (.iconst 1, 1) := by decide +kernel
theorem dX10_beginBy_56 : decode cX10_beginBy 56 = .ok (.aload_n 0, 1) := by decide +kernel
theorem dX10_beginBy_57 : decode cX10_beginBy 57 = .ok (.getfield 19, 3) := by decide +kernel
theorem dX10_beginBy_60 : decode cX10_beginBy 60 = .ok (.iload 5, 2) := by decide +kernel
theorem dX10_beginBy_62 : decode cX10_beginBy 62 = .ok (.iaload, 1) := by decide +kernel
theorem dX10_beginBy_63 : decode cX10_beginBy 63 = .ok (.ishl, 1) := by decide +kernel
theorem dX10_beginBy_64 : decode cX10_beginBy 64 = .ok (.iconst 1, 1) := by decide +kernel
theorem dX10_beginBy_65 : decode cX10_beginBy 65 = .ok (.isub, 1) := by decide +kernel
theorem dX10_beginBy_66 : decode cX10_beginBy 66 = .ok (.aload_n 0, 1) := by decide +kernel
theorem dX10_beginBy_67 : decode cX10_beginBy 67 = .ok (.getfield 62, 3) := by decide +kernel
theorem dX10_beginBy_70 : decode cX10_beginBy 70 = .ok (.iload 5, 2) := by decide +kernel
theorem dX10_beginBy_72 : decode cX10_beginBy 72 = .ok (.iaload, 1) := by decide +kernel
theorem dX10_beginBy_73 : decode cX10_beginBy 73 = .ok (.ishl, 1) := by decide +kernel
theorem dX10_beginBy_74 : decode cX10_beginBy 74 = .ok (.istore 6, 2) := by decide +kernel
theorem dX10_beginBy_76 : decode cX10_beginBy 76 = .ok (.iload 6, 2) := by decide +kernel
theorem dX10_beginBy_78 : decode cX10_beginBy 78 = .ok (.aload_n 0, 1) := by decide +kernel
theorem dX10_beginBy_79 : decode cX10_beginBy 79 = .ok (.getfield 59, 3) := by decide +kernel
theorem dX10_beginBy_82 : decode cX10_beginBy 82 = .ok (.iload 5, 2) := by decide +kernel
theorem dX10_beginBy_84 : decode cX10_beginBy 84 = .ok (.iaload, 1) := by decide +kernel
theorem dX10_beginBy_85 : decode cX10_beginBy 85 = .ok (.iconst (-1), 1) := by decide +kernel
theorem dX10_beginBy_86 : decode cX10_beginBy 86 = .ok (.ixor, 1) := by decide +kernel
theorem dX10_beginBy_87 : decode cX10_beginBy 87 = .ok (.iand, 1) := by decide +kernel
theorem dX10_beginBy_88 : decode cX10_beginBy 88 = .ok (.ifCond .eq 6, 3) := by decide +kernel
theorem dX10_beginBy_91 : decode cX10_beginBy 91 = .ok (.bipush 100, 2) := by decide +kernel
theorem dX10_beginBy_93 : decode cX10_beginBy 93 = .ok (.ireturn, 1) := by decide +kernel
theorem dX10_beginBy_94 : decode cX10_beginBy 94 = .ok (.aload_n 0, 1) := by decide +kernel
theorem dX10_beginBy_95 : decode cX10_beginBy 95 = .ok (.getfield 62, 3) := by decide +kernel
theorem dX10_beginBy_98 : decode cX10_beginBy 98 = .ok (.iload 5, 2) := by decide +kernel
theorem dX10_beginBy_100 : decode cX10_beginBy 100 = .ok (.iaload, 1) := by decide +kernel
theorem dX10_beginBy_101 : decode cX10_beginBy 101 = .ok (.aload_n 0, 1) := by decide +kernel
theorem dX10_beginBy_102 : decode cX10_beginBy 102 = .ok (.getfield 19, 3) := by decide +kernel
theorem dX10_beginBy_105 : decode cX10_beginBy 105 = .ok (.iload 5, 2) := by decide +kernel
theorem dX10_beginBy_107 : decode cX10_beginBy 107 = .ok (.iaload, 1) := by decide +kernel
theorem dX10_beginBy_108 : decode cX10_beginBy 108 = .ok (.iadd, 1) := by decide +kernel
theorem dX10_beginBy_109 : decode cX10_beginBy 109 = .ok (.iload 4, 2) := by decide +kernel
theorem dX10_beginBy_111 : decode cX10_beginBy 111 = .ok (.if_icmp .le 21, 3) := by decide +kernel
theorem dX10_beginBy_114 : decode cX10_beginBy 114 = .ok (.aload_n 0, 1) := by decide +kernel
theorem dX10_beginBy_115 : decode cX10_beginBy 115 = .ok (.getfield 62, 3) := by decide +kernel
theorem dX10_beginBy_118 : decode cX10_beginBy 118 = .ok (.iload 5, 2) := by decide +kernel
theorem dX10_beginBy_120 : decode cX10_beginBy 120 = .ok (.iaload, 1) := by decide +kernel
theorem dX10_beginBy_121 : decode cX10_beginBy 121 = .ok (.aload_n 0, 1) := by decide +kernel
theorem dX10_beginBy_122 : decode cX10_beginBy 122 = .ok (.getfield 19, 3) := by decide +kernel
theorem dX10_beginBy_125 : decode cX10_beginBy 125 = .ok (.iload 5, 2) := by decide +kernel
theorem dX10_beginBy_127 : decode cX10_beginBy 127 = .ok (.iaload, 1) := by decide +kernel
theorem dX10_beginBy_128 : decode cX10_beginBy 128 = .ok (.iadd, 1) := by decide +kernel
theorem dX10_beginBy_129 : decode cX10_beginBy 129 = .ok (.goto 5, 3) := by decide +kernel
theorem dX10_beginBy_132 : decode cX10_beginBy 132 = .ok (.iload 4, 2) := by decide +kernel
theorem dX10_beginBy_134 : decode cX10_beginBy 134 = .ok (.istore 4, 2) := by decide +kernel
theorem dX10_beginBy_136 : decode cX10_beginBy 136 = .ok (.iinc 5 (-1), 3) := by decide +kernel
theorem dX10_beginBy_139 : decode cX10_beginBy 139 = .ok (.goto (-126), 3) := by decide +kernel
theorem dX10_beginBy_142 : decode cX10_beginBy 142 = .ok (.iconst 0, 1) := by decide +kernel
theorem dX10_beginBy_143 : decode cX10_beginBy 143 = .ok (.istore 5, 2) := by decide +kernel
theorem dX10_beginBy_145 : decode cX10_beginBy 145 = .ok (.iload 5, 2) := by decide +kernel
theorem dX10_beginBy_147 : decode cX10_beginBy 147 = .ok (.iload 4, 2) := by decide +kernel
theorem dX10_beginBy_149 : decode cX10_beginBy 149 = .ok (.if_icmp .ge 94, 3) := by decide +kernel
theorem dX10_beginBy_152 : decode cX10_beginBy 152 = .ok (.iconst 0, 1) := by decide +kernel
theorem dX10_beginBy_153 : decode cX10_beginBy 153 = .ok (.istore 6, 2) := by decide +kernel
theorem dX10_beginBy_155 : decode cX10_beginBy 155 = .ok (.iconst 0, 1) := by decide +kernel
theorem dX10_beginBy_156 : decode cX10_beginBy 156 = .ok (.istore 7, 2) := by decide +kernel
theorem dX10_beginBy_158 : decode cX10_beginBy 158 = .ok (.iload 7, 2) := by decide +kernel
theorem dX10_beginBy_160 : decode cX10_beginBy 160 = .ok (.aload_n 0, 1) := by decide +kernel
theorem dX10_beginBy_161 : decode cX10_beginBy 161 = .ok (.getfield 94, 3) := by decide +kernel
theorem dX10_beginBy_164 : decode cX10_beginBy 164 = .ok (.if_icmp .ge 64, 3) := by decide +kernel
theorem dX10_beginBy_167 : decode cX10_beginBy 167 = .ok (.iload 6, 2) := by decide +kernel
theorem dX10_beginBy_169 : decode cX10_beginBy 169 = .ok (.aload_n 0, 1) := by decide +kernel
theorem dX10_beginBy_170 : decode cX10_beginBy 170 = .ok (.getfield 62, 3) := by decide +kernel
theorem dX10_beginBy_173 : decode cX10_beginBy 173 = .ok (.iload 7, 2) := by decide +kernel
theorem dX10_beginBy_175 : decode cX10_beginBy 175 = .ok (.iaload, 1) := by decide +kernel
theorem dX10_beginBy_176 : decode cX10_beginBy 176 = .ok (.ifCond .lt 42, 3) := by decide +kernel
theorem dX10_beginBy_179 : decode cX10_beginBy 179 = .ok (.iload 5, 2) := by decide +kernel
theorem dX10_beginBy_181 : decode cX10_beginBy 181 = .ok (.i2l, 1) := by decide +kernel
theorem dX10_beginBy_182 : decode cX10_beginBy 182 = .ok (.aload_n 0, 1) := by decide +kernel
theorem dX10_beginBy_183 : decode cX10_beginBy 183 = .ok (.getfield 62, 3) := by decide +kernel
theorem dX10_beginBy_186 : decode cX10_beginBy 186 = .ok (.iload 7, 2) := by decide +kernel
theorem dX10_beginBy_188 : decode cX10_beginBy 188 = .ok (.iaload, 1) := by decide +kernel
theorem dX10_beginBy_189 : decode cX10_beginBy 189 = .ok (.i2l, 1) := by decide +kernel
theorem dX10_beginBy_190 : decode cX10_beginBy 190 = .ok (.aload_n 0, 1) := by decide +kernel
theorem dX10_beginBy_191 : decode cX10_beginBy 191 = .ok (.getfield 62, 3) := by decide +kernel
theorem dX10_beginBy_194 : decode cX10_beginBy 194 = .ok (.iload 7, 2) := by decide +kernel
theorem dX10_beginBy_196 : decode cX10_beginBy 196 = .ok (.iaload, 1) := by decide +kernel
theorem dX10_beginBy_197 : decode cX10_beginBy 197 = .ok (.aload_n 0, 1) := by decide +kernel
theorem dX10_beginBy_198 : decode cX10_beginBy 198 = .ok (.getfield 19, 3) := by decide +kernel
theorem dX10_beginBy_201 : decode cX10_beginBy 201 = .ok (.iload 7, 2) := by decide +kernel
theorem dX10_beginBy_203 : decode cX10_beginBy 203 = .ok (.iaload, 1) := by decide +kernel
theorem dX10_beginBy_204 : decode cX10_beginBy 204 = .ok (.iadd, 1) := by decide +kernel
theorem dX10_beginBy_205 : decode cX10_beginBy 205 = .ok (.iconst 1, 1) := by decide +kernel
theorem dX10_beginBy_206 : decode cX10_beginBy 206 = .ok (.isub, 1) := by decide +kernel
theorem dX10_beginBy_207 : decode cX10_beginBy 207 = .ok (.i2l, 1) := by decide +kernel
theorem dX10_beginBy_208 : decode cX10_beginBy 208 = .ok (.invokestatic 90, 3) := by decide +kernel
theorem dX10_beginBy_211 : decode cX10_beginBy 211 = .ok (.ifCond .eq 7, 3) := by decide +kernel
theorem dX10_beginBy_214 : decode cX10_beginBy 214 = .ok (.iconst 1, 1) := by decide +kernel
theorem dX10_beginBy_215 : decode cX10_beginBy 215 = .ok (.goto 4, 3) := by decide +kernel
theorem dX10_beginBy_218 : decode cX10_beginBy 218 = .ok (.iconst 0, 1) := by decide +kernel
theorem dX10_beginBy_219 : decode cX10_beginBy 219 = .ok (.iadd, 1) := by decide +kernel
theorem dX10_beginBy_220 : decode cX10_beginBy 220 = .ok (.istore 6, 2) := by decide +kernel
theorem dX10_beginBy_222 : decode cX10_beginBy 222 = .ok (.iinc 7 1, 3) := by decide +kernel
theorem dX10_beginBy_225 : decode cX10_beginBy 225 = .ok (.goto (-67), 3) := by decide +kernel
theorem dX10_beginBy_228 : decode cX10_beginBy 228 = .ok (.iload 6, 2) := by decide +kernel
theorem dX10_beginBy_230 : decode cX10_beginBy 230 = .ok (.iload_n 2, 1) := by decide +kernel
theorem dX10_beginBy_231 : decode cX10_beginBy 231 = .ok (.if_icmp .le 6, 3) := by decide +kernel
theorem dX10_beginBy_234 : decode cX10_beginBy 234 = .ok (.bipush 100, 2) := by decide +kernel
theorem dX10_beginBy_236 : decode cX10_beginBy 236 = .ok (.ireturn, 1) := by decide +kernel
theorem dX10_beginBy_237 : decode cX10_beginBy 237 = .ok (.iinc 5 1, 3) := by decide +kernel
theorem dX10_beginBy_240 : decode cX10_beginBy 240 = .ok (.goto (-95), 3) := by decide +kernel
theorem dX10_beginBy_243 : decode cX10_beginBy 243 = .ok (.iload 4, 2) := by decide +kernel
theorem dX10_beginBy_245 : decode cX10_beginBy 245 = .ok (.ireturn, 1) := by decide +kernel
set_option maxRecDepth 20000 in
theorem ggX10_plan_X10_isCase : GoodIn wsX10_plan wsX10_isCase := goodIn_r _ [12, 4, 13, 14, 11, 15, 46, 47, 48, 49, 50, 51, 52, 53, 54, 55, 56, 57, 58, 59, 60, 61, 62, 63, 64, 65, 66, 67, 68, 69, 70, 71, 72, 73, 74, 75, 76, 77, 78, 79, 80, 81, 82, 83, 84] (by decide +kernel) (by decide +kernel)
set_option maxRecDepth 20000 in
theorem gX10_plan_X10_isCase : GoodIn wsX10_plan (wsV RX10 191 RX10 yX10_isCase wsX10_isCase) := goodIn_app (goodIn_of _ (by decide +kernel)) ggX10_plan_X10_isCase
set_option maxRecDepth 20000 in
theorem ggX10_plan_X10_in : GoodIn wsX10_plan wsX10_in := goodIn_r _ [15] (by decide +kernel) (by decide +kernel)
set_option maxRecDepth 20000 in
theorem gX10_plan_X10_in : GoodIn wsX10_plan (va_wsS RX10 90 yX10_in wsX10_in) := goodIn_app (goodIn_of _ (by decide +kernel)) ggX10_plan_X10_in
set_option maxRecDepth 20000 in
theorem ggX10_plan_X10_openSet : GoodIn wsX10_plan wsX10_openSet := goodIn_r _ [19, 20, 21, 22, 11, 23, 24, 25, 26, 27, 28, 29, 30, 31, 32, 33, 34, 35, 36, 13, 14, 15, 46, 47, 48, 49, 50, 51, 52, 53, 54, 55, 56, 57, 58, 59, 60, 61, 62, 63, 64, 65, 66, 67, 68, 69, 70, 71, 72, 73, 74, 75, 76, 77, 78, 79, 80, 81, 82, 83, 84] (by decide +kernel) (by decide +kernel)
set_option maxRecDepth 20000 in
theorem gX10_plan_X10_openSet : GoodIn wsX10_plan (wsV RX10 244 RX10 yX10_openSet wsX10_openSet) := goodIn_app (goodIn_of _ (by decide +kernel)) ggX10_plan_X10_openSet
set_option maxRecDepth 20000 in
theorem ggX10_plan_X10_waysToBegin : GoodIn wsX10_plan wsX10_waysToBegin := goodIn_r _ [40, 4, 29, 46, 47, 48, 49, 50, 51, 52, 53, 54, 55, 56, 57, 58, 59, 60, 61, 62, 63, 64, 65, 66, 67, 68, 69, 70, 71, 72, 73, 74, 75, 76, 77, 78, 79, 80, 81, 82, 83, 84] (by decide +kernel) (by decide +kernel)
set_option maxRecDepth 20000 in
theorem gX10_plan_X10_waysToBegin : GoodIn wsX10_plan (wsV RX10 249 RX10 yX10_waysToBegin wsX10_waysToBegin) := goodIn_app (goodIn_of _ (by decide +kernel)) ggX10_plan_X10_waysToBegin
set_option maxRecDepth 20000 in
theorem ggX10_plan_X10_beginBy : GoodIn wsX10_plan wsX10_beginBy := goodIn_r _ [44, 4, 7, 29, 45, 5, 13, 14, 11, 15, 46, 47, 48, 49, 50, 51, 52, 53, 54, 55, 56, 57, 58, 59, 60, 61, 62, 63, 64, 65, 66, 67, 68, 69, 70, 71, 72, 73, 74, 75, 76, 77, 78, 79, 80, 81, 82, 83, 84] (by decide +kernel) (by decide +kernel)
set_option maxRecDepth 20000 in
theorem gX10_plan_X10_beginBy : GoodIn wsX10_plan (wsV RX10 252 RX10 yX10_beginBy wsX10_beginBy) := goodIn_app (goodIn_of _ (by decide +kernel)) ggX10_plan_X10_beginBy
theorem dX10_plan_0 : decode cX10_plan 0 = .ok (.iload_n 2, 1) := by decide +kernel
theorem dX10_plan_1 : decode cX10_plan 1 = .ok (.iconst (-1), 1) := by decide +kernel
theorem dX10_plan_2 : decode cX10_plan 2 = .ok (.if_icmp .eq 14, 3) := by decide +kernel
theorem dX10_plan_5 : decode cX10_plan 5 = .ok (.aload_n 0, 1) := by decide +kernel
theorem dX10_plan_6 : decode cX10_plan 6 = .ok (.iload_n 2, 1) := by decide +kernel
theorem dX10_plan_7 : decode cX10_plan 7 = .ok (.invokevirtual 191, 3) := by decide +kernel
theorem dX10_plan_10 : decode cX10_plan 10 = .ok (.ifCond .ne 6, 3) := by decide +kernel
theorem dX10_plan_13 : decode cX10_plan 13 = .ok (.ldc 190, 2) := by decide +kernel
theorem dX10_plan_15 : decode cX10_plan 15 = .ok (.ireturn, 1) := by decide +kernel
theorem dX10_plan_16 : decode cX10_plan 16 = .ok (.iload_n 1, 1) := by decide +kernel
theorem dX10_plan_17 : decode cX10_plan 17 = .ok (.i2l, 1) := by decide +kernel
theorem dX10_plan_18 : decode cX10_plan 18 = .ok (.lconst 1, 1) := by decide +kernel
theorem dX10_plan_19 : decode cX10_plan 19 = .ok (.ldc2_w 247, 3) := by decide +kernel
theorem dX10_plan_22 : decode cX10_plan 22 = .ok (.invokestatic 90, 3) := by decide +kernel
theorem dX10_plan_25 : decode cX10_plan 25 = .ok (.ifCond .ne 6, 3) := by decide +kernel
theorem dX10_plan_28 : decode cX10_plan 28 = .ok (.ldc 101, 2) := by decide +kernel
theorem dX10_plan_30 : decode cX10_plan 30 = .ok (.ireturn, 1) := by decide +kernel
theorem dX10_plan_31 : decode cX10_plan 31 = .ok (.iconst 0, 1) := by decide +kernel
theorem dX10_plan_32 : decode cX10_plan 32 = .ok (.istore_n 3, 1) := by decide +kernel
theorem dX10_plan_33 : decode cX10_plan 33 = .ok (.iload_n 3, 1) := by decide +kernel
theorem dX10_plan_34 : decode cX10_plan 34 = .ok (.aload_n 0, 1) := by decide +kernel
theorem dX10_plan_35 : decode cX10_plan 35 = .ok (.getfield 94, 3) := by decide +kernel
theorem dX10_plan_38 : decode cX10_plan 38 = .ok (.if_icmp .ge 20, 3) := by decide +kernel
theorem dX10_plan_41 : decode cX10_plan 41 = .ok (.aload_n 0, 1) := by decide +kernel
theorem dX10_plan_42 : decode cX10_plan 42 = .ok (.getfield 59, 3) := by decide +kernel
theorem dX10_plan_45 : decode cX10_plan 45 = .ok (.iload_n 3, 1) := by decide +kernel
theorem dX10_plan_46 : decode cX10_plan 46 = .ok (.aload_n 0, 1) := by decide +kernel
theorem dX10_plan_47 : decode cX10_plan 47 = .ok (.iload_n 3, 1) := by decide +kernel
theorem dX10_plan_48 : decode cX10_plan 48 = .ok (.invokevirtual 244, 3) := by decide +kernel
theorem dX10_plan_51 : decode cX10_plan 51 = .ok (.iastore, 1) := by decide +kernel
theorem dX10_plan_52 : decode cX10_plan 52 = .ok (.iinc 3 1, 3) := by decide +kernel
theorem dX10_plan_55 : decode cX10_plan 55 = .ok (.goto (-22), 3) := by decide +kernel
theorem dX10_plan_58 : decode cX10_plan 58 = .ok (.bipush 100, 2) := by decide +kernel
theorem dX10_plan_60 : decode cX10_plan 60 = .ok (.istore_n 3, 1) := by decide +kernel
theorem dX10_plan_61 : decode cX10_plan 61 = .ok (.iconst 0, 1) := by decide +kernel
theorem dX10_plan_62 : decode cX10_plan 62 = .ok (.istore 4, 2) := by decide +kernel
theorem dX10_plan_64 : decode cX10_plan 64 = .ok (.iload 4, 2) := by decide +kernel
theorem dX10_plan_66 : decode cX10_plan 66 = .ok (.aload_n 0, 1) := by decide +kernel
theorem dX10_plan_67 : decode cX10_plan 67 = .ok (.invokevirtual 249, 3) := by decide +kernel
theorem dX10_plan_70 : decode cX10_plan 70 = .ok (.if_icmp .ge 59, 3) := by decide +kernel
theorem dX10_plan_73 : decode cX10_plan 73 = .ok (.aload_n 0, 1) := by decide +kernel
theorem dX10_plan_74 : decode cX10_plan 74 = .ok (.iload 4, 2) := by decide +kernel
theorem dX10_plan_76 : decode cX10_plan 76 = .ok (.iload_n 1, 1) := by decide +kernel
theorem dX10_plan_77 : decode cX10_plan 77 = .ok (.invokevirtual 252, 3) := by decide +kernel
theorem dX10_plan_80 : decode cX10_plan 80 = .ok (.istore 5, 2) := by decide +kernel
theorem dX10_plan_82 : decode cX10_plan 82 = .ok (.iload 5, 2) := by decide +kernel
theorem dX10_plan_84 : decode cX10_plan 84 = .ok (.iload_n 3, 1) := by decide +kernel
theorem dX10_plan_85 : decode cX10_plan 85 = .ok (.if_icmp .ge 38, 3) := by decide +kernel
theorem dX10_plan_88 : decode cX10_plan 88 = .ok (.iload 5, 2) := by decide +kernel
theorem dX10_plan_90 : decode cX10_plan 90 = .ok (.istore_n 3, 1) := by decide +kernel
theorem dX10_plan_91 : decode cX10_plan 91 = .ok (.iconst 0, 1) := by decide +kernel
theorem dX10_plan_92 : decode cX10_plan 92 = .ok (.istore 6, 2) := by decide +kernel
theorem dX10_plan_94 : decode cX10_plan 94 = .ok (.iload 6, 2) := by decide +kernel
theorem dX10_plan_96 : decode cX10_plan 96 = .ok (.aload_n 0, 1) := by decide +kernel
theorem dX10_plan_97 : decode cX10_plan 97 = .ok (.getfield 94, 3) := by decide +kernel
theorem dX10_plan_100 : decode cX10_plan 100 = .ok (.if_icmp .ge 23, 3) := by decide +kernel
theorem dX10_plan_103 : decode cX10_plan 103 = .ok (.aload_n 0, 1) := by decide +kernel
theorem dX10_plan_104 : decode cX10_plan 104 = .ok (.getfield 65, 3) := by decide +kernel
theorem dX10_plan_107 : decode cX10_plan 107 = .ok (.iload 6, 2) := by decide +kernel
theorem dX10_plan_109 : decode cX10_plan 109 = .ok (.aload_n 0, 1) := by decide +kernel
theorem dX10_plan_110 : decode cX10_plan 110 = .ok (.getfield 62, 3) := by decide +kernel
theorem dX10_plan_113 : decode cX10_plan 113 = .ok (.iload 6, 2) := by decide +kernel
theorem dX10_plan_115 : decode cX10_plan 115 = .ok (.iaload, 1) := by decide +kernel
theorem dX10_plan_116 : decode cX10_plan 116 = .ok (.iastore, 1) := by decide +kernel
theorem dX10_plan_117 : decode cX10_plan 117 = .ok (.iinc 6 1, 3) := by decide +kernel
theorem dX10_plan_120 : decode cX10_plan 120 = .ok (.goto (-26), 3) := by decide +kernel
theorem dX10_plan_123 : decode cX10_plan 123 = .ok (.iinc 4 1, 3) := by decide +kernel
theorem dX10_plan_126 : decode cX10_plan 126 = .ok (.goto (-62), 3) := by decide +kernel
theorem dX10_plan_129 : decode cX10_plan 129 = .ok (.iload_n 3, 1) := by decide +kernel
theorem dX10_plan_130 : decode cX10_plan 130 = .ok (.bipush 100, 2) := by decide +kernel
theorem dX10_plan_132 : decode cX10_plan 132 = .ok (.if_icmp .ne 7, 3) := by decide +kernel
theorem dX10_plan_135 : decode cX10_plan 135 = .ok (.iconst (-1), 1) := by decide +kernel
theorem dX10_plan_136 : decode cX10_plan 136 = .ok (.goto 18, 3) := by decide +kernel
theorem dX10_plan_139 : decode cX10_plan 139 = .ok (.iload_n 2, 1) := by decide +kernel
theorem dX10_plan_140 : decode cX10_plan 140 = .ok (.iconst (-1), 1) := by decide +kernel
theorem dX10_plan_141 : decode cX10_plan 141 = .ok (.if_icmp .ne 7, 3) := by decide +kernel
theorem dX10_plan_144 : decode cX10_plan 144 = .ok (.iload_n 3, 1) := by decide +kernel
theorem dX10_plan_145 : decode cX10_plan 145 = .ok (.goto 9, 3) := by decide +kernel
theorem dX10_plan_148 : decode cX10_plan 148 = .ok (.aload_n 0, 1) := by decide +kernel
theorem dX10_plan_149 : decode cX10_plan 149 = .ok (.getfield 65, 3) := by decide +kernel
theorem dX10_plan_152 : decode cX10_plan 152 = .ok (.iload_n 2, 1) := by decide +kernel
theorem dX10_plan_153 : decode cX10_plan 153 = .ok (.iaload, 1) := by decide +kernel
theorem dX10_plan_154 : decode cX10_plan 154 = .ok (.ireturn, 1) := by decide +kernel
set_option maxRecDepth 20000 in
theorem ggX10_dry_X10_isCell : GoodIn wsX10_dry wsX10_isCell := goodIn_r _ [7, 8, 9, 10, 6, 11] (by decide +kernel) (by decide +kernel)
set_option maxRecDepth 20000 in
theorem gX10_dry_X10_isCell : GoodIn wsX10_dry (va_wsS RX10 177 yX10_isCell wsX10_isCell) := goodIn_app (goodIn_of _ (by decide +kernel)) ggX10_dry_X10_isCell
set_option maxRecDepth 20000 in
theorem ggX10_dry_X10_depthBehind : GoodIn wsX10_dry wsX10_depthBehind := goodIn_r _ [15, 16, 17, 2, 18, 19, 20, 21, 22, 23, 24, 25, 26, 27, 28, 29, 30, 31, 32, 33, 34, 35, 36, 37, 38, 39, 40, 41, 42, 43, 44, 45, 46, 47, 48, 49, 50, 51, 52, 53, 54, 55, 56] (by decide +kernel) (by decide +kernel)
set_option maxRecDepth 20000 in
theorem gX10_dry_X10_depthBehind : GoodIn wsX10_dry (wsV RX10 184 RX10 yX10_depthBehind wsX10_depthBehind) := goodIn_app (goodIn_of _ (by decide +kernel)) ggX10_dry_X10_depthBehind
theorem dX10_dry_0 : decode cX10_dry 0 = .ok (.iload_n 1, 1) := by decide +kernel
theorem dX10_dry_1 : decode cX10_dry 1 = .ok (.invokestatic 177, 3) := by decide +kernel
theorem dX10_dry_4 : decode cX10_dry 4 = .ok (.ifCond .ne 6, 3) := by decide +kernel
theorem dX10_dry_7 : decode cX10_dry 7 = .ok (.ldc 101, 2) := by decide +kernel
theorem dX10_dry_9 : decode cX10_dry 9 = .ok (.ireturn, 1) := by decide +kernel
theorem dX10_dry_10 : decode cX10_dry 10 = .ok (.aload_n 0, 1) := by decide +kernel
theorem dX10_dry_11 : decode cX10_dry 11 = .ok (.getfield 152, 3) := by decide +kernel
theorem dX10_dry_14 : decode cX10_dry 14 = .ok (.ifCond .ne 6, 3) := by decide +kernel
theorem dX10_dry_17 : decode cX10_dry 17 = .ok (.ldc 183, 2) := by decide +kernel
theorem dX10_dry_19 : decode cX10_dry 19 = .ok (.ireturn, 1) := by decide +kernel
theorem dX10_dry_20 : decode cX10_dry 20 = .ok (.iconst 0, 1) := by decide +kernel
theorem dX10_dry_21 : decode cX10_dry 21 = .ok (.istore_n 2, 1) := by decide +kernel
theorem dX10_dry_22 : decode cX10_dry 22 = .ok (.iload_n 2, 1) := by decide +kernel
theorem dX10_dry_23 : decode cX10_dry 23 = .ok (.bipush 100, 2) := by decide +kernel
theorem dX10_dry_25 : decode cX10_dry 25 = .ok (.if_icmp .gt 20, 3) := by decide +kernel
theorem dX10_dry_28 : decode cX10_dry 28 = .ok (.aload_n 0, 1) := by decide +kernel
theorem dX10_dry_29 : decode cX10_dry 29 = .ok (.iload_n 1, 1) := by decide +kernel
theorem dX10_dry_30 : decode cX10_dry 30 = .ok (.iload_n 2, 1) := by decide +kernel
theorem dX10_dry_31 : decode cX10_dry 31 = .ok (.invokevirtual 184, 3) := by decide +kernel
theorem dX10_dry_34 : decode cX10_dry 34 = .ok (.ifCond .ne 5, 3) := by decide +kernel
theorem dX10_dry_37 : decode cX10_dry 37 = .ok (.iload_n 2, 1) := by decide +kernel
theorem dX10_dry_38 : decode cX10_dry 38 = .ok (.ireturn, 1) := by decide +kernel
theorem dX10_dry_39 : decode cX10_dry 39 = .ok (.iinc 2 1, 3) := by decide +kernel
theorem dX10_dry_42 : decode cX10_dry 42 = .ok (.goto (-20), 3) := by decide +kernel
theorem dX10_dry_45 : decode cX10_dry 45 = .ok (.iconst (-1), 1) := by decide +kernel
theorem dX10_dry_46 : decode cX10_dry 46 = .ok (.ireturn, 1) := by decide +kernel
set_option maxRecDepth 20000 in
theorem ggX10_stays_X10_isCell : GoodIn wsX10_stays wsX10_isCell := goodIn_r _ [8, 9, 10, 11, 7, 12] (by decide +kernel) (by decide +kernel)
set_option maxRecDepth 20000 in
theorem gX10_stays_X10_isCell : GoodIn wsX10_stays (va_wsS RX10 177 yX10_isCell wsX10_isCell) := goodIn_app (goodIn_of _ (by decide +kernel)) ggX10_stays_X10_isCell
set_option maxRecDepth 20000 in
theorem ggX10_stays_X10_in : GoodIn wsX10_stays wsX10_in := goodIn_r _ [12] (by decide +kernel) (by decide +kernel)
set_option maxRecDepth 20000 in
theorem gX10_stays_X10_in : GoodIn wsX10_stays (va_wsS RX10 90 yX10_in wsX10_in) := goodIn_app (goodIn_of _ (by decide +kernel)) ggX10_stays_X10_in
set_option maxRecDepth 20000 in
theorem ggX10_stays_X10_depthBehind : GoodIn wsX10_stays wsX10_depthBehind := goodIn_r _ [16, 17, 18, 3, 19, 20, 21, 22, 23, 24, 25, 26, 27, 28, 29, 30, 31, 32, 33, 34, 35, 36, 37, 38, 39, 40, 41, 42, 43, 44, 45, 46, 47, 48, 49, 50, 51, 52, 53, 54, 55, 56, 57] (by decide +kernel) (by decide +kernel)
set_option maxRecDepth 20000 in
theorem gX10_stays_X10_depthBehind : GoodIn wsX10_stays (wsV RX10 184 RX10 yX10_depthBehind wsX10_depthBehind) := goodIn_app (goodIn_of _ (by decide +kernel)) ggX10_stays_X10_depthBehind
theorem dX10_stays_0 : decode cX10_stays 0 = .ok (.iload_n 1, 1) := by decide +kernel
theorem dX10_stays_1 : decode cX10_stays 1 = .ok (.invokestatic 177, 3) := by decide +kernel
theorem dX10_stays_4 : decode cX10_stays 4 = .ok (.ifCond .eq 15, 3) := by decide +kernel
theorem dX10_stays_7 : decode cX10_stays 7 = .ok (.iload_n 2, 1) := by decide +kernel
theorem dX10_stays_8 : decode cX10_stays 8 = .ok (.i2l, 1) := by decide +kernel
theorem dX10_stays_9 : decode cX10_stays 9 = .ok (.lconst 0, 1) := by decide +kernel
theorem dX10_stays_10 : decode cX10_stays 10 = .ok (.ldc2_w 255, 3) := by decide +kernel
theorem dX10_stays_13 : decode cX10_stays 13 = .ok (.invokestatic 90, 3) := by decide +kernel
theorem dX10_stays_16 : decode cX10_stays 16 = .ok (.ifCond .ne 6, 3) := by decide +kernel
theorem dX10_stays_19 : decode cX10_stays 19 = .ok (.ldc 101, 2) := by decide +kernel
theorem dX10_stays_21 : decode cX10_stays 21 = .ok (.ireturn, 1) := by decide +kernel
theorem dX10_stays_22 : decode cX10_stays 22 = .ok (.aload_n 0, 1) := by decide +kernel
theorem dX10_stays_23 : decode cX10_stays 23 = .ok (.getfield 152, 3) := by decide +kernel
theorem dX10_stays_26 : decode cX10_stays 26 = .ok (.ifCond .ne 6, 3) := by decide +kernel
theorem dX10_stays_29 : decode cX10_stays 29 = .ok (.ldc 183, 2) := by decide +kernel
theorem dX10_stays_31 : decode cX10_stays 31 = .ok (.ireturn, 1) := by decide +kernel
theorem dX10_stays_32 : decode cX10_stays 32 = .ok (.iconst 0, 1) := by decide +kernel
theorem dX10_stays_33 : decode cX10_stays 33 = .ok (.istore_n 3, 1) := by decide +kernel
theorem dX10_stays_34 : decode cX10_stays 34 = .ok (.iload_n 3, 1) := by decide +kernel
theorem dX10_stays_35 : decode cX10_stays 35 = .ok (.bipush 100, 2) := by decide +kernel
theorem dX10_stays_37 : decode cX10_stays 37 = .ok (.if_icmp .ge 19, 3) := by decide +kernel
theorem dX10_stays_40 : decode cX10_stays 40 = .ok (.aload_n 0, 1) := by decide +kernel
theorem dX10_stays_41 : decode cX10_stays 41 = .ok (.iload_n 1, 1) := by decide +kernel
theorem dX10_stays_42 : decode cX10_stays 42 = .ok (.iload_n 3, 1) := by decide +kernel
theorem dX10_stays_43 : decode cX10_stays 43 = .ok (.invokevirtual 184, 3) := by decide +kernel
theorem dX10_stays_46 : decode cX10_stays 46 = .ok (.iload_n 2, 1) := by decide +kernel
theorem dX10_stays_47 : decode cX10_stays 47 = .ok (.if_icmp .gt 9, 3) := by decide +kernel
theorem dX10_stays_50 : decode cX10_stays 50 = .ok (.iinc 3 1, 3) := by decide +kernel
theorem dX10_stays_53 : decode cX10_stays 53 = .ok (.goto (-19), 3) := by decide +kernel
theorem dX10_stays_56 : decode cX10_stays 56 = .ok (.iload_n 3, 1) := by decide +kernel
theorem dX10_stays_57 : decode cX10_stays 57 = .ok (.ireturn, 1) := by decide +kernel
set_option maxRecDepth 20000 in
theorem ggX10_spot_X10_in : GoodIn wsX10_spot wsX10_in := goodIn_r _ [8] (by decide +kernel) (by decide +kernel)
set_option maxRecDepth 20000 in
theorem gX10_spot_X10_in : GoodIn wsX10_spot (va_wsS RX10 90 yX10_in wsX10_in) := goodIn_app (goodIn_of _ (by decide +kernel)) ggX10_spot_X10_in
set_option maxRecDepth 20000 in
theorem ggX10_spot_X10_depthBehind : GoodIn wsX10_spot wsX10_depthBehind := goodIn_r _ [12, 13, 14, 3, 15, 16, 17, 18, 19, 20, 21, 22, 23, 24, 25, 26, 27, 28, 29, 30, 31, 32, 33, 34, 35, 36, 37, 38, 39, 40, 41, 42, 43, 44, 45, 46, 47, 48, 49, 50, 51, 52, 53] (by decide +kernel) (by decide +kernel)
set_option maxRecDepth 20000 in
theorem gX10_spot_X10_depthBehind : GoodIn wsX10_spot (wsV RX10 184 RX10 yX10_depthBehind wsX10_depthBehind) := goodIn_app (goodIn_of _ (by decide +kernel)) ggX10_spot_X10_depthBehind
theorem dX10_spot_0 : decode cX10_spot 0 = .ok (.iload_n 1, 1) := by decide +kernel
theorem dX10_spot_1 : decode cX10_spot 1 = .ok (.i2l, 1) := by decide +kernel
theorem dX10_spot_2 : decode cX10_spot 2 = .ok (.lconst 0, 1) := by decide +kernel
theorem dX10_spot_3 : decode cX10_spot 3 = .ok (.ldc2_w 255, 3) := by decide +kernel
theorem dX10_spot_6 : decode cX10_spot 6 = .ok (.invokestatic 90, 3) := by decide +kernel
theorem dX10_spot_9 : decode cX10_spot 9 = .ok (.ifCond .ne 6, 3) := by decide +kernel
theorem dX10_spot_12 : decode cX10_spot 12 = .ok (.ldc 101, 2) := by decide +kernel
theorem dX10_spot_14 : decode cX10_spot 14 = .ok (.ireturn, 1) := by decide +kernel
theorem dX10_spot_15 : decode cX10_spot 15 = .ok (.aload_n 0, 1) := by decide +kernel
theorem dX10_spot_16 : decode cX10_spot 16 = .ok (.getfield 152, 3) := by decide +kernel
theorem dX10_spot_19 : decode cX10_spot 19 = .ok (.ifCond .ne 6, 3) := by decide +kernel
theorem dX10_spot_22 : decode cX10_spot 22 = .ok (.ldc 183, 2) := by decide +kernel
theorem dX10_spot_24 : decode cX10_spot 24 = .ok (.ireturn, 1) := by decide +kernel
theorem dX10_spot_25 : decode cX10_spot 25 = .ok (.iconst 0, 1) := by decide +kernel
theorem dX10_spot_26 : decode cX10_spot 26 = .ok (.istore_n 2, 1) := by decide +kernel
theorem dX10_spot_27 : decode cX10_spot 27 = .ok (.iload_n 2, 1) := by decide +kernel
theorem dX10_spot_28 : decode cX10_spot 28 = .ok (.bipush 10, 2) := by decide +kernel
theorem dX10_spot_30 : decode cX10_spot 30 = .ok (.if_icmp .ge 21, 3) := by decide +kernel
theorem dX10_spot_33 : decode cX10_spot 33 = .ok (.aload_n 0, 1) := by decide +kernel
theorem dX10_spot_34 : decode cX10_spot 34 = .ok (.iload_n 2, 1) := by decide +kernel
theorem dX10_spot_35 : decode cX10_spot 35 = .ok (.iconst 0, 1) := by decide +kernel
theorem dX10_spot_36 : decode cX10_spot 36 = .ok (.invokevirtual 184, 3) := by decide +kernel
theorem dX10_spot_39 : decode cX10_spot 39 = .ok (.iload_n 1, 1) := by decide +kernel
theorem dX10_spot_40 : decode cX10_spot 40 = .ok (.if_icmp .ne 5, 3) := by decide +kernel
theorem dX10_spot_43 : decode cX10_spot 43 = .ok (.iload_n 2, 1) := by decide +kernel
theorem dX10_spot_44 : decode cX10_spot 44 = .ok (.ireturn, 1) := by decide +kernel
theorem dX10_spot_45 : decode cX10_spot 45 = .ok (.iinc 2 1, 3) := by decide +kernel
theorem dX10_spot_48 : decode cX10_spot 48 = .ok (.goto (-21), 3) := by decide +kernel
theorem dX10_spot_51 : decode cX10_spot 51 = .ok (.iconst (-1), 1) := by decide +kernel
theorem dX10_spot_52 : decode cX10_spot 52 = .ok (.ireturn, 1) := by decide +kernel
set_option maxRecDepth 20000 in
theorem ggX10_soonest_X10_isHut : GoodIn wsX10_soonest wsX10_isHut := goodIn_r _ [8, 9, 10, 11, 7, 12, 30, 31, 32, 33, 34, 35, 36, 37, 38, 39, 40, 41, 42, 43, 44, 45, 46, 47, 48, 49, 50, 51, 52, 53, 54, 55, 56, 57, 58, 59, 60, 61, 62, 63, 64, 65, 66, 67, 68] (by decide +kernel) (by decide +kernel)
set_option maxRecDepth 20000 in
theorem gX10_soonest_X10_isHut : GoodIn wsX10_soonest (wsV RX10 187 RX10 yX10_isHut wsX10_isHut) := goodIn_app (goodIn_of _ (by decide +kernel)) ggX10_soonest_X10_isHut
set_option maxRecDepth 20000 in
theorem ggX10_soonest_X10_isCase : GoodIn wsX10_soonest wsX10_isCase := goodIn_r _ [16, 17, 10, 11, 7, 12, 30, 31, 32, 33, 34, 35, 36, 37, 38, 39, 40, 41, 42, 43, 44, 45, 46, 47, 48, 49, 50, 51, 52, 53, 54, 55, 56, 57, 58, 59, 60, 61, 62, 63, 64, 65, 66, 67, 68] (by decide +kernel) (by decide +kernel)
set_option maxRecDepth 20000 in
theorem gX10_soonest_X10_isCase : GoodIn wsX10_soonest (wsV RX10 191 RX10 yX10_isCase wsX10_isCase) := goodIn_app (goodIn_of _ (by decide +kernel)) ggX10_soonest_X10_isCase
set_option maxRecDepth 20000 in
theorem ggX10_soonest_X10_in : GoodIn wsX10_soonest wsX10_in := goodIn_r _ [12] (by decide +kernel) (by decide +kernel)
set_option maxRecDepth 20000 in
theorem gX10_soonest_X10_in : GoodIn wsX10_soonest (va_wsS RX10 90 yX10_in wsX10_in) := goodIn_app (goodIn_of _ (by decide +kernel)) ggX10_soonest_X10_in
set_option maxRecDepth 20000 in
theorem ggX10_soonest_X10_depthBehind : GoodIn wsX10_soonest wsX10_depthBehind := goodIn_r _ [21, 22, 2, 23, 30, 31, 32, 33, 34, 35, 36, 37, 38, 39, 40, 41, 42, 43, 44, 45, 46, 47, 48, 49, 50, 51, 52, 53, 54, 55, 56, 57, 58, 59, 60, 61, 62, 63, 64, 65, 66, 67, 68] (by decide +kernel) (by decide +kernel)
set_option maxRecDepth 20000 in
theorem gX10_soonest_X10_depthBehind : GoodIn wsX10_soonest (wsV RX10 184 RX10 yX10_depthBehind wsX10_depthBehind) := goodIn_app (goodIn_of _ (by decide +kernel)) ggX10_soonest_X10_depthBehind
set_option maxRecDepth 20000 in
theorem ggX10_soonest_X10_isDeepEnough : GoodIn wsX10_soonest wsX10_isDeepEnough := goodIn_r _ [27, 28, 29, 10, 11, 7, 12, 30, 31, 32, 33, 34, 35, 36, 37, 38, 39, 40, 41, 42, 43, 44, 45, 46, 47, 48, 49, 50, 51, 52, 53, 54, 55, 56, 57, 58, 59, 60, 61, 62, 63, 64, 65, 66, 67, 68] (by decide +kernel) (by decide +kernel)
set_option maxRecDepth 20000 in
theorem gX10_soonest_X10_isDeepEnough : GoodIn wsX10_soonest (wsV RX10 238 RX10 yX10_isDeepEnough wsX10_isDeepEnough) := goodIn_app (goodIn_of _ (by decide +kernel)) ggX10_soonest_X10_isDeepEnough
theorem dX10_soonest_0 : decode cX10_soonest 0 = .ok (.aload_n 0, 1) := by decide +kernel
theorem dX10_soonest_1 : decode cX10_soonest 1 = .ok (.iload_n 1, 1) := by decide +kernel
theorem dX10_soonest_2 : decode cX10_soonest 2 = .ok (.invokevirtual 187, 3) := by decide +kernel
theorem dX10_soonest_5 : decode cX10_soonest 5 = .ok (.ifCond .eq 11, 3) := by decide +kernel
theorem dX10_soonest_8 : decode cX10_soonest 8 = .ok (.aload_n 0, 1) := by decide +kernel
theorem dX10_soonest_9 : decode cX10_soonest 9 = .ok (.iload_n 2, 1) := by decide +kernel
theorem dX10_soonest_10 : decode cX10_soonest 10 = .ok (.invokevirtual 191, 3) := by decide +kernel
theorem dX10_soonest_13 : decode cX10_soonest 13 = .ok (.ifCond .ne 6, 3) := by decide +kernel
theorem dX10_soonest_16 : decode cX10_soonest 16 = .ok (.ldc 190, 2) := by decide +kernel
theorem dX10_soonest_18 : decode cX10_soonest 18 = .ok (.ireturn, 1) := by decide +kernel
theorem dX10_soonest_19 : decode cX10_soonest 19 = .ok (.aload_n 0, 1) := by decide +kernel
theorem dX10_soonest_20 : decode cX10_soonest 20 = .ok (.getfield 28, 3) := by decide +kernel
theorem dX10_soonest_23 : decode cX10_soonest 23 = .ok (.bipush 8, 2) := by decide +kernel
theorem dX10_soonest_25 : decode cX10_soonest 25 = .ok (.iload_n 1, 1) := by decide +kernel
theorem dX10_soonest_26 : decode cX10_soonest 26 = .ok (.iadd, 1) := by decide +kernel
theorem dX10_soonest_27 : decode cX10_soonest 27 = .ok (.iaload, 1) := by decide +kernel
theorem dX10_soonest_28 : decode cX10_soonest 28 = .ok (.iconst 1, 1) := by decide +kernel
theorem dX10_soonest_29 : decode cX10_soonest 29 = .ok (.if_icmp .ne 7, 3) := by decide +kernel
theorem dX10_soonest_32 : decode cX10_soonest 32 = .ok (.iconst 0, 1) := by decide +kernel
theorem dX10_soonest_33 : decode cX10_soonest 33 = .ok (.goto 9, 3) := by decide +kernel
theorem dX10_soonest_36 : decode cX10_soonest 36 = .ok (.aload_n 0, 1) := by decide +kernel
theorem dX10_soonest_37 : decode cX10_soonest 37 = .ok (.getfield 13, 3) := by decide +kernel
theorem dX10_soonest_40 : decode cX10_soonest 40 = .ok (.iload_n 1, 1) := by decide +kernel
theorem dX10_soonest_41 : decode cX10_soonest 41 = .ok (.iaload, 1) := by decide +kernel
theorem dX10_soonest_42 : decode cX10_soonest 42 = .ok (.istore_n 3, 1) := by decide +kernel
theorem dX10_soonest_43 : decode cX10_soonest 43 = .ok (.iconst 0, 1) := by decide +kernel
theorem dX10_soonest_44 : decode cX10_soonest 44 = .ok (.istore 4, 2) := by decide +kernel
theorem dX10_soonest_46 : decode cX10_soonest 46 = .ok (.iload 4, 2) := by decide +kernel
theorem dX10_soonest_48 : decode cX10_soonest 48 = .ok (.bipush 31, 2) := by decide +kernel
theorem dX10_soonest_50 : decode cX10_soonest 50 = .ok (.if_icmp .ge 80, 3) := by decide +kernel
theorem dX10_soonest_53 : decode cX10_soonest 53 = .ok (.iconst 0, 1) := by decide +kernel
theorem dX10_soonest_54 : decode cX10_soonest 54 = .ok (.istore 5, 2) := by decide +kernel
theorem dX10_soonest_56 : decode cX10_soonest 56 = .ok (.iload 5, 2) := by decide +kernel
theorem dX10_soonest_58 : decode cX10_soonest 58 = .ok (.bipush 10, 2) := by decide +kernel
theorem dX10_soonest_60 : decode cX10_soonest 60 = .ok (.if_icmp .ge 55, 3) := by decide +kernel
theorem dX10_soonest_63 : decode cX10_soonest 63 = .ok (.iload 5, 2) := by decide +kernel
theorem dX10_soonest_65 : decode cX10_soonest 65 = .ok (.i2l, 1) := by decide +kernel
theorem dX10_soonest_66 : decode cX10_soonest 66 = .ok (.aload_n 0, 1) := by decide +kernel
theorem dX10_soonest_67 : decode cX10_soonest 67 = .ok (.getfield 28, 3) := by decide +kernel
theorem dX10_soonest_70 : decode cX10_soonest 70 = .ok (.iload_n 1, 1) := by decide +kernel
theorem dX10_soonest_71 : decode cX10_soonest 71 = .ok (.iaload, 1) := by decide +kernel
theorem dX10_soonest_72 : decode cX10_soonest 72 = .ok (.iload_n 3, 1) := by decide +kernel
theorem dX10_soonest_73 : decode cX10_soonest 73 = .ok (.isub, 1) := by decide +kernel
theorem dX10_soonest_74 : decode cX10_soonest 74 = .ok (.i2l, 1) := by decide +kernel
theorem dX10_soonest_75 : decode cX10_soonest 75 = .ok (.aload_n 0, 1) := by decide +kernel
theorem dX10_soonest_76 : decode cX10_soonest 76 = .ok (.getfield 28, 3) := by decide +kernel
theorem dX10_soonest_79 : decode cX10_soonest 79 = .ok (.iload_n 1, 1) := by decide +kernel
theorem dX10_soonest_80 : decode cX10_soonest 80 = .ok (.iaload, 1) := by decide +kernel
theorem dX10_soonest_81 : decode cX10_soonest 81 = .ok (.iload_n 3, 1) := by decide +kernel
theorem dX10_soonest_82 : decode cX10_soonest 82 = .ok (.iadd, 1) := by decide +kernel
theorem dX10_soonest_83 : decode cX10_soonest 83 = .ok (.i2l, 1) := by decide +kernel
theorem dX10_soonest_84 : decode cX10_soonest 84 = .ok (.invokestatic 90, 3) := by decide +kernel
theorem dX10_soonest_87 : decode cX10_soonest 87 = .ok (.ifCond .eq 22, 3) := by decide +kernel
theorem dX10_soonest_90 : decode cX10_soonest 90 = .ok (.aload_n 0, 1) := by decide +kernel
theorem dX10_soonest_91 : decode cX10_soonest 91 = .ok (.iload_n 2, 1) := by decide +kernel
theorem dX10_soonest_92 : decode cX10_soonest 92 = .ok (.aload_n 0, 1) := by decide +kernel
theorem dX10_soonest_93 : decode cX10_soonest 93 = .ok (.iload 5, 2) := by decide +kernel
theorem dX10_soonest_95 : decode cX10_soonest 95 = .ok (.iload 4, 2) := by decide +kernel
theorem dX10_soonest_97 : decode cX10_soonest 97 = .ok (.invokevirtual 184, 3) := by decide +kernel
theorem dX10_soonest_100 : decode cX10_soonest 100 = .ok (.invokevirtual 238, 3) := by decide +kernel
theorem dX10_soonest_103 : decode cX10_soonest 103 = .ok (.ifCond .eq 6, 3) := by decide +kernel
theorem dX10_soonest_106 : decode cX10_soonest 106 = .ok (.iload 4, 2) := by decide +kernel
theorem dX10_soonest_108 : decode cX10_soonest 108 = .ok (.ireturn, 1) := by decide +kernel
theorem dX10_soonest_109 : decode cX10_soonest 109 = .ok (.iinc 5 1, 3) := by decide +kernel
theorem dX10_soonest_112 : decode cX10_soonest 112 = .ok (.goto (-56), 3) := by decide +kernel
theorem dX10_soonest_115 : decode cX10_soonest 115 = .ok (.iload_n 3, 1) := by decide +kernel
theorem dX10_soonest_116 : decode cX10_soonest 116 = .ok (.aload_n 0, 1) := by decide +kernel
theorem dX10_soonest_117 : decode cX10_soonest 117 = .ok (.getfield 13, 3) := by decide +kernel
theorem dX10_soonest_120 : decode cX10_soonest 120 = .ok (.iload_n 1, 1) := by decide +kernel
theorem dX10_soonest_121 : decode cX10_soonest 121 = .ok (.iaload, 1) := by decide +kernel
theorem dX10_soonest_122 : decode cX10_soonest 122 = .ok (.iadd, 1) := by decide +kernel
theorem dX10_soonest_123 : decode cX10_soonest 123 = .ok (.istore_n 3, 1) := by decide +kernel
theorem dX10_soonest_124 : decode cX10_soonest 124 = .ok (.iinc 4 1, 3) := by decide +kernel
theorem dX10_soonest_127 : decode cX10_soonest 127 = .ok (.goto (-81), 3) := by decide +kernel
theorem dX10_soonest_130 : decode cX10_soonest 130 = .ok (.iconst (-1), 1) := by decide +kernel
theorem dX10_soonest_131 : decode cX10_soonest 131 = .ok (.ireturn, 1) := by decide +kernel
set_option maxRecDepth 20000 in
theorem ggX10_offer_X10_isCase : GoodIn wsX10_offer wsX10_isCase := goodIn_r _ [10, 11, 12, 13, 9, 14, 15, 16, 17, 18, 19, 20, 21, 22, 23, 24, 25, 26, 27, 28, 29, 30, 31, 32, 33, 34, 35, 36, 37, 38, 39, 40, 41, 42, 43, 44, 45, 46, 47, 48, 49, 50, 51, 52, 53] (by decide +kernel) (by decide +kernel)
set_option maxRecDepth 20000 in
theorem gX10_offer_X10_isCase : GoodIn wsX10_offer (wsV RX10 191 RX10 yX10_isCase wsX10_isCase) := goodIn_app (goodIn_of _ (by decide +kernel)) ggX10_offer_X10_isCase
set_option maxRecDepth 20000 in
theorem ggX10_offer_X10_in : GoodIn wsX10_offer wsX10_in := goodIn_r _ [14] (by decide +kernel) (by decide +kernel)
set_option maxRecDepth 20000 in
theorem gX10_offer_X10_in : GoodIn wsX10_offer (va_wsS RX10 90 yX10_in wsX10_in) := goodIn_app (goodIn_of _ (by decide +kernel)) ggX10_offer_X10_in
theorem dX10_offer_0 : decode cX10_offer 0 = .ok (.aload_n 0, 1) := by decide +kernel
theorem dX10_offer_1 : decode cX10_offer 1 = .ok (.iload_n 1, 1) := by decide +kernel
theorem dX10_offer_2 : decode cX10_offer 2 = .ok (.invokevirtual 191, 3) := by decide +kernel
theorem dX10_offer_5 : decode cX10_offer 5 = .ok (.ifCond .ne 6, 3) := by decide +kernel
theorem dX10_offer_8 : decode cX10_offer 8 = .ok (.ldc 190, 2) := by decide +kernel
theorem dX10_offer_10 : decode cX10_offer 10 = .ok (.ireturn, 1) := by decide +kernel
theorem dX10_offer_11 : decode cX10_offer 11 = .ok (.iload_n 2, 1) := by decide +kernel
theorem dX10_offer_12 : decode cX10_offer 12 = .ok (.i2l, 1) := by decide +kernel
theorem dX10_offer_13 : decode cX10_offer 13 = .ok (.lconst 0, 1) := by decide +kernel
theorem dX10_offer_14 : decode cX10_offer 14 = .ok (.ldc2_w 257, 3) := by decide +kernel
theorem dX10_offer_17 : decode cX10_offer 17 = .ok (.invokestatic 90, 3) := by decide +kernel
theorem dX10_offer_20 : decode cX10_offer 20 = .ok (.ifCond .eq 26, 3) := by decide +kernel
theorem dX10_offer_23 : decode cX10_offer 23 = .ok (.iload_n 3, 1) := by decide +kernel
theorem dX10_offer_24 : decode cX10_offer 24 = .ok (.i2l, 1) := by decide +kernel
theorem dX10_offer_25 : decode cX10_offer 25 = .ok (.lconst 0, 1) := by decide +kernel
theorem dX10_offer_26 : decode cX10_offer 26 = .ok (.ldc2_w 259, 3) := by decide +kernel
theorem dX10_offer_29 : decode cX10_offer 29 = .ok (.invokestatic 90, 3) := by decide +kernel
theorem dX10_offer_32 : decode cX10_offer 32 = .ok (.ifCond .eq 14, 3) := by decide +kernel
theorem dX10_offer_35 : decode cX10_offer 35 = .ok (.iload 4, 2) := by decide +kernel
theorem dX10_offer_37 : decode cX10_offer 37 = .ok (.i2l, 1) := by decide +kernel
theorem dX10_offer_38 : decode cX10_offer 38 = .ok (.lconst 0, 1) := by decide +kernel
theorem dX10_offer_39 : decode cX10_offer 39 = .ok (.lconst 1, 1) := by decide +kernel
theorem dX10_offer_40 : decode cX10_offer 40 = .ok (.invokestatic 90, 3) := by decide +kernel
theorem dX10_offer_43 : decode cX10_offer 43 = .ok (.ifCond .ne 6, 3) := by decide +kernel
theorem dX10_offer_46 : decode cX10_offer 46 = .ok (.ldc 101, 2) := by decide +kernel
theorem dX10_offer_48 : decode cX10_offer 48 = .ok (.ireturn, 1) := by decide +kernel
theorem dX10_offer_49 : decode cX10_offer 49 = .ok (.aload_n 0, 1) := by decide +kernel
theorem dX10_offer_50 : decode cX10_offer 50 = .ok (.getfield 25, 3) := by decide +kernel
theorem dX10_offer_53 : decode cX10_offer 53 = .ok (.iload_n 1, 1) := by decide +kernel
theorem dX10_offer_54 : decode cX10_offer 54 = .ok (.iaload, 1) := by decide +kernel
theorem dX10_offer_55 : decode cX10_offer 55 = .ok (.iload_n 2, 1) := by decide +kernel
theorem dX10_offer_56 : decode cX10_offer 56 = .ok (.imul, 1) := by decide +kernel
theorem dX10_offer_57 : decode cX10_offer 57 = .ok (.bipush 100, 2) := by decide +kernel
theorem dX10_offer_59 : decode cX10_offer 59 = .ok (.idiv, 1) := by decide +kernel
theorem dX10_offer_60 : decode cX10_offer 60 = .ok (.istore 5, 2) := by decide +kernel
theorem dX10_offer_62 : decode cX10_offer 62 = .ok (.iload 4, 2) := by decide +kernel
theorem dX10_offer_64 : decode cX10_offer 64 = .ok (.iconst 1, 1) := by decide +kernel
theorem dX10_offer_65 : decode cX10_offer 65 = .ok (.if_icmp .ne 10, 3) := by decide +kernel
theorem dX10_offer_68 : decode cX10_offer 68 = .ok (.iload 5, 2) := by decide +kernel
theorem dX10_offer_70 : decode cX10_offer 70 = .ok (.iload_n 3, 1) := by decide +kernel
theorem dX10_offer_71 : decode cX10_offer 71 = .ok (.iadd, 1) := by decide +kernel
theorem dX10_offer_72 : decode cX10_offer 72 = .ok (.goto 17, 3) := by decide +kernel
theorem dX10_offer_75 : decode cX10_offer 75 = .ok (.iload 5, 2) := by decide +kernel
theorem dX10_offer_77 : decode cX10_offer 77 = .ok (.iload_n 3, 1) := by decide +kernel
theorem dX10_offer_78 : decode cX10_offer 78 = .ok (.if_icmp .le 10, 3) := by decide +kernel
theorem dX10_offer_81 : decode cX10_offer 81 = .ok (.iload 5, 2) := by decide +kernel
theorem dX10_offer_83 : decode cX10_offer 83 = .ok (.iload_n 3, 1) := by decide +kernel
theorem dX10_offer_84 : decode cX10_offer 84 = .ok (.isub, 1) := by decide +kernel
theorem dX10_offer_85 : decode cX10_offer 85 = .ok (.goto 4, 3) := by decide +kernel
theorem dX10_offer_88 : decode cX10_offer 88 = .ok (.iconst 0, 1) := by decide +kernel
theorem dX10_offer_89 : decode cX10_offer 89 = .ok (.ireturn, 1) := by decide +kernel
set_option maxRecDepth 20000 in
theorem ggX10_calm_X10_in : GoodIn wsX10_calm wsX10_in := goodIn_r _ [8] (by decide +kernel) (by decide +kernel)
set_option maxRecDepth 20000 in
theorem gX10_calm_X10_in : GoodIn wsX10_calm (va_wsS RX10 90 yX10_in wsX10_in) := goodIn_app (goodIn_of _ (by decide +kernel)) ggX10_calm_X10_in
theorem dX10_calm_0 : decode cX10_calm 0 = .ok (.iload_n 1, 1) := by decide +kernel
theorem dX10_calm_1 : decode cX10_calm 1 = .ok (.i2l, 1) := by decide +kernel
theorem dX10_calm_2 : decode cX10_calm 2 = .ok (.lconst 0, 1) := by decide +kernel
theorem dX10_calm_3 : decode cX10_calm 3 = .ok (.ldc2_w 198, 3) := by decide +kernel
theorem dX10_calm_6 : decode cX10_calm 6 = .ok (.invokestatic 90, 3) := by decide +kernel
theorem dX10_calm_9 : decode cX10_calm 9 = .ok (.ifCond .eq 15, 3) := by decide +kernel
theorem dX10_calm_12 : decode cX10_calm 12 = .ok (.iload_n 2, 1) := by decide +kernel
theorem dX10_calm_13 : decode cX10_calm 13 = .ok (.i2l, 1) := by decide +kernel
theorem dX10_calm_14 : decode cX10_calm 14 = .ok (.lconst 0, 1) := by decide +kernel
theorem dX10_calm_15 : decode cX10_calm 15 = .ok (.ldc2_w 257, 3) := by decide +kernel
theorem dX10_calm_18 : decode cX10_calm 18 = .ok (.invokestatic 90, 3) := by decide +kernel
theorem dX10_calm_21 : decode cX10_calm 21 = .ok (.ifCond .ne 6, 3) := by decide +kernel
theorem dX10_calm_24 : decode cX10_calm 24 = .ok (.ldc 101, 2) := by decide +kernel
theorem dX10_calm_26 : decode cX10_calm 26 = .ok (.ireturn, 1) := by decide +kernel
theorem dX10_calm_27 : decode cX10_calm 27 = .ok (.ldc2_w 261, 3) := by decide +kernel
theorem dX10_calm_30 : decode cX10_calm 30 = .ok (.lstore_n 3, 1) := by decide +kernel
theorem dX10_calm_31 : decode cX10_calm 31 = .ok (.iconst 0, 1) := by decide +kernel
theorem dX10_calm_32 : decode cX10_calm 32 = .ok (.istore 5, 2) := by decide +kernel
theorem dX10_calm_34 : decode cX10_calm 34 = .ok (.iload 5, 2) := by decide +kernel
theorem dX10_calm_36 : decode cX10_calm 36 = .ok (.iload_n 1, 1) := by decide +kernel
theorem dX10_calm_37 : decode cX10_calm 37 = .ok (.if_icmp .ge 21, 3) := by decide +kernel
theorem dX10_calm_40 : decode cX10_calm 40 = .ok (.lload_n 3, 1) := by decide +kernel
theorem dX10_calm_41 : decode cX10_calm 41 = .ok (.bipush 100, 2) := by decide +kernel
theorem dX10_calm_43 : decode cX10_calm 43 = .ok (.iload_n 2, 1) := by decide +kernel
theorem dX10_calm_44 : decode cX10_calm 44 = .ok (.isub, 1) := by decide +kernel
theorem dX10_calm_45 : decode cX10_calm 45 = .ok (.i2l, 1) := by decide +kernel
theorem dX10_calm_46 : decode cX10_calm 46 = .ok (.lmul, 1) := by decide +kernel
theorem dX10_calm_47 : decode cX10_calm 47 = .ok (.ldc2_w 257, 3) := by decide +kernel
theorem dX10_calm_50 : decode cX10_calm 50 = .ok (.ldiv, 1) := by decide +kernel
theorem dX10_calm_51 : decode cX10_calm 51 = .ok (.lstore_n 3, 1) := by decide +kernel
theorem dX10_calm_52 : decode cX10_calm 52 = .ok (.iinc 5 1, 3) := by decide +kernel
theorem dX10_calm_55 : decode cX10_calm 55 = .ok (.goto (-21), 3) := by decide +kernel
theorem dX10_calm_58 : decode cX10_calm 58 = .ok (.lload_n 3, 1) := by decide +kernel
theorem dX10_calm_59 : decode cX10_calm 59 = .ok (.l2i, 1) := by decide +kernel
theorem dX10_calm_60 : decode cX10_calm 60 = .ok (.ireturn, 1) := by decide +kernel
set_option maxRecDepth 20000 in
theorem ggX10_shout_X10_in : GoodIn wsX10_shout wsX10_in := goodIn_r _ [10] (by decide +kernel) (by decide +kernel)
set_option maxRecDepth 20000 in
theorem gX10_shout_X10_in : GoodIn wsX10_shout (va_wsS RX10 90 yX10_in wsX10_in) := goodIn_app (goodIn_of _ (by decide +kernel)) ggX10_shout_X10_in
theorem dX10_shout_0 : decode cX10_shout 0 = .ok (.iload_n 1, 1) := by decide +kernel
theorem dX10_shout_1 : decode cX10_shout 1 = .ok (.i2l, 1) := by decide +kernel
theorem dX10_shout_2 : decode cX10_shout 2 = .ok (.lconst 0, 1) := by decide +kernel
theorem dX10_shout_3 : decode cX10_shout 3 = .ok (.ldc2_w 255, 3) := by decide +kernel
theorem dX10_shout_6 : decode cX10_shout 6 = .ok (.invokestatic 90, 3) := by decide +kernel
theorem dX10_shout_9 : decode cX10_shout 9 = .ok (.ifCond .ne 6, 3) := by decide +kernel
theorem dX10_shout_12 : decode cX10_shout 12 = .ok (.ldc 101, 2) := by decide +kernel
theorem dX10_shout_14 : decode cX10_shout 14 = .ok (.ireturn, 1) := by decide +kernel
theorem dX10_shout_15 : decode cX10_shout 15 = .ok (.aload_n 0, 1) := by decide +kernel
theorem dX10_shout_16 : decode cX10_shout 16 = .ok (.getfield 161, 3) := by decide +kernel
theorem dX10_shout_19 : decode cX10_shout 19 = .ok (.bipush 6, 2) := by decide +kernel
theorem dX10_shout_21 : decode cX10_shout 21 = .ok (.if_icmp .ne 6, 3) := by decide +kernel
theorem dX10_shout_24 : decode cX10_shout 24 = .ok (.ldc 105, 2) := by decide +kernel
theorem dX10_shout_26 : decode cX10_shout 26 = .ok (.ireturn, 1) := by decide +kernel
theorem dX10_shout_27 : decode cX10_shout 27 = .ok (.aload_n 0, 1) := by decide +kernel
theorem dX10_shout_28 : decode cX10_shout 28 = .ok (.getfield 68, 3) := by decide +kernel
theorem dX10_shout_31 : decode cX10_shout 31 = .ok (.aload_n 0, 1) := by decide +kernel
theorem dX10_shout_32 : decode cX10_shout 32 = .ok (.getfield 161, 3) := by decide +kernel
theorem dX10_shout_35 : decode cX10_shout 35 = .ok (.iload_n 1, 1) := by decide +kernel
theorem dX10_shout_36 : decode cX10_shout 36 = .ok (.iastore, 1) := by decide +kernel
theorem dX10_shout_37 : decode cX10_shout 37 = .ok (.aload_n 0, 1) := by decide +kernel
theorem dX10_shout_38 : decode cX10_shout 38 = .ok (.getfield 71, 3) := by decide +kernel
theorem dX10_shout_41 : decode cX10_shout 41 = .ok (.aload_n 0, 1) := by decide +kernel
theorem dX10_shout_42 : decode cX10_shout 42 = .ok (.getfield 161, 3) := by decide +kernel
theorem dX10_shout_45 : decode cX10_shout 45 = .ok (.iload_n 2, 1) := by decide +kernel
theorem dX10_shout_46 : decode cX10_shout 46 = .ok (.bastore, 1) := by decide +kernel
theorem dX10_shout_47 : decode cX10_shout 47 = .ok (.aload_n 0, 1) := by decide +kernel
theorem dX10_shout_48 : decode cX10_shout 48 = .ok (.dup, 1) := by decide +kernel
theorem dX10_shout_49 : decode cX10_shout 49 = .ok (.getfield 161, 3) := by decide +kernel
theorem dX10_shout_52 : decode cX10_shout 52 = .ok (.iconst 1, 1) := by decide +kernel
theorem dX10_shout_53 : decode cX10_shout 53 = .ok (.iadd, 1) := by decide +kernel
theorem dX10_shout_54 : decode cX10_shout 54 = .ok (.putfield 161, 3) := by decide +kernel
theorem dX10_shout_57 : decode cX10_shout 57 = .ok (.aload_n 0, 1) := by decide +kernel
theorem dX10_shout_58 : decode cX10_shout 58 = .ok (.getfield 161, 3) := by decide +kernel
theorem dX10_shout_61 : decode cX10_shout 61 = .ok (.ireturn, 1) := by decide +kernel
theorem dX10_bearsNow_0 : decode cX10_bearsNow 0 = .ok (.iconst 0, 1) := by decide +kernel
theorem dX10_bearsNow_1 : decode cX10_bearsNow 1 = .ok (.istore_n 1, 1) := by decide +kernel
theorem dX10_bearsNow_2 : decode cX10_bearsNow 2 = .ok (.iconst 0, 1) := by decide +kernel
theorem dX10_bearsNow_3 : decode cX10_bearsNow 3 = .ok (.istore_n 2, 1) := by decide +kernel
theorem dX10_bearsNow_4 : decode cX10_bearsNow 4 = .ok (.iload_n 2, 1) := by decide +kernel
theorem dX10_bearsNow_5 : decode cX10_bearsNow 5 = .ok (.bipush 11, 2) := by decide +kernel
theorem dX10_bearsNow_7 : decode cX10_bearsNow 7 = .ok (.if_icmp .ge 79, 3) := by decide +kernel
theorem dX10_bearsNow_10 : decode cX10_bearsNow 10 = .ok (.iconst 1, 1) := by decide +kernel
theorem dX10_bearsNow_11 : decode cX10_bearsNow 11 = .ok (.istore_n 3, 1) := by decide +kernel
theorem dX10_bearsNow_12 : decode cX10_bearsNow 12 = .ok (.iconst 0, 1) := by decide +kernel
theorem dX10_bearsNow_13 : decode cX10_bearsNow 13 = .ok (.istore 4, 2) := by decide +kernel
theorem dX10_bearsNow_15 : decode cX10_bearsNow 15 = .ok (.iload 4, 2) := by decide +kernel
theorem dX10_bearsNow_17 : decode cX10_bearsNow 17 = .ok (.aload_n 0, 1) := by decide +kernel
theorem dX10_bearsNow_18 : decode cX10_bearsNow 18 = .ok (.getfield 161, 3) := by decide +kernel
theorem dX10_bearsNow_21 : decode cX10_bearsNow 21 = .ok (.if_icmp .ge 45, 3) := by decide +kernel
theorem dX10_bearsNow_24 : decode cX10_bearsNow 24 = .ok (.iload_n 3, 1) := by decide +kernel
theorem dX10_bearsNow_25 : decode cX10_bearsNow 25 = .ok (.ifCond .eq 33, 3) := by decide +kernel
theorem dX10_bearsNow_28 : decode cX10_bearsNow 28 = .ok (.aload_n 0, 1) := by decide +kernel
theorem dX10_bearsNow_29 : decode cX10_bearsNow 29 = .ok (.getfield 68, 3) := by decide +kernel
theorem dX10_bearsNow_32 : decode cX10_bearsNow 32 = .ok (.iload 4, 2) := by decide +kernel
theorem dX10_bearsNow_34 : decode cX10_bearsNow 34 = .ok (.iaload, 1) := by decide +kernel
theorem dX10_bearsNow_35 : decode cX10_bearsNow 35 = .ok (.iload_n 2, 1) := by decide +kernel
theorem dX10_bearsNow_36 : decode cX10_bearsNow 36 = .ok (.if_icmp .le 7, 3) := by decide +kernel
theorem dX10_bearsNow_39 : decode cX10_bearsNow 39 = .ok (.iconst 1, 1) := by decide +kernel
theorem dX10_bearsNow_40 : decode cX10_bearsNow 40 = .ok (.goto 4, 3) := by decide +kernel
theorem dX10_bearsNow_43 : decode cX10_bearsNow 43 = .ok (.iconst 0, 1) := by decide +kernel
theorem dX10_bearsNow_44 : decode cX10_bearsNow 44 = .ok (.aload_n 0, 1) := by decide +kernel
theorem dX10_bearsNow_45 : decode cX10_bearsNow 45 = .ok (.getfield 71, 3) := by decide +kernel
theorem dX10_bearsNow_48 : decode cX10_bearsNow 48 = .ok (.iload 4, 2) := by decide +kernel
theorem dX10_bearsNow_50 : decode cX10_bearsNow 50 = .ok (.baload, 1) := by decide +kernel
theorem dX10_bearsNow_51 : decode cX10_bearsNow 51 = .ok (.if_icmp .ne 7, 3) := by decide +kernel
theorem dX10_bearsNow_54 : decode cX10_bearsNow 54 = .ok (.iconst 1, 1) := by decide +kernel
theorem dX10_bearsNow_55 : decode cX10_bearsNow 55 = .ok (.goto 4, 3) := by decide +kernel
theorem dX10_bearsNow_58 : decode cX10_bearsNow 58 = .ok (.iconst 0, 1) := by decide +kernel
theorem dX10_bearsNow_59 : decode cX10_bearsNow 59 = .ok (.istore_n 3, 1) := by decide +kernel
theorem dX10_bearsNow_60 : decode cX10_bearsNow 60 = .ok (.iinc 4 1, 3) := by decide +kernel
theorem dX10_bearsNow_63 : decode cX10_bearsNow 63 = .ok (.goto (-48), 3) := by decide +kernel
theorem dX10_bearsNow_66 : decode cX10_bearsNow 66 = .ok (.iload_n 1, 1) := by decide +kernel
theorem dX10_bearsNow_67 : decode cX10_bearsNow 67 = .ok (.iload_n 3, 1) := by decide +kernel
theorem dX10_bearsNow_68 : decode cX10_bearsNow 68 = .ok (.ifCond .eq 9, 3) := by decide +kernel
theorem dX10_bearsNow_71 : decode cX10_bearsNow 71 = .ok (.iconst 1, 1) := by decide +kernel
theorem dX10_bearsNow_72 : decode cX10_bearsNow 72 = .ok (.iload_n 2, 1) := by decide +kernel
theorem dX10_bearsNow_73 : decode cX10_bearsNow 73 = .ok (.ishl, 1) := by decide +kernel
theorem dX10_bearsNow_74 : decode cX10_bearsNow 74 = .ok (.goto 4, 3) := by decide +kernel
theorem dX10_bearsNow_77 : decode cX10_bearsNow 77 = .ok (.iconst 0, 1) := by decide +kernel
theorem dX10_bearsNow_78 : decode cX10_bearsNow 78 = .ok (.ior, 1) := by decide +kernel
theorem dX10_bearsNow_79 : decode cX10_bearsNow 79 = .ok (.istore_n 1, 1) := by decide +kernel
theorem dX10_bearsNow_80 : decode cX10_bearsNow 80 = .ok (.iinc 2 1, 3) := by decide +kernel
theorem dX10_bearsNow_83 : decode cX10_bearsNow 83 = .ok (.goto (-79), 3) := by decide +kernel
theorem dX10_bearsNow_86 : decode cX10_bearsNow 86 = .ok (.iload_n 1, 1) := by decide +kernel
theorem dX10_bearsNow_87 : decode cX10_bearsNow 87 = .ok (.ireturn, 1) := by decide +kernel
set_option maxRecDepth 20000 in
theorem ggX10_bears_X10_bearsNow : GoodIn wsX10_bears wsX10_bearsNow := goodIn_r _ [5, 6, 7, 8, 9, 10, 11, 12, 13, 14, 15, 16, 17, 18, 19, 20, 21, 22, 23, 24, 25, 26, 27, 28, 29, 30, 31, 32, 33, 34, 35, 36, 37, 38, 39, 40, 41, 42, 43, 44, 45, 46, 47] (by decide +kernel) (by decide +kernel)
set_option maxRecDepth 20000 in
theorem gX10_bears_X10_bearsNow : GoodIn wsX10_bears (wsV RX10 263 RX10 yX10_bearsNow wsX10_bearsNow) := goodIn_app (goodIn_of _ (by decide +kernel)) ggX10_bears_X10_bearsNow
theorem dX10_bears_0 : decode cX10_bears 0 = .ok (.aload_n 0, 1) := by decide +kernel
theorem dX10_bears_1 : decode cX10_bears 1 = .ok (.invokevirtual 263, 3) := by decide +kernel
theorem dX10_bears_4 : decode cX10_bears 4 = .ok (.ireturn, 1) := by decide +kernel
set_option maxRecDepth 20000 in
theorem ggX10_listen_X10_bearsNow : GoodIn wsX10_listen wsX10_bearsNow := goodIn_r _ [5, 6, 7, 8, 9, 10, 11, 12, 13, 14, 15, 16, 17, 18, 19, 20, 21, 22, 23, 24, 25, 26, 27, 28, 29, 30, 31, 32, 33, 34, 35, 36, 37, 38, 39, 40, 41, 42, 43, 44, 45, 46, 47] (by decide +kernel) (by decide +kernel)
set_option maxRecDepth 20000 in
theorem gX10_listen_X10_bearsNow : GoodIn wsX10_listen (wsV RX10 263 RX10 yX10_bearsNow wsX10_bearsNow) := goodIn_app (goodIn_of _ (by decide +kernel)) ggX10_listen_X10_bearsNow
theorem dX10_listen_0 : decode cX10_listen 0 = .ok (.aload_n 0, 1) := by decide +kernel
theorem dX10_listen_1 : decode cX10_listen 1 = .ok (.invokevirtual 263, 3) := by decide +kernel
theorem dX10_listen_4 : decode cX10_listen 4 = .ok (.istore_n 1, 1) := by decide +kernel
theorem dX10_listen_5 : decode cX10_listen 5 = .ok (.iconst 0, 1) := by decide +kernel
theorem dX10_listen_6 : decode cX10_listen 6 = .ok (.istore_n 2, 1) := by decide +kernel
theorem dX10_listen_7 : decode cX10_listen 7 = .ok (.iconst 0, 1) := by decide +kernel
theorem dX10_listen_8 : decode cX10_listen 8 = .ok (.istore_n 3, 1) := by decide +kernel
theorem dX10_listen_9 : decode cX10_listen 9 = .ok (.iload_n 3, 1) := by decide +kernel
theorem dX10_listen_10 : decode cX10_listen 10 = .ok (.bipush 11, 2) := by decide +kernel
theorem dX10_listen_12 : decode cX10_listen 12 = .ok (.if_icmp .ge 17, 3) := by decide +kernel
theorem dX10_listen_15 : decode cX10_listen 15 = .ok (.iload_n 2, 1) := by decide +kernel
theorem dX10_listen_16 : decode cX10_listen 16 = .ok (.iload_n 1, 1) := by decide +kernel
theorem dX10_listen_17 : decode cX10_listen 17 = .ok (.iload_n 3, 1) := by decide +kernel
theorem dX10_listen_18 : decode cX10_listen 18 = .ok (.ishr, 1) := by decide +kernel
theorem dX10_listen_19 : decode cX10_listen 19 = .ok (.iconst 1, 1) := by decide +kernel
theorem dX10_listen_20 : decode cX10_listen 20 = .ok (.iand, 1) := by decide +kernel
theorem dX10_listen_21 : decode cX10_listen 21 = .ok (.iadd, 1) := by decide +kernel
theorem dX10_listen_22 : decode cX10_listen 22 = .ok (.istore_n 2, 1) := by decide +kernel
theorem dX10_listen_23 : decode cX10_listen 23 = .ok (.iinc 3 1, 3) := by decide +kernel
theorem dX10_listen_26 : decode cX10_listen 26 = .ok (.goto (-17), 3) := by decide +kernel
theorem dX10_listen_29 : decode cX10_listen 29 = .ok (.iconst (-1), 1) := by decide +kernel
theorem dX10_listen_30 : decode cX10_listen 30 = .ok (.istore_n 3, 1) := by decide +kernel
theorem dX10_listen_31 : decode cX10_listen 31 = .ok (.iload_n 2, 1) := by decide +kernel
theorem dX10_listen_32 : decode cX10_listen 32 = .ok (.istore 4, 2) := by decide +kernel
theorem dX10_listen_34 : decode cX10_listen 34 = .ok (.iconst 0, 1) := by decide +kernel
theorem dX10_listen_35 : decode cX10_listen 35 = .ok (.istore 5, 2) := by decide +kernel
theorem dX10_listen_37 : decode cX10_listen 37 = .ok (.iload 5, 2) := by decide +kernel
theorem dX10_listen_39 : decode cX10_listen 39 = .ok (.bipush 11, 2) := by decide +kernel
theorem dX10_listen_41 : decode cX10_listen 41 = .ok (.if_icmp .ge 89, 3) := by decide +kernel
theorem dX10_listen_44 : decode cX10_listen 44 = .ok (.iconst 0, 1) := by decide +kernel
theorem dX10_listen_45 : decode cX10_listen 45 = .ok (.istore 6, 2) := by decide +kernel
theorem dX10_listen_47 : decode cX10_listen 47 = .ok (.iconst 0, 1) := by decide +kernel
theorem dX10_listen_48 : decode cX10_listen 48 = .ok (.istore 7, 2) := by decide +kernel
theorem dX10_listen_50 : decode cX10_listen 50 = .ok (.iload 7, 2) := by decide +kernel
theorem dX10_listen_52 : decode cX10_listen 52 = .ok (.iload 5, 2) := by decide +kernel
theorem dX10_listen_54 : decode cX10_listen 54 = .ok (.if_icmp .ge 20, 3) := by decide +kernel
theorem dX10_listen_57 : decode cX10_listen 57 = .ok (.iload 6, 2) := by decide +kernel
theorem dX10_listen_59 : decode cX10_listen 59 = .ok (.iload_n 1, 1) := by decide +kernel
theorem dX10_listen_60 : decode cX10_listen 60 = .ok (.iload 7, 2) := by decide +kernel
theorem dX10_listen_62 : decode cX10_listen 62 = .ok (.ishr, 1) := by decide +kernel
theorem dX10_listen_63 : decode cX10_listen 63 = .ok (.iconst 1, 1) := by decide +kernel
theorem dX10_listen_64 : decode cX10_listen 64 = .ok (.iand, 1) := by decide +kernel
theorem dX10_listen_65 : decode cX10_listen 65 = .ok (.iadd, 1) := by decide +kernel
theorem dX10_listen_66 : decode cX10_listen 66 = .ok (.istore 6, 2) := by decide +kernel
theorem dX10_listen_68 : decode cX10_listen 68 = .ok (.iinc 7 1, 3) := by decide +kernel
theorem dX10_listen_71 : decode cX10_listen 71 = .ok (.goto (-21), 3) := by decide +kernel
theorem dX10_listen_74 : decode cX10_listen 74 = .ok (.iload 6, 2) := by decide +kernel
theorem dX10_listen_76 : decode cX10_listen 76 = .ok (.iload_n 2, 1) := by decide +kernel
theorem dX10_listen_77 : decode cX10_listen 77 = .ok (.iload 6, 2) := by decide +kernel
theorem dX10_listen_79 : decode cX10_listen 79 = .ok (.isub, 1) := by decide +kernel
theorem dX10_listen_80 : decode cX10_listen 80 = .ok (.if_icmp .le 8, 3) := by decide +kernel
theorem dX10_listen_83 : decode cX10_listen 83 = .ok (.iload 6, 2) := by decide +kernel
theorem dX10_listen_85 : decode cX10_listen 85 = .ok (.goto 7, 3) := by decide +kernel
theorem dX10_listen_88 : decode cX10_listen 88 = .ok (.iload_n 2, 1) := by decide +kernel
theorem dX10_listen_89 : decode cX10_listen 89 = .ok (.iload 6, 2) := by decide +kernel
theorem dX10_listen_91 : decode cX10_listen 91 = .ok (.isub, 1) := by decide +kernel
theorem dX10_listen_92 : decode cX10_listen 92 = .ok (.istore 7, 2) := by decide +kernel
theorem dX10_listen_94 : decode cX10_listen 94 = .ok (.iload 7, 2) := by decide +kernel
theorem dX10_listen_96 : decode cX10_listen 96 = .ok (.iload 4, 2) := by decide +kernel
theorem dX10_listen_98 : decode cX10_listen 98 = .ok (.if_icmp .ge 8, 3) := by decide +kernel
theorem dX10_listen_101 : decode cX10_listen 101 = .ok (.iload 5, 2) := by decide +kernel
theorem dX10_listen_103 : decode cX10_listen 103 = .ok (.goto 4, 3) := by decide +kernel
theorem dX10_listen_106 : decode cX10_listen 106 = .ok (.iload_n 3, 1) := by decide +kernel
theorem dX10_listen_107 : decode cX10_listen 107 = .ok (.istore_n 3, 1) := by decide +kernel
theorem dX10_listen_108 : decode cX10_listen 108 = .ok (.iload 7, 2) := by decide +kernel
theorem dX10_listen_110 : decode cX10_listen 110 = .ok (.iload 4, 2) := by decide +kernel
theorem dX10_listen_112 : decode cX10_listen 112 = .ok (.if_icmp .ge 8, 3) := by decide +kernel
theorem dX10_listen_115 : decode cX10_listen 115 = .ok (.iload 7, 2) := by decide +kernel
theorem dX10_listen_117 : decode cX10_listen 117 = .ok (.goto 5, 3) := by decide +kernel
theorem dX10_listen_120 : decode cX10_listen 120 = .ok (.iload 4, 2) := by decide +kernel
theorem dX10_listen_122 : decode cX10_listen 122 = .ok (.istore 4, 2) := by decide +kernel
theorem dX10_listen_124 : decode cX10_listen 124 = .ok (.iinc 5 1, 3) := by decide +kernel
theorem dX10_listen_127 : decode cX10_listen 127 = .ok (.goto (-90), 3) := by decide +kernel
theorem dX10_listen_130 : decode cX10_listen 130 = .ok (.iload_n 3, 1) := by decide +kernel
theorem dX10_listen_131 : decode cX10_listen 131 = .ok (.ireturn, 1) := by decide +kernel
set_option maxRecDepth 20000 in
theorem ggX10_write_X10_isCase : GoodIn wsX10_write wsX10_isCase := goodIn_r _ [12, 13, 14, 15, 11, 16, 17, 18, 19, 20, 21, 22, 23, 24, 25, 26, 27, 28, 29, 30, 31, 32, 33, 34, 35, 36, 37, 38, 39, 40, 41, 42, 43, 44, 45, 46, 47, 48, 49, 50, 51, 52, 53, 54, 55] (by decide +kernel) (by decide +kernel)
set_option maxRecDepth 20000 in
theorem gX10_write_X10_isCase : GoodIn wsX10_write (wsV RX10 191 RX10 yX10_isCase wsX10_isCase) := goodIn_app (goodIn_of _ (by decide +kernel)) ggX10_write_X10_isCase
set_option maxRecDepth 20000 in
theorem ggX10_write_X10_in : GoodIn wsX10_write wsX10_in := goodIn_r _ [16] (by decide +kernel) (by decide +kernel)
set_option maxRecDepth 20000 in
theorem gX10_write_X10_in : GoodIn wsX10_write (va_wsS RX10 90 yX10_in wsX10_in) := goodIn_app (goodIn_of _ (by decide +kernel)) ggX10_write_X10_in
theorem dX10_write_0 : decode cX10_write 0 = .ok (.aload_n 0, 1) := by decide +kernel
theorem dX10_write_1 : decode cX10_write 1 = .ok (.iload_n 1, 1) := by decide +kernel
theorem dX10_write_2 : decode cX10_write 2 = .ok (.invokevirtual 191, 3) := by decide +kernel
theorem dX10_write_5 : decode cX10_write 5 = .ok (.ifCond .ne 6, 3) := by decide +kernel
theorem dX10_write_8 : decode cX10_write 8 = .ok (.ldc 190, 2) := by decide +kernel
theorem dX10_write_10 : decode cX10_write 10 = .ok (.ireturn, 1) := by decide +kernel
theorem dX10_write_11 : decode cX10_write 11 = .ok (.iload_n 2, 1) := by decide +kernel
theorem dX10_write_12 : decode cX10_write 12 = .ok (.i2l, 1) := by decide +kernel
theorem dX10_write_13 : decode cX10_write 13 = .ok (.lconst 0, 1) := by decide +kernel
theorem dX10_write_14 : decode cX10_write 14 = .ok (.ldc2_w 247, 3) := by decide +kernel
theorem dX10_write_17 : decode cX10_write 17 = .ok (.invokestatic 90, 3) := by decide +kernel
theorem dX10_write_20 : decode cX10_write 20 = .ok (.ifCond .ne 6, 3) := by decide +kernel
theorem dX10_write_23 : decode cX10_write 23 = .ok (.ldc 101, 2) := by decide +kernel
theorem dX10_write_25 : decode cX10_write 25 = .ok (.ireturn, 1) := by decide +kernel
theorem dX10_write_26 : decode cX10_write 26 = .ok (.aload_n 0, 1) := by decide +kernel
theorem dX10_write_27 : decode cX10_write 27 = .ok (.getfield 164, 3) := by decide +kernel
theorem dX10_write_30 : decode cX10_write 30 = .ok (.bipush 15, 2) := by decide +kernel
theorem dX10_write_32 : decode cX10_write 32 = .ok (.if_icmp .ne 6, 3) := by decide +kernel
theorem dX10_write_35 : decode cX10_write 35 = .ok (.ldc 105, 2) := by decide +kernel
theorem dX10_write_37 : decode cX10_write 37 = .ok (.ireturn, 1) := by decide +kernel
theorem dX10_write_38 : decode cX10_write 38 = .ok (.aload_n 0, 1) := by decide +kernel
theorem dX10_write_39 : decode cX10_write 39 = .ok (.getfield 75, 3) := by decide +kernel
theorem dX10_write_42 : decode cX10_write 42 = .ok (.aload_n 0, 1) := by decide +kernel
theorem dX10_write_43 : decode cX10_write 43 = .ok (.getfield 164, 3) := by decide +kernel
theorem dX10_write_46 : decode cX10_write 46 = .ok (.iload_n 1, 1) := by decide +kernel
theorem dX10_write_47 : decode cX10_write 47 = .ok (.iastore, 1) := by decide +kernel
theorem dX10_write_48 : decode cX10_write 48 = .ok (.aload_n 0, 1) := by decide +kernel
theorem dX10_write_49 : decode cX10_write 49 = .ok (.getfield 78, 3) := by decide +kernel
theorem dX10_write_52 : decode cX10_write 52 = .ok (.aload_n 0, 1) := by decide +kernel
theorem dX10_write_53 : decode cX10_write 53 = .ok (.getfield 164, 3) := by decide +kernel
theorem dX10_write_56 : decode cX10_write 56 = .ok (.iload_n 2, 1) := by decide +kernel
theorem dX10_write_57 : decode cX10_write 57 = .ok (.iastore, 1) := by decide +kernel
theorem dX10_write_58 : decode cX10_write 58 = .ok (.aload_n 0, 1) := by decide +kernel
theorem dX10_write_59 : decode cX10_write 59 = .ok (.dup, 1) := by decide +kernel
theorem dX10_write_60 : decode cX10_write 60 = .ok (.getfield 164, 3) := by decide +kernel
theorem dX10_write_63 : decode cX10_write 63 = .ok (.iconst 1, 1) := by decide +kernel
theorem dX10_write_64 : decode cX10_write 64 = .ok (.iadd, 1) := by decide +kernel
theorem dX10_write_65 : decode cX10_write 65 = .ok (.putfield 164, 3) := by decide +kernel
theorem dX10_write_68 : decode cX10_write 68 = .ok (.aload_n 0, 1) := by decide +kernel
theorem dX10_write_69 : decode cX10_write 69 = .ok (.getfield 164, 3) := by decide +kernel
theorem dX10_write_72 : decode cX10_write 72 = .ok (.ireturn, 1) := by decide +kernel
theorem dX10_tear_0 : decode cX10_tear 0 = .ok (.aload_n 0, 1) := by decide +kernel
theorem dX10_tear_1 : decode cX10_tear 1 = .ok (.getfield 161, 3) := by decide +kernel
theorem dX10_tear_4 : decode cX10_tear 4 = .ok (.aload_n 0, 1) := by decide +kernel
theorem dX10_tear_5 : decode cX10_tear 5 = .ok (.getfield 164, 3) := by decide +kernel
theorem dX10_tear_8 : decode cX10_tear 8 = .ok (.iadd, 1) := by decide +kernel
theorem dX10_tear_9 : decode cX10_tear 9 = .ok (.istore_n 1, 1) := by decide +kernel
theorem dX10_tear_10 : decode cX10_tear 10 = .ok (.aload_n 0, 1) := by decide +kernel
theorem dX10_tear_11 : decode cX10_tear 11 = .ok (.iconst 0, 1) := by decide +kernel
theorem dX10_tear_12 : decode cX10_tear 12 = .ok (.putfield 161, 3) := by decide +kernel
theorem dX10_tear_15 : decode cX10_tear 15 = .ok (.aload_n 0, 1) := by decide +kernel
theorem dX10_tear_16 : decode cX10_tear 16 = .ok (.iconst 0, 1) := by decide +kernel
theorem dX10_tear_17 : decode cX10_tear 17 = .ok (.putfield 164, 3) := by decide +kernel
theorem dX10_tear_20 : decode cX10_tear 20 = .ok (.iload_n 1, 1) := by decide +kernel
theorem dX10_tear_21 : decode cX10_tear 21 = .ok (.ireturn, 1) := by decide +kernel
theorem dX10_judge_0 : decode cX10_judge 0 = .ok (.iconst 0, 1) := by decide +kernel
theorem dX10_judge_1 : decode cX10_judge 1 = .ok (.istore_n 1, 1) := by decide +kernel
theorem dX10_judge_2 : decode cX10_judge 2 = .ok (.iload_n 1, 1) := by decide +kernel
theorem dX10_judge_3 : decode cX10_judge 3 = .ok (.aload_n 0, 1) := by decide +kernel
theorem dX10_judge_4 : decode cX10_judge 4 = .ok (.getfield 164, 3) := by decide +kernel
theorem dX10_judge_7 : decode cX10_judge 7 = .ok (.if_icmp .ge 34, 3) := by decide +kernel
theorem dX10_judge_10 : decode cX10_judge 10 = .ok (.aload_n 0, 1) := by decide +kernel
theorem dX10_judge_11 : decode cX10_judge 11 = .ok (.getfield 28, 3) := by decide +kernel
theorem dX10_judge_14 : decode cX10_judge 14 = .ok (.bipush 12, 2) := by decide +kernel
theorem dX10_judge_16 : decode cX10_judge 16 = .ok (.aload_n 0, 1) := by decide +kernel
theorem dX10_judge_17 : decode cX10_judge 17 = .ok (.getfield 75, 3) := by decide +kernel
theorem dX10_judge_20 : decode cX10_judge 20 = .ok (.iload_n 1, 1) := by decide +kernel
theorem dX10_judge_21 : decode cX10_judge 21 = .ok (.iaload, 1) := by decide +kernel
theorem dX10_judge_22 : decode cX10_judge 22 = .ok (.iadd, 1) := by decide +kernel
theorem dX10_judge_23 : decode cX10_judge 23 = .ok (.iaload, 1) := by decide +kernel
theorem dX10_judge_24 : decode cX10_judge 24 = .ok (.aload_n 0, 1) := by decide +kernel
theorem dX10_judge_25 : decode cX10_judge 25 = .ok (.getfield 78, 3) := by decide +kernel
theorem dX10_judge_28 : decode cX10_judge 28 = .ok (.iload_n 1, 1) := by decide +kernel
theorem dX10_judge_29 : decode cX10_judge 29 = .ok (.iaload, 1) := by decide +kernel
theorem dX10_judge_30 : decode cX10_judge 30 = .ok (.if_icmp .eq 5, 3) := by decide +kernel
theorem dX10_judge_33 : decode cX10_judge 33 = .ok (.iload_n 1, 1) := by decide +kernel
theorem dX10_judge_34 : decode cX10_judge 34 = .ok (.ireturn, 1) := by decide +kernel
theorem dX10_judge_35 : decode cX10_judge 35 = .ok (.iinc 1 1, 3) := by decide +kernel
theorem dX10_judge_38 : decode cX10_judge 38 = .ok (.goto (-36), 3) := by decide +kernel
theorem dX10_judge_41 : decode cX10_judge 41 = .ok (.iconst (-1), 1) := by decide +kernel
theorem dX10_judge_42 : decode cX10_judge 42 = .ok (.ireturn, 1) := by decide +kernel
theorem dX10_seed_0 : decode cX10_seed 0 = .ok (.iload_n 1, 1) := by decide +kernel
theorem dX10_seed_1 : decode cX10_seed 1 = .ok (.ifCond .ge 6, 3) := by decide +kernel
theorem dX10_seed_4 : decode cX10_seed 4 = .ok (.ldc 101, 2) := by decide +kernel
theorem dX10_seed_6 : decode cX10_seed 6 = .ok (.ireturn, 1) := by decide +kernel
theorem dX10_seed_7 : decode cX10_seed 7 = .ok (.aload_n 0, 1) := by decide +kernel
theorem dX10_seed_8 : decode cX10_seed 8 = .ok (.getfield 222, 3) := by decide +kernel
theorem dX10_seed_11 : decode cX10_seed 11 = .ok (.istore_n 2, 1) := by decide +kernel
theorem dX10_seed_12 : decode cX10_seed 12 = .ok (.aload_n 0, 1) := by decide +kernel
theorem dX10_seed_13 : decode cX10_seed 13 = .ok (.iload_n 1, 1) := by decide +kernel
theorem dX10_seed_14 : decode cX10_seed 14 = .ok (.putfield 222, 3) := by decide +kernel
theorem dX10_seed_17 : decode cX10_seed 17 = .ok (.iload_n 2, 1) := by decide +kernel
theorem dX10_seed_18 : decode cX10_seed 18 = .ok (.ireturn, 1) := by decide +kernel
set_option maxRecDepth 20000 in
theorem ggX10_keep_X10_in : GoodIn wsX10_keep wsX10_in := goodIn_r _ [10] (by decide +kernel) (by decide +kernel)
set_option maxRecDepth 20000 in
theorem gX10_keep_X10_in : GoodIn wsX10_keep (va_wsS RX10 90 yX10_in wsX10_in) := goodIn_app (goodIn_of _ (by decide +kernel)) ggX10_keep_X10_in
theorem dX10_keep_0 : decode cX10_keep 0 = .ok (.iload_n 1, 1) := by decide +kernel
theorem dX10_keep_1 : decode cX10_keep 1 = .ok (.i2l, 1) := by decide +kernel
theorem dX10_keep_2 : decode cX10_keep 2 = .ok (.lconst 0, 1) := by decide +kernel
theorem dX10_keep_3 : decode cX10_keep 3 = .ok (.lconst 1, 1) := by decide +kernel
theorem dX10_keep_4 : decode cX10_keep 4 = .ok (.invokestatic 90, 3) := by decide +kernel
theorem dX10_keep_7 : decode cX10_keep 7 = .ok (.ifCond .ne 6, 3) := by decide +kernel
theorem dX10_keep_10 : decode cX10_keep 10 = .ok (.ldc 190, 2) := by decide +kernel
theorem dX10_keep_12 : decode cX10_keep 12 = .ok (.ireturn, 1) := by decide +kernel
theorem dX10_keep_13 : decode cX10_keep 13 = .ok (.iconst 0, 1) := by decide +kernel
theorem dX10_keep_14 : decode cX10_keep 14 = .ok (.istore_n 2, 1) := by decide +kernel
theorem dX10_keep_15 : decode cX10_keep 15 = .ok (.iload_n 2, 1) := by decide +kernel
theorem dX10_keep_16 : decode cX10_keep 16 = .ok (.bipush 23, 2) := by decide +kernel
theorem dX10_keep_18 : decode cX10_keep 18 = .ok (.if_icmp .ge 26, 3) := by decide +kernel
theorem dX10_keep_21 : decode cX10_keep 21 = .ok (.aload_n 0, 1) := by decide +kernel
theorem dX10_keep_22 : decode cX10_keep 22 = .ok (.getfield 81, 3) := by decide +kernel
theorem dX10_keep_25 : decode cX10_keep 25 = .ok (.bipush 24, 2) := by decide +kernel
theorem dX10_keep_27 : decode cX10_keep 27 = .ok (.iload_n 1, 1) := by decide +kernel
theorem dX10_keep_28 : decode cX10_keep 28 = .ok (.imul, 1) := by decide +kernel
theorem dX10_keep_29 : decode cX10_keep 29 = .ok (.iload_n 2, 1) := by decide +kernel
theorem dX10_keep_30 : decode cX10_keep 30 = .ok (.iadd, 1) := by decide +kernel
theorem dX10_keep_31 : decode cX10_keep 31 = .ok (.aload_n 0, 1) := by decide +kernel
theorem dX10_keep_32 : decode cX10_keep 32 = .ok (.getfield 28, 3) := by decide +kernel
theorem dX10_keep_35 : decode cX10_keep 35 = .ok (.iload_n 2, 1) := by decide +kernel
theorem dX10_keep_36 : decode cX10_keep 36 = .ok (.iaload, 1) := by decide +kernel
theorem dX10_keep_37 : decode cX10_keep 37 = .ok (.iastore, 1) := by decide +kernel
theorem dX10_keep_38 : decode cX10_keep 38 = .ok (.iinc 2 1, 3) := by decide +kernel
theorem dX10_keep_41 : decode cX10_keep 41 = .ok (.goto (-26), 3) := by decide +kernel
theorem dX10_keep_44 : decode cX10_keep 44 = .ok (.aload_n 0, 1) := by decide +kernel
theorem dX10_keep_45 : decode cX10_keep 45 = .ok (.getfield 81, 3) := by decide +kernel
theorem dX10_keep_48 : decode cX10_keep 48 = .ok (.bipush 24, 2) := by decide +kernel
theorem dX10_keep_50 : decode cX10_keep 50 = .ok (.iload_n 1, 1) := by decide +kernel
theorem dX10_keep_51 : decode cX10_keep 51 = .ok (.imul, 1) := by decide +kernel
theorem dX10_keep_52 : decode cX10_keep 52 = .ok (.bipush 23, 2) := by decide +kernel
theorem dX10_keep_54 : decode cX10_keep 54 = .ok (.iadd, 1) := by decide +kernel
theorem dX10_keep_55 : decode cX10_keep 55 = .ok (.aload_n 0, 1) := by decide +kernel
theorem dX10_keep_56 : decode cX10_keep 56 = .ok (.getfield 222, 3) := by decide +kernel
theorem dX10_keep_59 : decode cX10_keep 59 = .ok (.iastore, 1) := by decide +kernel
theorem dX10_keep_60 : decode cX10_keep 60 = .ok (.aload_n 0, 1) := by decide +kernel
theorem dX10_keep_61 : decode cX10_keep 61 = .ok (.getfield 84, 3) := by decide +kernel
theorem dX10_keep_64 : decode cX10_keep 64 = .ok (.iload_n 1, 1) := by decide +kernel
theorem dX10_keep_65 : decode cX10_keep 65 = .ok (.iconst 1, 1) := by decide +kernel
theorem dX10_keep_66 : decode cX10_keep 66 = .ok (.bastore, 1) := by decide +kernel
theorem dX10_keep_67 : decode cX10_keep 67 = .ok (.aload_n 0, 1) := by decide +kernel
theorem dX10_keep_68 : decode cX10_keep 68 = .ok (.iconst 0, 1) := by decide +kernel
theorem dX10_keep_69 : decode cX10_keep 69 = .ok (.putfield 167, 3) := by decide +kernel
theorem dX10_keep_72 : decode cX10_keep 72 = .ok (.iconst 1, 1) := by decide +kernel
theorem dX10_keep_73 : decode cX10_keep 73 = .ok (.ireturn, 1) := by decide +kernel
set_option maxRecDepth 20000 in
theorem ggX10_goBack_X10_in : GoodIn wsX10_goBack wsX10_in := goodIn_r _ [11] (by decide +kernel) (by decide +kernel)
set_option maxRecDepth 20000 in
theorem gX10_goBack_X10_in : GoodIn wsX10_goBack (va_wsS RX10 90 yX10_in wsX10_in) := goodIn_app (goodIn_of _ (by decide +kernel)) ggX10_goBack_X10_in
theorem dX10_goBack_0 : decode cX10_goBack 0 = .ok (.iload_n 1, 1) := by decide +kernel
theorem dX10_goBack_1 : decode cX10_goBack 1 = .ok (.i2l, 1) := by decide +kernel
theorem dX10_goBack_2 : decode cX10_goBack 2 = .ok (.lconst 0, 1) := by decide +kernel
theorem dX10_goBack_3 : decode cX10_goBack 3 = .ok (.lconst 1, 1) := by decide +kernel
theorem dX10_goBack_4 : decode cX10_goBack 4 = .ok (.invokestatic 90, 3) := by decide +kernel
theorem dX10_goBack_7 : decode cX10_goBack 7 = .ok (.ifCond .ne 6, 3) := by decide +kernel
theorem dX10_goBack_10 : decode cX10_goBack 10 = .ok (.ldc 190, 2) := by decide +kernel
theorem dX10_goBack_12 : decode cX10_goBack 12 = .ok (.ireturn, 1) := by decide +kernel
theorem dX10_goBack_13 : decode cX10_goBack 13 = .ok (.aload_n 0, 1) := by decide +kernel
theorem dX10_goBack_14 : decode cX10_goBack 14 = .ok (.getfield 84, 3) := by decide +kernel
theorem dX10_goBack_17 : decode cX10_goBack 17 = .ok (.iload_n 1, 1) := by decide +kernel
theorem dX10_goBack_18 : decode cX10_goBack 18 = .ok (.baload, 1) := by decide +kernel
theorem dX10_goBack_19 : decode cX10_goBack 19 = .ok (.ifCond .ne 6, 3) := by decide +kernel
theorem dX10_goBack_22 : decode cX10_goBack 22 = .ok (.ldc 183, 2) := by decide +kernel
theorem dX10_goBack_24 : decode cX10_goBack 24 = .ok (.ireturn, 1) := by decide +kernel
theorem dX10_goBack_25 : decode cX10_goBack 25 = .ok (.iconst 0, 1) := by decide +kernel
theorem dX10_goBack_26 : decode cX10_goBack 26 = .ok (.istore_n 2, 1) := by decide +kernel
theorem dX10_goBack_27 : decode cX10_goBack 27 = .ok (.iload_n 2, 1) := by decide +kernel
theorem dX10_goBack_28 : decode cX10_goBack 28 = .ok (.bipush 23, 2) := by decide +kernel
theorem dX10_goBack_30 : decode cX10_goBack 30 = .ok (.if_icmp .ge 26, 3) := by decide +kernel
theorem dX10_goBack_33 : decode cX10_goBack 33 = .ok (.aload_n 0, 1) := by decide +kernel
theorem dX10_goBack_34 : decode cX10_goBack 34 = .ok (.getfield 28, 3) := by decide +kernel
theorem dX10_goBack_37 : decode cX10_goBack 37 = .ok (.iload_n 2, 1) := by decide +kernel
theorem dX10_goBack_38 : decode cX10_goBack 38 = .ok (.aload_n 0, 1) := by decide +kernel
theorem dX10_goBack_39 : decode cX10_goBack 39 = .ok (.getfield 81, 3) := by decide +kernel
theorem dX10_goBack_42 : decode cX10_goBack 42 = .ok (.bipush 24, 2) := by decide +kernel
theorem dX10_goBack_44 : decode cX10_goBack 44 = .ok (.iload_n 1, 1) := by decide +kernel
theorem dX10_goBack_45 : decode cX10_goBack 45 = .ok (.imul, 1) := by decide +kernel
theorem dX10_goBack_46 : decode cX10_goBack 46 = .ok (.iload_n 2, 1) := by decide +kernel
theorem dX10_goBack_47 : decode cX10_goBack 47 = .ok (.iadd, 1) := by decide +kernel
theorem dX10_goBack_48 : decode cX10_goBack 48 = .ok (.iaload, 1) := by decide +kernel
theorem dX10_goBack_49 : decode cX10_goBack 49 = .ok (.iastore, 1) := by decide +kernel
theorem dX10_goBack_50 : decode cX10_goBack 50 = .ok (.iinc 2 1, 3) := by decide +kernel
theorem dX10_goBack_53 : decode cX10_goBack 53 = .ok (.goto (-26), 3) := by decide +kernel
theorem dX10_goBack_56 : decode cX10_goBack 56 = .ok (.aload_n 0, 1) := by decide +kernel
theorem dX10_goBack_57 : decode cX10_goBack 57 = .ok (.aload_n 0, 1) := by decide +kernel
theorem dX10_goBack_58 : decode cX10_goBack 58 = .ok (.getfield 81, 3) := by decide +kernel
theorem dX10_goBack_61 : decode cX10_goBack 61 = .ok (.bipush 24, 2) := by decide +kernel
theorem dX10_goBack_63 : decode cX10_goBack 63 = .ok (.iload_n 1, 1) := by decide +kernel
theorem dX10_goBack_64 : decode cX10_goBack 64 = .ok (.imul, 1) := by decide +kernel
theorem dX10_goBack_65 : decode cX10_goBack 65 = .ok (.bipush 23, 2) := by decide +kernel
theorem dX10_goBack_67 : decode cX10_goBack 67 = .ok (.iadd, 1) := by decide +kernel
theorem dX10_goBack_68 : decode cX10_goBack 68 = .ok (.iaload, 1) := by decide +kernel
theorem dX10_goBack_69 : decode cX10_goBack 69 = .ok (.putfield 222, 3) := by decide +kernel
theorem dX10_goBack_72 : decode cX10_goBack 72 = .ok (.aload_n 0, 1) := by decide +kernel
theorem dX10_goBack_73 : decode cX10_goBack 73 = .ok (.iconst 0, 1) := by decide +kernel
theorem dX10_goBack_74 : decode cX10_goBack 74 = .ok (.putfield 167, 3) := by decide +kernel
theorem dX10_goBack_77 : decode cX10_goBack 77 = .ok (.iconst 1, 1) := by decide +kernel
theorem dX10_goBack_78 : decode cX10_goBack 78 = .ok (.ireturn, 1) := by decide +kernel
theorem dJ6_numberOfTrailingZeros_0f7a4_0 : decode cJ6_numberOfTrailingZeros_0f7a4 0 = .ok (.iload_n 0, 1) := by decide +kernel
theorem dJ6_numberOfTrailingZeros_0f7a4_1 : decode cJ6_numberOfTrailingZeros_0f7a4 1 = .ok (.iconst (-1), 1) := by decide +kernel
theorem dJ6_numberOfTrailingZeros_0f7a4_2 : decode cJ6_numberOfTrailingZeros_0f7a4 2 = .ok (.ixor, 1) := by decide +kernel
theorem dJ6_numberOfTrailingZeros_0f7a4_3 : decode cJ6_numberOfTrailingZeros_0f7a4 3 = .ok (.iload_n 0, 1) := by decide +kernel
theorem dJ6_numberOfTrailingZeros_0f7a4_4 : decode cJ6_numberOfTrailingZeros_0f7a4 4 = .ok (.iconst 1, 1) := by decide +kernel
theorem dJ6_numberOfTrailingZeros_0f7a4_5 : decode cJ6_numberOfTrailingZeros_0f7a4 5 = .ok (.isub, 1) := by decide +kernel
theorem dJ6_numberOfTrailingZeros_0f7a4_6 : decode cJ6_numberOfTrailingZeros_0f7a4 6 = .ok (.iand, 1) := by decide +kernel
theorem dJ6_numberOfTrailingZeros_0f7a4_7 : decode cJ6_numberOfTrailingZeros_0f7a4 7 = .ok (.istore_n 0, 1) := by decide +kernel
theorem dJ6_numberOfTrailingZeros_0f7a4_8 : decode cJ6_numberOfTrailingZeros_0f7a4 8 = .ok (.iload_n 0, 1) := by decide +kernel
theorem dJ6_numberOfTrailingZeros_0f7a4_9 : decode cJ6_numberOfTrailingZeros_0f7a4 9 = .ok (.ifCond .gt 8, 3) := by decide +kernel
theorem dJ6_numberOfTrailingZeros_0f7a4_12 : decode cJ6_numberOfTrailingZeros_0f7a4 12 = .ok (.iload_n 0, 1) := by decide +kernel
theorem dJ6_numberOfTrailingZeros_0f7a4_13 : decode cJ6_numberOfTrailingZeros_0f7a4 13 = .ok (.bipush 32, 2) := by decide +kernel
theorem dJ6_numberOfTrailingZeros_0f7a4_15 : decode cJ6_numberOfTrailingZeros_0f7a4 15 = .ok (.iand, 1) := by decide +kernel
theorem dJ6_numberOfTrailingZeros_0f7a4_16 : decode cJ6_numberOfTrailingZeros_0f7a4 16 = .ok (.ireturn, 1) := by decide +kernel
theorem dJ6_numberOfTrailingZeros_0f7a4_17 : decode cJ6_numberOfTrailingZeros_0f7a4 17 = .ok (.iconst 1, 1) := by decide +kernel
theorem dJ6_numberOfTrailingZeros_0f7a4_18 : decode cJ6_numberOfTrailingZeros_0f7a4 18 = .ok (.istore_n 1, 1) := by decide +kernel
theorem dJ6_numberOfTrailingZeros_0f7a4_19 : decode cJ6_numberOfTrailingZeros_0f7a4 19 = .ok (.iload_n 0, 1) := by decide +kernel
theorem dJ6_numberOfTrailingZeros_0f7a4_20 : decode cJ6_numberOfTrailingZeros_0f7a4 20 = .ok (.ldc_w 264, 3) := by decide +kernel
theorem dJ6_numberOfTrailingZeros_0f7a4_23 : decode cJ6_numberOfTrailingZeros_0f7a4 23 = .ok (.if_icmp .le 11, 3) := by decide +kernel
theorem dJ6_numberOfTrailingZeros_0f7a4_26 : decode cJ6_numberOfTrailingZeros_0f7a4 26 = .ok (.iinc 1 16, 3) := by decide +kernel
theorem dJ6_numberOfTrailingZeros_0f7a4_29 : decode cJ6_numberOfTrailingZeros_0f7a4 29 = .ok (.iload_n 0, 1) := by decide +kernel
theorem dJ6_numberOfTrailingZeros_0f7a4_30 : decode cJ6_numberOfTrailingZeros_0f7a4 30 = .ok (.bipush 16, 2) := by decide +kernel
theorem dJ6_numberOfTrailingZeros_0f7a4_32 : decode cJ6_numberOfTrailingZeros_0f7a4 32 = .ok (.iushr, 1) := by decide +kernel
theorem dJ6_numberOfTrailingZeros_0f7a4_33 : decode cJ6_numberOfTrailingZeros_0f7a4 33 = .ok (.istore_n 0, 1) := by decide +kernel
theorem dJ6_numberOfTrailingZeros_0f7a4_34 : decode cJ6_numberOfTrailingZeros_0f7a4 34 = .ok (.iload_n 0, 1) := by decide +kernel
theorem dJ6_numberOfTrailingZeros_0f7a4_35 : decode cJ6_numberOfTrailingZeros_0f7a4 35 = .ok (.sipush 256, 3) := by decide +kernel
theorem dJ6_numberOfTrailingZeros_0f7a4_38 : decode cJ6_numberOfTrailingZeros_0f7a4 38 = .ok (.if_icmp .le 11, 3) := by decide +kernel
theorem dJ6_numberOfTrailingZeros_0f7a4_41 : decode cJ6_numberOfTrailingZeros_0f7a4 41 = .ok (.iinc 1 8, 3) := by decide +kernel
theorem dJ6_numberOfTrailingZeros_0f7a4_44 : decode cJ6_numberOfTrailingZeros_0f7a4 44 = .ok (.iload_n 0, 1) := by decide +kernel
theorem dJ6_numberOfTrailingZeros_0f7a4_45 : decode cJ6_numberOfTrailingZeros_0f7a4 45 = .ok (.bipush 8, 2) := by decide +kernel
theorem dJ6_numberOfTrailingZeros_0f7a4_47 : decode cJ6_numberOfTrailingZeros_0f7a4 47 = .ok (.iushr, 1) := by decide +kernel
theorem dJ6_numberOfTrailingZeros_0f7a4_48 : decode cJ6_numberOfTrailingZeros_0f7a4 48 = .ok (.istore_n 0, 1) := by decide +kernel
theorem dJ6_numberOfTrailingZeros_0f7a4_49 : decode cJ6_numberOfTrailingZeros_0f7a4 49 = .ok (.iload_n 0, 1) := by decide +kernel
theorem dJ6_numberOfTrailingZeros_0f7a4_50 : decode cJ6_numberOfTrailingZeros_0f7a4 50 = .ok (.bipush 16, 2) := by decide +kernel
theorem dJ6_numberOfTrailingZeros_0f7a4_52 : decode cJ6_numberOfTrailingZeros_0f7a4 52 = .ok (.if_icmp .le 10, 3) := by decide +kernel
theorem dJ6_numberOfTrailingZeros_0f7a4_55 : decode cJ6_numberOfTrailingZeros_0f7a4 55 = .ok (.iinc 1 4, 3) := by decide +kernel
theorem dJ6_numberOfTrailingZeros_0f7a4_58 : decode cJ6_numberOfTrailingZeros_0f7a4 58 = .ok (.iload_n 0, 1) := by decide +kernel
theorem dJ6_numberOfTrailingZeros_0f7a4_59 : decode cJ6_numberOfTrailingZeros_0f7a4 59 = .ok (.iconst 4, 1) := by decide +kernel
theorem dJ6_numberOfTrailingZeros_0f7a4_60 : decode cJ6_numberOfTrailingZeros_0f7a4 60 = .ok (.iushr, 1) := by decide +kernel
theorem dJ6_numberOfTrailingZeros_0f7a4_61 : decode cJ6_numberOfTrailingZeros_0f7a4 61 = .ok (.istore_n 0, 1) := by decide +kernel
theorem dJ6_numberOfTrailingZeros_0f7a4_62 : decode cJ6_numberOfTrailingZeros_0f7a4 62 = .ok (.iload_n 0, 1) := by decide +kernel
theorem dJ6_numberOfTrailingZeros_0f7a4_63 : decode cJ6_numberOfTrailingZeros_0f7a4 63 = .ok (.iconst 4, 1) := by decide +kernel
theorem dJ6_numberOfTrailingZeros_0f7a4_64 : decode cJ6_numberOfTrailingZeros_0f7a4 64 = .ok (.if_icmp .le 10, 3) := by decide +kernel
theorem dJ6_numberOfTrailingZeros_0f7a4_67 : decode cJ6_numberOfTrailingZeros_0f7a4 67 = .ok (.iinc 1 2, 3) := by decide +kernel
theorem dJ6_numberOfTrailingZeros_0f7a4_70 : decode cJ6_numberOfTrailingZeros_0f7a4 70 = .ok (.iload_n 0, 1) := by decide +kernel
theorem dJ6_numberOfTrailingZeros_0f7a4_71 : decode cJ6_numberOfTrailingZeros_0f7a4 71 = .ok (.iconst 2, 1) := by decide +kernel
theorem dJ6_numberOfTrailingZeros_0f7a4_72 : decode cJ6_numberOfTrailingZeros_0f7a4 72 = .ok (.iushr, 1) := by decide +kernel
theorem dJ6_numberOfTrailingZeros_0f7a4_73 : decode cJ6_numberOfTrailingZeros_0f7a4 73 = .ok (.istore_n 0, 1) := by decide +kernel
theorem dJ6_numberOfTrailingZeros_0f7a4_74 : decode cJ6_numberOfTrailingZeros_0f7a4 74 = .ok (.iload_n 1, 1) := by decide +kernel
theorem dJ6_numberOfTrailingZeros_0f7a4_75 : decode cJ6_numberOfTrailingZeros_0f7a4 75 = .ok (.iload_n 0, 1) := by decide +kernel
theorem dJ6_numberOfTrailingZeros_0f7a4_76 : decode cJ6_numberOfTrailingZeros_0f7a4 76 = .ok (.iconst 1, 1) := by decide +kernel
theorem dJ6_numberOfTrailingZeros_0f7a4_77 : decode cJ6_numberOfTrailingZeros_0f7a4 77 = .ok (.iushr, 1) := by decide +kernel
theorem dJ6_numberOfTrailingZeros_0f7a4_78 : decode cJ6_numberOfTrailingZeros_0f7a4 78 = .ok (.iadd, 1) := by decide +kernel
theorem dJ6_numberOfTrailingZeros_0f7a4_79 : decode cJ6_numberOfTrailingZeros_0f7a4 79 = .ok (.ireturn, 1) := by decide +kernel
theorem dJ6_bitCount_0f7a4_0 : decode cJ6_bitCount_0f7a4 0 = .ok (.iload_n 0, 1) := by decide +kernel
theorem dJ6_bitCount_0f7a4_1 : decode cJ6_bitCount_0f7a4 1 = .ok (.iload_n 0, 1) := by decide +kernel
theorem dJ6_bitCount_0f7a4_2 : decode cJ6_bitCount_0f7a4 2 = .ok (.iconst 1, 1) := by decide +kernel
theorem dJ6_bitCount_0f7a4_3 : decode cJ6_bitCount_0f7a4 3 = .ok (.iushr, 1) := by decide +kernel
theorem dJ6_bitCount_0f7a4_4 : decode cJ6_bitCount_0f7a4 4 = .ok (.ldc_w 265, 3) := by decide +kernel
theorem dJ6_bitCount_0f7a4_7 : decode cJ6_bitCount_0f7a4 7 = .ok (.iand, 1) := by decide +kernel
theorem dJ6_bitCount_0f7a4_8 : decode cJ6_bitCount_0f7a4 8 = .ok (.isub, 1) := by decide +kernel
theorem dJ6_bitCount_0f7a4_9 : decode cJ6_bitCount_0f7a4 9 = .ok (.istore_n 0, 1) := by decide +kernel
theorem dJ6_bitCount_0f7a4_10 : decode cJ6_bitCount_0f7a4 10 = .ok (.iload_n 0, 1) := by decide +kernel
theorem dJ6_bitCount_0f7a4_11 : decode cJ6_bitCount_0f7a4 11 = .ok (.ldc_w 266, 3) := by decide +kernel
theorem dJ6_bitCount_0f7a4_14 : decode cJ6_bitCount_0f7a4 14 = .ok (.iand, 1) := by decide +kernel
theorem dJ6_bitCount_0f7a4_15 : decode cJ6_bitCount_0f7a4 15 = .ok (.iload_n 0, 1) := by decide +kernel
theorem dJ6_bitCount_0f7a4_16 : decode cJ6_bitCount_0f7a4 16 = .ok (.iconst 2, 1) := by decide +kernel
theorem dJ6_bitCount_0f7a4_17 : decode cJ6_bitCount_0f7a4 17 = .ok (.iushr, 1) := by decide +kernel
theorem dJ6_bitCount_0f7a4_18 : decode cJ6_bitCount_0f7a4 18 = .ok (.ldc_w 266, 3) := by decide +kernel
theorem dJ6_bitCount_0f7a4_21 : decode cJ6_bitCount_0f7a4 21 = .ok (.iand, 1) := by decide +kernel
theorem dJ6_bitCount_0f7a4_22 : decode cJ6_bitCount_0f7a4 22 = .ok (.iadd, 1) := by decide +kernel
theorem dJ6_bitCount_0f7a4_23 : decode cJ6_bitCount_0f7a4 23 = .ok (.istore_n 0, 1) := by decide +kernel
theorem dJ6_bitCount_0f7a4_24 : decode cJ6_bitCount_0f7a4 24 = .ok (.iload_n 0, 1) := by decide +kernel
theorem dJ6_bitCount_0f7a4_25 : decode cJ6_bitCount_0f7a4 25 = .ok (.iload_n 0, 1) := by decide +kernel
theorem dJ6_bitCount_0f7a4_26 : decode cJ6_bitCount_0f7a4 26 = .ok (.iconst 4, 1) := by decide +kernel
theorem dJ6_bitCount_0f7a4_27 : decode cJ6_bitCount_0f7a4 27 = .ok (.iushr, 1) := by decide +kernel
theorem dJ6_bitCount_0f7a4_28 : decode cJ6_bitCount_0f7a4 28 = .ok (.iadd, 1) := by decide +kernel
theorem dJ6_bitCount_0f7a4_29 : decode cJ6_bitCount_0f7a4 29 = .ok (.ldc_w 267, 3) := by decide +kernel
theorem dJ6_bitCount_0f7a4_32 : decode cJ6_bitCount_0f7a4 32 = .ok (.iand, 1) := by decide +kernel
theorem dJ6_bitCount_0f7a4_33 : decode cJ6_bitCount_0f7a4 33 = .ok (.istore_n 0, 1) := by decide +kernel
theorem dJ6_bitCount_0f7a4_34 : decode cJ6_bitCount_0f7a4 34 = .ok (.iload_n 0, 1) := by decide +kernel
theorem dJ6_bitCount_0f7a4_35 : decode cJ6_bitCount_0f7a4 35 = .ok (.iload_n 0, 1) := by decide +kernel
theorem dJ6_bitCount_0f7a4_36 : decode cJ6_bitCount_0f7a4 36 = .ok (.bipush 8, 2) := by decide +kernel
theorem dJ6_bitCount_0f7a4_38 : decode cJ6_bitCount_0f7a4 38 = .ok (.iushr, 1) := by decide +kernel
theorem dJ6_bitCount_0f7a4_39 : decode cJ6_bitCount_0f7a4 39 = .ok (.iadd, 1) := by decide +kernel
theorem dJ6_bitCount_0f7a4_40 : decode cJ6_bitCount_0f7a4 40 = .ok (.istore_n 0, 1) := by decide +kernel
theorem dJ6_bitCount_0f7a4_41 : decode cJ6_bitCount_0f7a4 41 = .ok (.iload_n 0, 1) := by decide +kernel
theorem dJ6_bitCount_0f7a4_42 : decode cJ6_bitCount_0f7a4 42 = .ok (.iload_n 0, 1) := by decide +kernel
theorem dJ6_bitCount_0f7a4_43 : decode cJ6_bitCount_0f7a4 43 = .ok (.bipush 16, 2) := by decide +kernel
theorem dJ6_bitCount_0f7a4_45 : decode cJ6_bitCount_0f7a4 45 = .ok (.iushr, 1) := by decide +kernel
theorem dJ6_bitCount_0f7a4_46 : decode cJ6_bitCount_0f7a4 46 = .ok (.iadd, 1) := by decide +kernel
theorem dJ6_bitCount_0f7a4_47 : decode cJ6_bitCount_0f7a4 47 = .ok (.istore_n 0, 1) := by decide +kernel
theorem dJ6_bitCount_0f7a4_48 : decode cJ6_bitCount_0f7a4 48 = .ok (.iload_n 0, 1) := by decide +kernel
theorem dJ6_bitCount_0f7a4_49 : decode cJ6_bitCount_0f7a4 49 = .ok (.bipush 63, 2) := by decide +kernel
theorem dJ6_bitCount_0f7a4_51 : decode cJ6_bitCount_0f7a4 51 = .ok (.iand, 1) := by decide +kernel
theorem dJ6_bitCount_0f7a4_52 : decode cJ6_bitCount_0f7a4 52 = .ok (.ireturn, 1) := by decide +kernel
theorem dJ9_abs_0f7a4_0 : decode cJ9_abs_0f7a4 0 = .ok (.iload_n 0, 1) := by decide +kernel
theorem dJ9_abs_0f7a4_1 : decode cJ9_abs_0f7a4 1 = .ok (.ifCond .ge 8, 3) := by decide +kernel
theorem dJ9_abs_0f7a4_4 : decode cJ9_abs_0f7a4 4 = .ok (.iload_n 0, 1) := by decide +kernel
theorem dJ9_abs_0f7a4_5 : decode cJ9_abs_0f7a4 5 = .ok (.ineg, 1) := by decide +kernel
theorem dJ9_abs_0f7a4_6 : decode cJ9_abs_0f7a4 6 = .ok (.goto 4, 3) := by decide +kernel
theorem dJ9_abs_0f7a4_9 : decode cJ9_abs_0f7a4 9 = .ok (.iload_n 0, 1) := by decide +kernel
theorem dJ9_abs_0f7a4_10 : decode cJ9_abs_0f7a4 10 = .ok (.ireturn, 1) := by decide +kernel
theorem dJ9_max_7cf53_0 : decode cJ9_max_7cf53 0 = .ok (.iload_n 0, 1) := by decide +kernel
theorem dJ9_max_7cf53_1 : decode cJ9_max_7cf53 1 = .ok (.iload_n 1, 1) := by decide +kernel
theorem dJ9_max_7cf53_2 : decode cJ9_max_7cf53 2 = .ok (.if_icmp .lt 7, 3) := by decide +kernel
theorem dJ9_max_7cf53_5 : decode cJ9_max_7cf53 5 = .ok (.iload_n 0, 1) := by decide +kernel
theorem dJ9_max_7cf53_6 : decode cJ9_max_7cf53 6 = .ok (.goto 4, 3) := by decide +kernel
theorem dJ9_max_7cf53_9 : decode cJ9_max_7cf53 9 = .ok (.iload_n 1, 1) := by decide +kernel
theorem dJ9_max_7cf53_10 : decode cJ9_max_7cf53 10 = .ok (.ireturn, 1) := by decide +kernel
theorem dJ9_min_7cf53_0 : decode cJ9_min_7cf53 0 = .ok (.iload_n 0, 1) := by decide +kernel
theorem dJ9_min_7cf53_1 : decode cJ9_min_7cf53 1 = .ok (.iload_n 1, 1) := by decide +kernel
theorem dJ9_min_7cf53_2 : decode cJ9_min_7cf53 2 = .ok (.if_icmp .gt 7, 3) := by decide +kernel
theorem dJ9_min_7cf53_5 : decode cJ9_min_7cf53 5 = .ok (.iload_n 0, 1) := by decide +kernel
theorem dJ9_min_7cf53_6 : decode cJ9_min_7cf53 6 = .ok (.goto 4, 3) := by decide +kernel
theorem dJ9_min_7cf53_9 : decode cJ9_min_7cf53 9 = .ok (.iload_n 1, 1) := by decide +kernel
theorem dJ9_min_7cf53_10 : decode cJ9_min_7cf53 10 = .ok (.ireturn, 1) := by decide +kernel
theorem dJ7_fill_53178_0 : decode cJ7_fill_53178 0 = .ok (.iconst 0, 1) := by decide +kernel
theorem dJ7_fill_53178_1 : decode cJ7_fill_53178 1 = .ok (.istore_n 2, 1) := by decide +kernel
theorem dJ7_fill_53178_2 : decode cJ7_fill_53178 2 = .ok (.aload_n 0, 1) := by decide +kernel
theorem dJ7_fill_53178_3 : decode cJ7_fill_53178 3 = .ok (.arraylength, 1) := by decide +kernel
theorem dJ7_fill_53178_4 : decode cJ7_fill_53178 4 = .ok (.istore_n 3, 1) := by decide +kernel
theorem dJ7_fill_53178_5 : decode cJ7_fill_53178 5 = .ok (.iload_n 2, 1) := by decide +kernel
theorem dJ7_fill_53178_6 : decode cJ7_fill_53178 6 = .ok (.iload_n 3, 1) := by decide +kernel
theorem dJ7_fill_53178_7 : decode cJ7_fill_53178 7 = .ok (.if_icmp .ge 13, 3) := by decide +kernel
theorem dJ7_fill_53178_10 : decode cJ7_fill_53178 10 = .ok (.aload_n 0, 1) := by decide +kernel
theorem dJ7_fill_53178_11 : decode cJ7_fill_53178 11 = .ok (.iload_n 2, 1) := by decide +kernel
theorem dJ7_fill_53178_12 : decode cJ7_fill_53178 12 = .ok (.iload_n 1, 1) := by decide +kernel
theorem dJ7_fill_53178_13 : decode cJ7_fill_53178 13 = .ok (.iastore, 1) := by decide +kernel
theorem dJ7_fill_53178_14 : decode cJ7_fill_53178 14 = .ok (.iinc 2 1, 3) := by decide +kernel
theorem dJ7_fill_53178_17 : decode cJ7_fill_53178 17 = .ok (.goto (-12), 3) := by decide +kernel
theorem dJ7_fill_53178_20 : decode cJ7_fill_53178 20 = .ok (.return_, 1) := by decide +kernel
