theorem dX0_init_0 : decode cX0_init 0 = .ok (.aload_n 0, 1) := by decide +kernel
theorem dX0_init_1 : decode cX0_init 1 = .ok (.invokespecial 3, 3) := by decide +kernel
theorem dX0_init_4 : decode cX0_init 4 = .ok (.aload_n 0, 1) := by decide +kernel
theorem dX0_init_5 : decode cX0_init 5 = .ok (.bipush 12, 2) := by decide +kernel
theorem dX0_init_7 : decode cX0_init 7 = .ok (.newarray .int, 2) := by decide +kernel
theorem dX0_init_9 : decode cX0_init 9 = .ok (.putfield 9, 3) := by decide +kernel
theorem dX0_init_12 : decode cX0_init 12 = .ok (.aload_n 0, 1) := by decide +kernel
theorem dX0_init_13 : decode cX0_init 13 = .ok (.iconst 4, 1) := by decide +kernel
theorem dX0_init_14 : decode cX0_init 14 = .ok (.newarray .int, 2) := by decide +kernel
theorem dX0_init_16 : decode cX0_init 16 = .ok (.putfield 15, 3) := by decide +kernel
theorem dX0_init_19 : decode cX0_init 19 = .ok (.aload_n 0, 1) := by decide +kernel
theorem dX0_init_20 : decode cX0_init 20 = .ok (.iconst 5, 1) := by decide +kernel
theorem dX0_init_21 : decode cX0_init 21 = .ok (.newarray .int, 2) := by decide +kernel
theorem dX0_init_23 : decode cX0_init 23 = .ok (.putfield 18, 3) := by decide +kernel
theorem dX0_init_26 : decode cX0_init 26 = .ok (.aload_n 0, 1) := by decide +kernel
theorem dX0_init_27 : decode cX0_init 27 = .ok (.iconst 5, 1) := by decide +kernel
theorem dX0_init_28 : decode cX0_init 28 = .ok (.newarray .int, 2) := by decide +kernel
theorem dX0_init_30 : decode cX0_init 30 = .ok (.putfield 21, 3) := by decide +kernel
theorem dX0_init_33 : decode cX0_init 33 = .ok (.aload_n 0, 1) := by decide +kernel
theorem dX0_init_34 : decode cX0_init 34 = .ok (.iconst 5, 1) := by decide +kernel
theorem dX0_init_35 : decode cX0_init 35 = .ok (.newarray .int, 2) := by decide +kernel
theorem dX0_init_37 : decode cX0_init 37 = .ok (.putfield 24, 3) := by decide +kernel
theorem dX0_init_40 : decode cX0_init 40 = .ok (.aload_n 0, 1) := by decide +kernel
theorem dX0_init_41 : decode cX0_init 41 = .ok (.iconst 5, 1) := by decide +kernel
theorem dX0_init_42 : decode cX0_init 42 = .ok (.newarray .int, 2) := by decide +kernel
theorem dX0_init_44 : decode cX0_init 44 = .ok (.putfield 27, 3) := by decide +kernel
theorem dX0_init_47 : decode cX0_init 47 = .ok (.return_, 1) := by decide +kernel
theorem dX0_clear_0 : decode cX0_clear 0 = .ok (.aload_n 0, 1) := by decide +kernel
theorem dX0_clear_1 : decode cX0_clear 1 = .ok (.iconst 0, 1) := by decide +kernel
theorem dX0_clear_2 : decode cX0_clear 2 = .ok (.putfield 30, 3) := by decide +kernel
theorem dX0_clear_5 : decode cX0_clear 5 = .ok (.aload_n 0, 1) := by decide +kernel
theorem dX0_clear_6 : decode cX0_clear 6 = .ok (.iconst 0, 1) := by decide +kernel
theorem dX0_clear_7 : decode cX0_clear 7 = .ok (.putfield 34, 3) := by decide +kernel
theorem dX0_clear_10 : decode cX0_clear 10 = .ok (.aload_n 0, 1) := by decide +kernel
theorem dX0_clear_11 : decode cX0_clear 11 = .ok (.iconst 0, 1) := by decide +kernel
theorem dX0_clear_12 : decode cX0_clear 12 = .ok (.putfield 37, 3) := by decide +kernel
theorem dX0_clear_15 : decode cX0_clear 15 = .ok (.return_, 1) := by decide +kernel
theorem dX0_addTide_0 : decode cX0_addTide 0 = .ok (.aload_n 0, 1) := by decide +kernel
theorem dX0_addTide_1 : decode cX0_addTide 1 = .ok (.getfield 30, 3) := by decide +kernel
theorem dX0_addTide_4 : decode cX0_addTide 4 = .ok (.bipush 12, 2) := by decide +kernel
theorem dX0_addTide_6 : decode cX0_addTide 6 = .ok (.if_icmp .ge 23, 3) := by decide +kernel
theorem dX0_addTide_9 : decode cX0_addTide 9 = .ok (.aload_n 0, 1) := by decide +kernel
theorem dX0_addTide_10 : decode cX0_addTide 10 = .ok (.getfield 9, 3) := by decide +kernel
theorem dX0_addTide_13 : decode cX0_addTide 13 = .ok (.aload_n 0, 1) := by decide +kernel
theorem dX0_addTide_14 : decode cX0_addTide 14 = .ok (.getfield 30, 3) := by decide +kernel
theorem dX0_addTide_17 : decode cX0_addTide 17 = .ok (.iload_n 1, 1) := by decide +kernel
theorem dX0_addTide_18 : decode cX0_addTide 18 = .ok (.iastore, 1) := by decide +kernel
theorem dX0_addTide_19 : decode cX0_addTide 19 = .ok (.aload_n 0, 1) := by decide +kernel
theorem dX0_addTide_20 : decode cX0_addTide 20 = .ok (.dup, 1) := by decide +kernel
theorem dX0_addTide_21 : decode cX0_addTide 21 = .ok (.getfield 30, 3) := by decide +kernel
theorem dX0_addTide_24 : decode cX0_addTide 24 = .ok (.iconst 1, 1) := by decide +kernel
theorem dX0_addTide_25 : decode cX0_addTide 25 = .ok (.iadd, 1) := by decide +kernel
theorem dX0_addTide_26 : decode cX0_addTide 26 = .ok (.putfield 30, 3) := by decide +kernel
theorem dX0_addTide_29 : decode cX0_addTide 29 = .ok (.return_, 1) := by decide +kernel
theorem dX0_addHut_0 : decode cX0_addHut 0 = .ok (.aload_n 0, 1) := by decide +kernel
theorem dX0_addHut_1 : decode cX0_addHut 1 = .ok (.getfield 34, 3) := by decide +kernel
theorem dX0_addHut_4 : decode cX0_addHut 4 = .ok (.iconst 4, 1) := by decide +kernel
theorem dX0_addHut_5 : decode cX0_addHut 5 = .ok (.if_icmp .ge 23, 3) := by decide +kernel
theorem dX0_addHut_8 : decode cX0_addHut 8 = .ok (.aload_n 0, 1) := by decide +kernel
theorem dX0_addHut_9 : decode cX0_addHut 9 = .ok (.getfield 15, 3) := by decide +kernel
theorem dX0_addHut_12 : decode cX0_addHut 12 = .ok (.aload_n 0, 1) := by decide +kernel
theorem dX0_addHut_13 : decode cX0_addHut 13 = .ok (.getfield 34, 3) := by decide +kernel
theorem dX0_addHut_16 : decode cX0_addHut 16 = .ok (.iload_n 1, 1) := by decide +kernel
theorem dX0_addHut_17 : decode cX0_addHut 17 = .ok (.iastore, 1) := by decide +kernel
theorem dX0_addHut_18 : decode cX0_addHut 18 = .ok (.aload_n 0, 1) := by decide +kernel
theorem dX0_addHut_19 : decode cX0_addHut 19 = .ok (.dup, 1) := by decide +kernel
theorem dX0_addHut_20 : decode cX0_addHut 20 = .ok (.getfield 34, 3) := by decide +kernel
theorem dX0_addHut_23 : decode cX0_addHut 23 = .ok (.iconst 1, 1) := by decide +kernel
theorem dX0_addHut_24 : decode cX0_addHut 24 = .ok (.iadd, 1) := by decide +kernel
theorem dX0_addHut_25 : decode cX0_addHut 25 = .ok (.putfield 34, 3) := by decide +kernel
theorem dX0_addHut_28 : decode cX0_addHut 28 = .ok (.return_, 1) := by decide +kernel
theorem dX0_addCase_0 : decode cX0_addCase 0 = .ok (.aload_n 0, 1) := by decide +kernel
theorem dX0_addCase_1 : decode cX0_addCase 1 = .ok (.getfield 37, 3) := by decide +kernel
theorem dX0_addCase_4 : decode cX0_addCase 4 = .ok (.iconst 5, 1) := by decide +kernel
theorem dX0_addCase_5 : decode cX0_addCase 5 = .ok (.if_icmp .ge 54, 3) := by decide +kernel
theorem dX0_addCase_8 : decode cX0_addCase 8 = .ok (.aload_n 0, 1) := by decide +kernel
theorem dX0_addCase_9 : decode cX0_addCase 9 = .ok (.getfield 18, 3) := by decide +kernel
theorem dX0_addCase_12 : decode cX0_addCase 12 = .ok (.aload_n 0, 1) := by decide +kernel
theorem dX0_addCase_13 : decode cX0_addCase 13 = .ok (.getfield 37, 3) := by decide +kernel
theorem dX0_addCase_16 : decode cX0_addCase 16 = .ok (.iload_n 1, 1) := by decide +kernel
theorem dX0_addCase_17 : decode cX0_addCase 17 = .ok (.iastore, 1) := by decide +kernel
theorem dX0_addCase_18 : decode cX0_addCase 18 = .ok (.aload_n 0, 1) := by decide +kernel
theorem dX0_addCase_19 : decode cX0_addCase 19 = .ok (.getfield 21, 3) := by decide +kernel
theorem dX0_addCase_22 : decode cX0_addCase 22 = .ok (.aload_n 0, 1) := by decide +kernel
theorem dX0_addCase_23 : decode cX0_addCase 23 = .ok (.getfield 37, 3) := by decide +kernel
theorem dX0_addCase_26 : decode cX0_addCase 26 = .ok (.iload_n 2, 1) := by decide +kernel
theorem dX0_addCase_27 : decode cX0_addCase 27 = .ok (.iastore, 1) := by decide +kernel
theorem dX0_addCase_28 : decode cX0_addCase 28 = .ok (.aload_n 0, 1) := by decide +kernel
theorem dX0_addCase_29 : decode cX0_addCase 29 = .ok (.getfield 24, 3) := by decide +kernel
theorem dX0_addCase_32 : decode cX0_addCase 32 = .ok (.aload_n 0, 1) := by decide +kernel
theorem dX0_addCase_33 : decode cX0_addCase 33 = .ok (.getfield 37, 3) := by decide +kernel
theorem dX0_addCase_36 : decode cX0_addCase 36 = .ok (.iload_n 3, 1) := by decide +kernel
theorem dX0_addCase_37 : decode cX0_addCase 37 = .ok (.iastore, 1) := by decide +kernel
theorem dX0_addCase_38 : decode cX0_addCase 38 = .ok (.aload_n 0, 1) := by decide +kernel
theorem dX0_addCase_39 : decode cX0_addCase 39 = .ok (.getfield 27, 3) := by decide +kernel
theorem dX0_addCase_42 : decode cX0_addCase 42 = .ok (.aload_n 0, 1) := by decide +kernel
theorem dX0_addCase_43 : decode cX0_addCase 43 = .ok (.getfield 37, 3) := by decide +kernel
theorem dX0_addCase_46 : decode cX0_addCase 46 = .ok (.iload 4, 2) := by decide +kernel
theorem dX0_addCase_48 : decode cX0_addCase 48 = .ok (.iastore, 1) := by decide +kernel
theorem dX0_addCase_49 : decode cX0_addCase 49 = .ok (.aload_n 0, 1) := by decide +kernel
theorem dX0_addCase_50 : decode cX0_addCase 50 = .ok (.dup, 1) := by decide +kernel
theorem dX0_addCase_51 : decode cX0_addCase 51 = .ok (.getfield 37, 3) := by decide +kernel
theorem dX0_addCase_54 : decode cX0_addCase 54 = .ok (.iconst 1, 1) := by decide +kernel
theorem dX0_addCase_55 : decode cX0_addCase 55 = .ok (.iadd, 1) := by decide +kernel
theorem dX0_addCase_56 : decode cX0_addCase 56 = .ok (.putfield 37, 3) := by decide +kernel
theorem dX0_addCase_59 : decode cX0_addCase 59 = .ok (.return_, 1) := by decide +kernel
theorem dX0_stands_0 : decode cX0_stands 0 = .ok (.aload_n 0, 1) := by decide +kernel
theorem dX0_stands_1 : decode cX0_stands 1 = .ok (.getfield 30, 3) := by decide +kernel
theorem dX0_stands_4 : decode cX0_stands 4 = .ok (.ifCond .le 7, 3) := by decide +kernel
theorem dX0_stands_7 : decode cX0_stands 7 = .ok (.iconst 1, 1) := by decide +kernel
theorem dX0_stands_8 : decode cX0_stands 8 = .ok (.goto 4, 3) := by decide +kernel
theorem dX0_stands_11 : decode cX0_stands 11 = .ok (.iconst 0, 1) := by decide +kernel
theorem dX0_stands_12 : decode cX0_stands 12 = .ok (.ireturn, 1) := by decide +kernel
theorem dX0_hasHut_0 : decode cX0_hasHut 0 = .ok (.iload_n 1, 1) := by decide +kernel
theorem dX0_hasHut_1 : decode cX0_hasHut 1 = .ok (.ifCond .lt 15, 3) := by decide +kernel
theorem dX0_hasHut_4 : decode cX0_hasHut 4 = .ok (.iload_n 1, 1) := by decide +kernel
theorem dX0_hasHut_5 : decode cX0_hasHut 5 = .ok (.aload_n 0, 1) := by decide +kernel
theorem dX0_hasHut_6 : decode cX0_hasHut 6 = .ok (.getfield 34, 3) := by decide +kernel
theorem dX0_hasHut_9 : decode cX0_hasHut 9 = .ok (.if_icmp .ge 7, 3) := by decide +kernel
theorem dX0_hasHut_12 : decode cX0_hasHut 12 = .ok (.iconst 1, 1) := by decide +kernel
theorem dX0_hasHut_13 : decode cX0_hasHut 13 = .ok (.goto 4, 3) := by decide +kernel
theorem dX0_hasHut_16 : decode cX0_hasHut 16 = .ok (.iconst 0, 1) := by decide +kernel
theorem dX0_hasHut_17 : decode cX0_hasHut 17 = .ok (.ireturn, 1) := by decide +kernel
theorem dX0_hasCase_0 : decode cX0_hasCase 0 = .ok (.iload_n 1, 1) := by decide +kernel
theorem dX0_hasCase_1 : decode cX0_hasCase 1 = .ok (.ifCond .lt 15, 3) := by decide +kernel
theorem dX0_hasCase_4 : decode cX0_hasCase 4 = .ok (.iload_n 1, 1) := by decide +kernel
theorem dX0_hasCase_5 : decode cX0_hasCase 5 = .ok (.aload_n 0, 1) := by decide +kernel
theorem dX0_hasCase_6 : decode cX0_hasCase 6 = .ok (.getfield 37, 3) := by decide +kernel
theorem dX0_hasCase_9 : decode cX0_hasCase 9 = .ok (.if_icmp .ge 7, 3) := by decide +kernel
theorem dX0_hasCase_12 : decode cX0_hasCase 12 = .ok (.iconst 1, 1) := by decide +kernel
theorem dX0_hasCase_13 : decode cX0_hasCase 13 = .ok (.goto 4, 3) := by decide +kernel
theorem dX0_hasCase_16 : decode cX0_hasCase 16 = .ok (.iconst 0, 1) := by decide +kernel
theorem dX0_hasCase_17 : decode cX0_hasCase 17 = .ok (.ireturn, 1) := by decide +kernel
theorem dX0_depthAt_0 : decode cX0_depthAt 0 = .ok (.aload_n 0, 1) := by decide +kernel
theorem dX0_depthAt_1 : decode cX0_depthAt 1 = .ok (.getfield 30, 3) := by decide +kernel
theorem dX0_depthAt_4 : decode cX0_depthAt 4 = .ok (.ifCond .le 7, 3) := by decide +kernel
theorem dX0_depthAt_7 : decode cX0_depthAt 7 = .ok (.iload_n 2, 1) := by decide +kernel
theorem dX0_depthAt_8 : decode cX0_depthAt 8 = .ok (.ifCond .ge 5, 3) := by decide +kernel
theorem dX0_depthAt_11 : decode cX0_depthAt 11 = .ok (.iconst 0, 1) := by decide +kernel
theorem dX0_depthAt_12 : decode cX0_depthAt 12 = .ok (.ireturn, 1) := by decide +kernel
theorem dX0_depthAt_13 : decode cX0_depthAt 13 = .ok (.iconst 0, 1) := by decide +kernel
theorem dX0_depthAt_14 : decode cX0_depthAt 14 = .ok (.iload_n 1, 1) := by decide +kernel
theorem dX0_depthAt_15 : decode cX0_depthAt 15 = .ok (.iconst 1, 1) := by decide +kernel
theorem dX0_depthAt_16 : decode cX0_depthAt 16 = .ok (.iadd, 1) := by decide +kernel
theorem dX0_depthAt_17 : decode cX0_depthAt 17 = .ok (.aload_n 0, 1) := by decide +kernel
theorem dX0_depthAt_18 : decode cX0_depthAt 18 = .ok (.getfield 9, 3) := by decide +kernel
theorem dX0_depthAt_21 : decode cX0_depthAt 21 = .ok (.iload_n 2, 1) := by decide +kernel
theorem dX0_depthAt_22 : decode cX0_depthAt 22 = .ok (.aload_n 0, 1) := by decide +kernel
theorem dX0_depthAt_23 : decode cX0_depthAt 23 = .ok (.getfield 30, 3) := by decide +kernel
theorem dX0_depthAt_26 : decode cX0_depthAt 26 = .ok (.irem, 1) := by decide +kernel
theorem dX0_depthAt_27 : decode cX0_depthAt 27 = .ok (.iaload, 1) := by decide +kernel
theorem dX0_depthAt_28 : decode cX0_depthAt 28 = .ok (.isub, 1) := by decide +kernel
theorem dX0_depthAt_29 : decode cX0_depthAt 29 = .ok (.invokestatic 40, 3) := by decide +kernel
theorem dX0_depthAt_32 : decode cX0_depthAt 32 = .ok (.ireturn, 1) := by decide +kernel
theorem dX0_isTooDeep_0 : decode cX0_isTooDeep 0 = .ok (.iload_n 2, 1) := by decide +kernel
theorem dX0_isTooDeep_1 : decode cX0_isTooDeep 1 = .ok (.aload_n 0, 1) := by decide +kernel
theorem dX0_isTooDeep_2 : decode cX0_isTooDeep 2 = .ok (.getfield 18, 3) := by decide +kernel
theorem dX0_isTooDeep_5 : decode cX0_isTooDeep 5 = .ok (.iload_n 1, 1) := by decide +kernel
theorem dX0_isTooDeep_6 : decode cX0_isTooDeep 6 = .ok (.iaload, 1) := by decide +kernel
theorem dX0_isTooDeep_7 : decode cX0_isTooDeep 7 = .ok (.aload_n 0, 1) := by decide +kernel
theorem dX0_isTooDeep_8 : decode cX0_isTooDeep 8 = .ok (.getfield 24, 3) := by decide +kernel
theorem dX0_isTooDeep_11 : decode cX0_isTooDeep 11 = .ok (.iload_n 1, 1) := by decide +kernel
theorem dX0_isTooDeep_12 : decode cX0_isTooDeep 12 = .ok (.iaload, 1) := by decide +kernel
theorem dX0_isTooDeep_13 : decode cX0_isTooDeep 13 = .ok (.iadd, 1) := by decide +kernel
theorem dX0_isTooDeep_14 : decode cX0_isTooDeep 14 = .ok (.if_icmp .le 7, 3) := by decide +kernel
theorem dX0_isTooDeep_17 : decode cX0_isTooDeep 17 = .ok (.iconst 1, 1) := by decide +kernel
theorem dX0_isTooDeep_18 : decode cX0_isTooDeep 18 = .ok (.goto 4, 3) := by decide +kernel
theorem dX0_isTooDeep_21 : decode cX0_isTooDeep 21 = .ok (.iconst 0, 1) := by decide +kernel
theorem dX0_isTooDeep_22 : decode cX0_isTooDeep 22 = .ok (.ireturn, 1) := by decide +kernel
theorem dX0_isDeepEnough_0 : decode cX0_isDeepEnough 0 = .ok (.iload_n 2, 1) := by decide +kernel
theorem dX0_isDeepEnough_1 : decode cX0_isDeepEnough 1 = .ok (.aload_n 0, 1) := by decide +kernel
theorem dX0_isDeepEnough_2 : decode cX0_isDeepEnough 2 = .ok (.getfield 18, 3) := by decide +kernel
theorem dX0_isDeepEnough_5 : decode cX0_isDeepEnough 5 = .ok (.iload_n 1, 1) := by decide +kernel
theorem dX0_isDeepEnough_6 : decode cX0_isDeepEnough 6 = .ok (.iaload, 1) := by decide +kernel
theorem dX0_isDeepEnough_7 : decode cX0_isDeepEnough 7 = .ok (.if_icmp .lt 7, 3) := by decide +kernel
theorem dX0_isDeepEnough_10 : decode cX0_isDeepEnough 10 = .ok (.iconst 1, 1) := by decide +kernel
theorem dX0_isDeepEnough_11 : decode cX0_isDeepEnough 11 = .ok (.goto 4, 3) := by decide +kernel
theorem dX0_isDeepEnough_14 : decode cX0_isDeepEnough 14 = .ok (.iconst 0, 1) := by decide +kernel
theorem dX0_isDeepEnough_15 : decode cX0_isDeepEnough 15 = .ok (.ireturn, 1) := by decide +kernel
set_option maxRecDepth 20000 in
theorem ggX0_suitsWithin_X0_depthAt : GoodIn wsX0_suitsWithin wsX0_depthAt := goodIn_r _ [12, 13, 14, 5, 6, 3, 7, 25, 26, 27, 28, 29, 30, 31, 32, 33] (by decide +kernel) (by decide +kernel)
set_option maxRecDepth 20000 in
theorem gX0_suitsWithin_X0_depthAt : GoodIn wsX0_suitsWithin (wsV RX0 49 RX0 yX0_depthAt wsX0_depthAt) := goodIn_app (goodIn_of _ (by decide +kernel)) ggX0_suitsWithin_X0_depthAt
set_option maxRecDepth 20000 in
theorem ggX0_suitsWithin_X0_isDeepEnough : GoodIn wsX0_suitsWithin wsX0_isDeepEnough := goodIn_r _ [18, 19, 25, 26, 27, 28, 29, 30, 31, 32, 33] (by decide +kernel) (by decide +kernel)
set_option maxRecDepth 20000 in
theorem gX0_suitsWithin_X0_isDeepEnough : GoodIn wsX0_suitsWithin (wsV RX0 52 RX0 yX0_isDeepEnough wsX0_isDeepEnough) := goodIn_app (goodIn_of _ (by decide +kernel)) ggX0_suitsWithin_X0_isDeepEnough
set_option maxRecDepth 20000 in
theorem ggX0_suitsWithin_X0_isTooDeep : GoodIn wsX0_suitsWithin wsX0_isTooDeep := goodIn_r _ [23, 19, 24, 25, 26, 27, 28, 29, 30, 31, 32, 33] (by decide +kernel) (by decide +kernel)
set_option maxRecDepth 20000 in
theorem gX0_suitsWithin_X0_isTooDeep : GoodIn wsX0_suitsWithin (wsV RX0 56 RX0 yX0_isTooDeep wsX0_isTooDeep) := goodIn_app (goodIn_of _ (by decide +kernel)) ggX0_suitsWithin_X0_isTooDeep
theorem dX0_suitsWithin_0 : decode cX0_suitsWithin 0 = .ok (.iload_n 3, 1) := by decide +kernel
theorem dX0_suitsWithin_1 : decode cX0_suitsWithin 1 = .ok (.bipush 9, 2) := by decide +kernel
theorem dX0_suitsWithin_3 : decode cX0_suitsWithin 3 = .ok (.invokestatic 46, 3) := by decide +kernel
theorem dX0_suitsWithin_6 : decode cX0_suitsWithin 6 = .ok (.istore 5, 2) := by decide +kernel
theorem dX0_suitsWithin_8 : decode cX0_suitsWithin 8 = .ok (.iload_n 2, 1) := by decide +kernel
theorem dX0_suitsWithin_9 : decode cX0_suitsWithin 9 = .ok (.iconst 0, 1) := by decide +kernel
theorem dX0_suitsWithin_10 : decode cX0_suitsWithin 10 = .ok (.invokestatic 40, 3) := by decide +kernel
theorem dX0_suitsWithin_13 : decode cX0_suitsWithin 13 = .ok (.istore 6, 2) := by decide +kernel
theorem dX0_suitsWithin_15 : decode cX0_suitsWithin 15 = .ok (.iload 6, 2) := by decide +kernel
theorem dX0_suitsWithin_17 : decode cX0_suitsWithin 17 = .ok (.iload 5, 2) := by decide +kernel
theorem dX0_suitsWithin_19 : decode cX0_suitsWithin 19 = .ok (.if_icmp .gt 41, 3) := by decide +kernel
theorem dX0_suitsWithin_22 : decode cX0_suitsWithin 22 = .ok (.aload_n 0, 1) := by decide +kernel
theorem dX0_suitsWithin_23 : decode cX0_suitsWithin 23 = .ok (.iload 6, 2) := by decide +kernel
theorem dX0_suitsWithin_25 : decode cX0_suitsWithin 25 = .ok (.iload 4, 2) := by decide +kernel
theorem dX0_suitsWithin_27 : decode cX0_suitsWithin 27 = .ok (.invokevirtual 49, 3) := by decide +kernel
theorem dX0_suitsWithin_30 : decode cX0_suitsWithin 30 = .ok (.istore 7, 2) := by decide +kernel
theorem dX0_suitsWithin_32 : decode cX0_suitsWithin 32 = .ok (.aload_n 0, 1) := by decide +kernel
theorem dX0_suitsWithin_33 : decode cX0_suitsWithin 33 = .ok (.iload_n 1, 1) := by decide +kernel
theorem dX0_suitsWithin_34 : decode cX0_suitsWithin 34 = .ok (.iload 7, 2) := by decide +kernel
theorem dX0_suitsWithin_36 : decode cX0_suitsWithin 36 = .ok (.invokevirtual 52, 3) := by decide +kernel
theorem dX0_suitsWithin_39 : decode cX0_suitsWithin 39 = .ok (.ifCond .eq 15, 3) := by decide +kernel
theorem dX0_suitsWithin_42 : decode cX0_suitsWithin 42 = .ok (.aload_n 0, 1) := by decide +kernel
theorem dX0_suitsWithin_43 : decode cX0_suitsWithin 43 = .ok (.iload_n 1, 1) := by decide +kernel
theorem dX0_suitsWithin_44 : decode cX0_suitsWithin 44 = .ok (.iload 7, 2) := by decide +kernel
theorem dX0_suitsWithin_46 : decode cX0_suitsWithin 46 = .ok (.invokevirtual 56, 3) := by decide +kernel
theorem dX0_suitsWithin_49 : decode cX0_suitsWithin 49 = .ok (.ifCond .ne 5, 3) := by decide +kernel
theorem dX0_suitsWithin_52 : decode cX0_suitsWithin 52 = .ok (.iconst 1, 1) := by decide +kernel
theorem dX0_suitsWithin_53 : decode cX0_suitsWithin 53 = .ok (.ireturn, 1) := by decide +kernel
theorem dX0_suitsWithin_54 : decode cX0_suitsWithin 54 = .ok (.iinc 6 1, 3) := by decide +kernel
theorem dX0_suitsWithin_57 : decode cX0_suitsWithin 57 = .ok (.goto (-42), 3) := by decide +kernel
theorem dX0_suitsWithin_60 : decode cX0_suitsWithin 60 = .ok (.iconst 0, 1) := by decide +kernel
theorem dX0_suitsWithin_61 : decode cX0_suitsWithin 61 = .ok (.ireturn, 1) := by decide +kernel
set_option maxRecDepth 20000 in
theorem ggX0_hoursOpen_X0_suitsWithin : GoodIn wsX0_hoursOpen wsX0_suitsWithin := goodIn_r _ [5, 6, 7, 8, 9, 10, 11, 12, 13, 14, 15, 4, 16, 17, 18, 19, 20, 21, 22, 23, 24, 25, 26, 27, 28, 29, 30, 31, 32, 33, 34, 35, 36, 37] (by decide +kernel) (by decide +kernel)
set_option maxRecDepth 20000 in
theorem gX0_hoursOpen_X0_suitsWithin : GoodIn wsX0_hoursOpen (wsV RX0 59 RX0 yX0_suitsWithin wsX0_suitsWithin) := goodIn_app (goodIn_of _ (by decide +kernel)) ggX0_hoursOpen_X0_suitsWithin
theorem dX0_hoursOpen_0 : decode cX0_hoursOpen 0 = .ok (.iconst 0, 1) := by decide +kernel
theorem dX0_hoursOpen_1 : decode cX0_hoursOpen 1 = .ok (.istore_n 3, 1) := by decide +kernel
theorem dX0_hoursOpen_2 : decode cX0_hoursOpen 2 = .ok (.iconst 0, 1) := by decide +kernel
theorem dX0_hoursOpen_3 : decode cX0_hoursOpen 3 = .ok (.istore 4, 2) := by decide +kernel
theorem dX0_hoursOpen_5 : decode cX0_hoursOpen 5 = .ok (.iload 4, 2) := by decide +kernel
theorem dX0_hoursOpen_7 : decode cX0_hoursOpen 7 = .ok (.bipush 12, 2) := by decide +kernel
theorem dX0_hoursOpen_9 : decode cX0_hoursOpen 9 = .ok (.if_icmp .ge 31, 3) := by decide +kernel
theorem dX0_hoursOpen_12 : decode cX0_hoursOpen 12 = .ok (.aload_n 0, 1) := by decide +kernel
theorem dX0_hoursOpen_13 : decode cX0_hoursOpen 13 = .ok (.iload_n 1, 1) := by decide +kernel
theorem dX0_hoursOpen_14 : decode cX0_hoursOpen 14 = .ok (.iconst 0, 1) := by decide +kernel
theorem dX0_hoursOpen_15 : decode cX0_hoursOpen 15 = .ok (.bipush 9, 2) := by decide +kernel
theorem dX0_hoursOpen_17 : decode cX0_hoursOpen 17 = .ok (.iload_n 2, 1) := by decide +kernel
theorem dX0_hoursOpen_18 : decode cX0_hoursOpen 18 = .ok (.iload 4, 2) := by decide +kernel
theorem dX0_hoursOpen_20 : decode cX0_hoursOpen 20 = .ok (.iadd, 1) := by decide +kernel
theorem dX0_hoursOpen_21 : decode cX0_hoursOpen 21 = .ok (.invokevirtual 59, 3) := by decide +kernel
theorem dX0_hoursOpen_24 : decode cX0_hoursOpen 24 = .ok (.ifCond .eq 10, 3) := by decide +kernel
theorem dX0_hoursOpen_27 : decode cX0_hoursOpen 27 = .ok (.iload_n 3, 1) := by decide +kernel
theorem dX0_hoursOpen_28 : decode cX0_hoursOpen 28 = .ok (.iconst 1, 1) := by decide +kernel
theorem dX0_hoursOpen_29 : decode cX0_hoursOpen 29 = .ok (.iload 4, 2) := by decide +kernel
theorem dX0_hoursOpen_31 : decode cX0_hoursOpen 31 = .ok (.ishl, 1) := by decide +kernel
theorem dX0_hoursOpen_32 : decode cX0_hoursOpen 32 = .ok (.ior, 1) := by decide +kernel
theorem dX0_hoursOpen_33 : decode cX0_hoursOpen 33 = .ok (.istore_n 3, 1) := by decide +kernel
theorem dX0_hoursOpen_34 : decode cX0_hoursOpen 34 = .ok (.iinc 4 1, 3) := by decide +kernel
theorem dX0_hoursOpen_37 : decode cX0_hoursOpen 37 = .ok (.goto (-32), 3) := by decide +kernel
theorem dX0_hoursOpen_40 : decode cX0_hoursOpen 40 = .ok (.iload_n 3, 1) := by decide +kernel
theorem dX0_hoursOpen_41 : decode cX0_hoursOpen 41 = .ok (.ireturn, 1) := by decide +kernel
theorem dX1_init_0 : decode cX1_init 0 = .ok (.aload_n 0, 1) := by decide +kernel
theorem dX1_init_1 : decode cX1_init 1 = .ok (.invokespecial 3, 3) := by decide +kernel
theorem dX1_init_4 : decode cX1_init 4 = .ok (.aload_n 0, 1) := by decide +kernel
theorem dX1_init_5 : decode cX1_init 5 = .ok (.bipush 15, 2) := by decide +kernel
theorem dX1_init_7 : decode cX1_init 7 = .ok (.newarray .int, 2) := by decide +kernel
theorem dX1_init_9 : decode cX1_init 9 = .ok (.putfield 9, 3) := by decide +kernel
theorem dX1_init_12 : decode cX1_init 12 = .ok (.aload_n 0, 1) := by decide +kernel
theorem dX1_init_13 : decode cX1_init 13 = .ok (.bipush 15, 2) := by decide +kernel
theorem dX1_init_15 : decode cX1_init 15 = .ok (.newarray .int, 2) := by decide +kernel
theorem dX1_init_17 : decode cX1_init 17 = .ok (.putfield 15, 3) := by decide +kernel
theorem dX1_init_20 : decode cX1_init 20 = .ok (.return_, 1) := by decide +kernel
theorem dX1_add_0 : decode cX1_add 0 = .ok (.aload_n 0, 1) := by decide +kernel
theorem dX1_add_1 : decode cX1_add 1 = .ok (.getfield 18, 3) := by decide +kernel
theorem dX1_add_4 : decode cX1_add 4 = .ok (.bipush 15, 2) := by decide +kernel
theorem dX1_add_6 : decode cX1_add 6 = .ok (.if_icmp .ge 33, 3) := by decide +kernel
theorem dX1_add_9 : decode cX1_add 9 = .ok (.aload_n 0, 1) := by decide +kernel
theorem dX1_add_10 : decode cX1_add 10 = .ok (.getfield 9, 3) := by decide +kernel
theorem dX1_add_13 : decode cX1_add 13 = .ok (.aload_n 0, 1) := by decide +kernel
theorem dX1_add_14 : decode cX1_add 14 = .ok (.getfield 18, 3) := by decide +kernel
theorem dX1_add_17 : decode cX1_add 17 = .ok (.iload_n 1, 1) := by decide +kernel
theorem dX1_add_18 : decode cX1_add 18 = .ok (.iastore, 1) := by decide +kernel
theorem dX1_add_19 : decode cX1_add 19 = .ok (.aload_n 0, 1) := by decide +kernel
theorem dX1_add_20 : decode cX1_add 20 = .ok (.getfield 15, 3) := by decide +kernel
theorem dX1_add_23 : decode cX1_add 23 = .ok (.aload_n 0, 1) := by decide +kernel
theorem dX1_add_24 : decode cX1_add 24 = .ok (.getfield 18, 3) := by decide +kernel
theorem dX1_add_27 : decode cX1_add 27 = .ok (.iload_n 2, 1) := by decide +kernel
theorem dX1_add_28 : decode cX1_add 28 = .ok (.iastore, 1) := by decide +kernel
theorem dX1_add_29 : decode cX1_add 29 = .ok (.aload_n 0, 1) := by decide +kernel
theorem dX1_add_30 : decode cX1_add 30 = .ok (.dup, 1) := by decide +kernel
theorem dX1_add_31 : decode cX1_add 31 = .ok (.getfield 18, 3) := by decide +kernel
theorem dX1_add_34 : decode cX1_add 34 = .ok (.iconst 1, 1) := by decide +kernel
theorem dX1_add_35 : decode cX1_add 35 = .ok (.iadd, 1) := by decide +kernel
theorem dX1_add_36 : decode cX1_add 36 = .ok (.putfield 18, 3) := by decide +kernel
theorem dX1_add_39 : decode cX1_add 39 = .ok (.aload_n 0, 1) := by decide +kernel
theorem dX1_add_40 : decode cX1_add 40 = .ok (.getfield 18, 3) := by decide +kernel
theorem dX1_add_43 : decode cX1_add 43 = .ok (.ireturn, 1) := by decide +kernel
theorem dX1_forget_0 : decode cX1_forget 0 = .ok (.aload_n 0, 1) := by decide +kernel
theorem dX1_forget_1 : decode cX1_forget 1 = .ok (.iconst 0, 1) := by decide +kernel
theorem dX1_forget_2 : decode cX1_forget 2 = .ok (.putfield 18, 3) := by decide +kernel
theorem dX1_forget_5 : decode cX1_forget 5 = .ok (.return_, 1) := by decide +kernel
theorem dX1_firstWrong_0 : decode cX1_firstWrong 0 = .ok (.iconst 0, 1) := by decide +kernel
theorem dX1_firstWrong_1 : decode cX1_firstWrong 1 = .ok (.istore_n 2, 1) := by decide +kernel
theorem dX1_firstWrong_2 : decode cX1_firstWrong 2 = .ok (.iload_n 2, 1) := by decide +kernel
theorem dX1_firstWrong_3 : decode cX1_firstWrong 3 = .ok (.aload_n 0, 1) := by decide +kernel
theorem dX1_firstWrong_4 : decode cX1_firstWrong 4 = .ok (.getfield 18, 3) := by decide +kernel
theorem dX1_firstWrong_7 : decode cX1_firstWrong 7 = .ok (.if_icmp .ge 37, 3) := by decide +kernel
theorem dX1_firstWrong_10 : decode cX1_firstWrong 10 = .ok (.iload_n 2, 1) := by decide +kernel
theorem dX1_firstWrong_11 : decode cX1_firstWrong 11 = .ok (.bipush 15, 2) := by decide +kernel
theorem dX1_firstWrong_13 : decode cX1_firstWrong 13 = .ok (.if_icmp .ge 31, 3) := by decide +kernel
theorem dX1_firstWrong_16 : decode cX1_firstWrong 16 = .ok (.aload_n 1, 1) := by decide +kernel
theorem dX1_firstWrong_17 : decode cX1_firstWrong 17 = .ok (.getfield 22, 3) := by decide +kernel
theorem dX1_firstWrong_20 : decode cX1_firstWrong 20 = .ok (.aload_n 0, 1) := by decide +kernel
theorem dX1_firstWrong_21 : decode cX1_firstWrong 21 = .ok (.getfield 9, 3) := by decide +kernel
theorem dX1_firstWrong_24 : decode cX1_firstWrong 24 = .ok (.iload_n 2, 1) := by decide +kernel
theorem dX1_firstWrong_25 : decode cX1_firstWrong 25 = .ok (.iaload, 1) := by decide +kernel
theorem dX1_firstWrong_26 : decode cX1_firstWrong 26 = .ok (.iaload, 1) := by decide +kernel
theorem dX1_firstWrong_27 : decode cX1_firstWrong 27 = .ok (.aload_n 0, 1) := by decide +kernel
theorem dX1_firstWrong_28 : decode cX1_firstWrong 28 = .ok (.getfield 15, 3) := by decide +kernel
theorem dX1_firstWrong_31 : decode cX1_firstWrong 31 = .ok (.iload_n 2, 1) := by decide +kernel
theorem dX1_firstWrong_32 : decode cX1_firstWrong 32 = .ok (.iaload, 1) := by decide +kernel
theorem dX1_firstWrong_33 : decode cX1_firstWrong 33 = .ok (.if_icmp .eq 5, 3) := by decide +kernel
theorem dX1_firstWrong_36 : decode cX1_firstWrong 36 = .ok (.iload_n 2, 1) := by decide +kernel
theorem dX1_firstWrong_37 : decode cX1_firstWrong 37 = .ok (.ireturn, 1) := by decide +kernel
theorem dX1_firstWrong_38 : decode cX1_firstWrong 38 = .ok (.iinc 2 1, 3) := by decide +kernel
theorem dX1_firstWrong_41 : decode cX1_firstWrong 41 = .ok (.goto (-39), 3) := by decide +kernel
theorem dX1_firstWrong_44 : decode cX1_firstWrong 44 = .ok (.iconst (-1), 1) := by decide +kernel
theorem dX1_firstWrong_45 : decode cX1_firstWrong 45 = .ok (.ireturn, 1) := by decide +kernel
set_option maxRecDepth 20000 in
theorem ggX2_init_J7_fill_53178 : GoodIn wsX2_init wsJ7_fill_53178 := goodIn_r _ [13] (by decide +kernel) (by decide +kernel)
set_option maxRecDepth 20000 in
theorem gX2_init_J7_fill_53178 : GoodIn wsX2_init (va_wsS RX2 27 yJ7_fill_53178 wsJ7_fill_53178) := goodIn_app (goodIn_of _ (by decide +kernel)) ggX2_init_J7_fill_53178
theorem dX2_init_0 : decode cX2_init 0 = .ok (.aload_n 0, 1) := by decide +kernel
theorem dX2_init_1 : decode cX2_init 1 = .ok (.invokespecial 3, 3) := by decide +kernel
theorem dX2_init_4 : decode cX2_init 4 = .ok (.aload_n 0, 1) := by decide +kernel
theorem dX2_init_5 : decode cX2_init 5 = .ok (.iconst 4, 1) := by decide +kernel
theorem dX2_init_6 : decode cX2_init 6 = .ok (.newarray .int, 2) := by decide +kernel
theorem dX2_init_8 : decode cX2_init 8 = .ok (.putfield 9, 3) := by decide +kernel
theorem dX2_init_11 : decode cX2_init 11 = .ok (.aload_n 0, 1) := by decide +kernel
theorem dX2_init_12 : decode cX2_init 12 = .ok (.iconst 4, 1) := by decide +kernel
theorem dX2_init_13 : decode cX2_init 13 = .ok (.newarray .int, 2) := by decide +kernel
theorem dX2_init_15 : decode cX2_init 15 = .ok (.putfield 15, 3) := by decide +kernel
theorem dX2_init_18 : decode cX2_init 18 = .ok (.aload_n 0, 1) := by decide +kernel
theorem dX2_init_19 : decode cX2_init 19 = .ok (.iconst 4, 1) := by decide +kernel
theorem dX2_init_20 : decode cX2_init 20 = .ok (.newarray .int, 2) := by decide +kernel
theorem dX2_init_22 : decode cX2_init 22 = .ok (.putfield 18, 3) := by decide +kernel
theorem dX2_init_25 : decode cX2_init 25 = .ok (.aload_n 0, 1) := by decide +kernel
theorem dX2_init_26 : decode cX2_init 26 = .ok (.iconst 5, 1) := by decide +kernel
theorem dX2_init_27 : decode cX2_init 27 = .ok (.newarray .int, 2) := by decide +kernel
theorem dX2_init_29 : decode cX2_init 29 = .ok (.putfield 21, 3) := by decide +kernel
theorem dX2_init_32 : decode cX2_init 32 = .ok (.aload_n 0, 1) := by decide +kernel
theorem dX2_init_33 : decode cX2_init 33 = .ok (.iconst 5, 1) := by decide +kernel
theorem dX2_init_34 : decode cX2_init 34 = .ok (.newarray .int, 2) := by decide +kernel
theorem dX2_init_36 : decode cX2_init 36 = .ok (.putfield 24, 3) := by decide +kernel
theorem dX2_init_39 : decode cX2_init 39 = .ok (.aload_n 0, 1) := by decide +kernel
theorem dX2_init_40 : decode cX2_init 40 = .ok (.getfield 15, 3) := by decide +kernel
theorem dX2_init_43 : decode cX2_init 43 = .ok (.iconst (-1), 1) := by decide +kernel
theorem dX2_init_44 : decode cX2_init 44 = .ok (.invokestatic 27, 3) := by decide +kernel
theorem dX2_init_47 : decode cX2_init 47 = .ok (.return_, 1) := by decide +kernel
set_option maxRecDepth 20000 in
theorem ggX2_begin_J7_fill_53178 : GoodIn wsX2_begin wsJ7_fill_53178 := goodIn_r _ [10] (by decide +kernel) (by decide +kernel)
set_option maxRecDepth 20000 in
theorem gX2_begin_J7_fill_53178 : GoodIn wsX2_begin (va_wsS RX2 27 yJ7_fill_53178 wsJ7_fill_53178) := goodIn_app (goodIn_of _ (by decide +kernel)) ggX2_begin_J7_fill_53178
theorem dX2_begin_0 : decode cX2_begin 0 = .ok (.aload_n 0, 1) := by decide +kernel
theorem dX2_begin_1 : decode cX2_begin 1 = .ok (.iconst 0, 1) := by decide +kernel
theorem dX2_begin_2 : decode cX2_begin 2 = .ok (.putfield 33, 3) := by decide +kernel
theorem dX2_begin_5 : decode cX2_begin 5 = .ok (.aload_n 0, 1) := by decide +kernel
theorem dX2_begin_6 : decode cX2_begin 6 = .ok (.getfield 9, 3) := by decide +kernel
theorem dX2_begin_9 : decode cX2_begin 9 = .ok (.iconst 0, 1) := by decide +kernel
theorem dX2_begin_10 : decode cX2_begin 10 = .ok (.invokestatic 27, 3) := by decide +kernel
theorem dX2_begin_13 : decode cX2_begin 13 = .ok (.aload_n 0, 1) := by decide +kernel
theorem dX2_begin_14 : decode cX2_begin 14 = .ok (.getfield 15, 3) := by decide +kernel
theorem dX2_begin_17 : decode cX2_begin 17 = .ok (.iconst (-1), 1) := by decide +kernel
theorem dX2_begin_18 : decode cX2_begin 18 = .ok (.invokestatic 27, 3) := by decide +kernel
theorem dX2_begin_21 : decode cX2_begin 21 = .ok (.aload_n 0, 1) := by decide +kernel
theorem dX2_begin_22 : decode cX2_begin 22 = .ok (.getfield 18, 3) := by decide +kernel
theorem dX2_begin_25 : decode cX2_begin 25 = .ok (.iconst 0, 1) := by decide +kernel
theorem dX2_begin_26 : decode cX2_begin 26 = .ok (.invokestatic 27, 3) := by decide +kernel
theorem dX2_begin_29 : decode cX2_begin 29 = .ok (.aload_n 0, 1) := by decide +kernel
theorem dX2_begin_30 : decode cX2_begin 30 = .ok (.getfield 21, 3) := by decide +kernel
theorem dX2_begin_33 : decode cX2_begin 33 = .ok (.iconst 0, 1) := by decide +kernel
theorem dX2_begin_34 : decode cX2_begin 34 = .ok (.invokestatic 27, 3) := by decide +kernel
theorem dX2_begin_37 : decode cX2_begin 37 = .ok (.aload_n 0, 1) := by decide +kernel
theorem dX2_begin_38 : decode cX2_begin 38 = .ok (.getfield 24, 3) := by decide +kernel
theorem dX2_begin_41 : decode cX2_begin 41 = .ok (.iconst 0, 1) := by decide +kernel
theorem dX2_begin_42 : decode cX2_begin 42 = .ok (.invokestatic 27, 3) := by decide +kernel
theorem dX2_begin_45 : decode cX2_begin 45 = .ok (.return_, 1) := by decide +kernel
theorem dX2_setOf_0 : decode cX2_setOf 0 = .ok (.iconst 0, 1) := by decide +kernel
theorem dX2_setOf_1 : decode cX2_setOf 1 = .ok (.istore_n 3, 1) := by decide +kernel
theorem dX2_setOf_2 : decode cX2_setOf 2 = .ok (.iconst 0, 1) := by decide +kernel
theorem dX2_setOf_3 : decode cX2_setOf 3 = .ok (.istore 4, 2) := by decide +kernel
theorem dX2_setOf_5 : decode cX2_setOf 5 = .ok (.iload 4, 2) := by decide +kernel
theorem dX2_setOf_7 : decode cX2_setOf 7 = .ok (.iload_n 2, 1) := by decide +kernel
theorem dX2_setOf_8 : decode cX2_setOf 8 = .ok (.if_icmp .ge 33, 3) := by decide +kernel
theorem dX2_setOf_11 : decode cX2_setOf 11 = .ok (.iload 4, 2) := by decide +kernel
theorem dX2_setOf_13 : decode cX2_setOf 13 = .ok (.iconst 5, 1) := by decide +kernel
theorem dX2_setOf_14 : decode cX2_setOf 14 = .ok (.if_icmp .ge 27, 3) := by decide +kernel
theorem dX2_setOf_17 : decode cX2_setOf 17 = .ok (.aload_n 0, 1) := by decide +kernel
theorem dX2_setOf_18 : decode cX2_setOf 18 = .ok (.getfield 21, 3) := by decide +kernel
theorem dX2_setOf_21 : decode cX2_setOf 21 = .ok (.iload 4, 2) := by decide +kernel
theorem dX2_setOf_23 : decode cX2_setOf 23 = .ok (.iaload, 1) := by decide +kernel
theorem dX2_setOf_24 : decode cX2_setOf 24 = .ok (.iload_n 1, 1) := by decide +kernel
theorem dX2_setOf_25 : decode cX2_setOf 25 = .ok (.if_icmp .ne 10, 3) := by decide +kernel
theorem dX2_setOf_28 : decode cX2_setOf 28 = .ok (.iload_n 3, 1) := by decide +kernel
theorem dX2_setOf_29 : decode cX2_setOf 29 = .ok (.iconst 1, 1) := by decide +kernel
theorem dX2_setOf_30 : decode cX2_setOf 30 = .ok (.iload 4, 2) := by decide +kernel
theorem dX2_setOf_32 : decode cX2_setOf 32 = .ok (.ishl, 1) := by decide +kernel
theorem dX2_setOf_33 : decode cX2_setOf 33 = .ok (.ior, 1) := by decide +kernel
theorem dX2_setOf_34 : decode cX2_setOf 34 = .ok (.istore_n 3, 1) := by decide +kernel
theorem dX2_setOf_35 : decode cX2_setOf 35 = .ok (.iinc 4 1, 3) := by decide +kernel
theorem dX2_setOf_38 : decode cX2_setOf 38 = .ok (.goto (-33), 3) := by decide +kernel
theorem dX2_setOf_41 : decode cX2_setOf 41 = .ok (.iload_n 3, 1) := by decide +kernel
theorem dX2_setOf_42 : decode cX2_setOf 42 = .ok (.ireturn, 1) := by decide +kernel
theorem dX2_canEnter_0 : decode cX2_canEnter 0 = .ok (.aload_n 0, 1) := by decide +kernel
theorem dX2_canEnter_1 : decode cX2_canEnter 1 = .ok (.getfield 21, 3) := by decide +kernel
theorem dX2_canEnter_4 : decode cX2_canEnter 4 = .ok (.iload_n 1, 1) := by decide +kernel
theorem dX2_canEnter_5 : decode cX2_canEnter 5 = .ok (.iaload, 1) := by decide +kernel
theorem dX2_canEnter_6 : decode cX2_canEnter 6 = .ok (.ifCond .ne 26, 3) := by decide +kernel
theorem dX2_canEnter_9 : decode cX2_canEnter 9 = .ok (.aload_n 0, 1) := by decide +kernel
theorem dX2_canEnter_10 : decode cX2_canEnter 10 = .ok (.getfield 15, 3) := by decide +kernel
theorem dX2_canEnter_13 : decode cX2_canEnter 13 = .ok (.iload_n 2, 1) := by decide +kernel
theorem dX2_canEnter_14 : decode cX2_canEnter 14 = .ok (.iaload, 1) := by decide +kernel
theorem dX2_canEnter_15 : decode cX2_canEnter 15 = .ok (.iconst (-1), 1) := by decide +kernel
theorem dX2_canEnter_16 : decode cX2_canEnter 16 = .ok (.if_icmp .ne 16, 3) := by decide +kernel
theorem dX2_canEnter_19 : decode cX2_canEnter 19 = .ok (.aload_n 0, 1) := by decide +kernel
theorem dX2_canEnter_20 : decode cX2_canEnter 20 = .ok (.getfield 9, 3) := by decide +kernel
theorem dX2_canEnter_23 : decode cX2_canEnter 23 = .ok (.iload_n 2, 1) := by decide +kernel
theorem dX2_canEnter_24 : decode cX2_canEnter 24 = .ok (.iaload, 1) := by decide +kernel
theorem dX2_canEnter_25 : decode cX2_canEnter 25 = .ok (.ifCond .ne 7, 3) := by decide +kernel
theorem dX2_canEnter_28 : decode cX2_canEnter 28 = .ok (.iconst 1, 1) := by decide +kernel
theorem dX2_canEnter_29 : decode cX2_canEnter 29 = .ok (.goto 4, 3) := by decide +kernel
theorem dX2_canEnter_32 : decode cX2_canEnter 32 = .ok (.iconst 0, 1) := by decide +kernel
theorem dX2_canEnter_33 : decode cX2_canEnter 33 = .ok (.ireturn, 1) := by decide +kernel
theorem dX2_enter_0 : decode cX2_enter 0 = .ok (.aload_n 0, 1) := by decide +kernel
theorem dX2_enter_1 : decode cX2_enter 1 = .ok (.getfield 21, 3) := by decide +kernel
theorem dX2_enter_4 : decode cX2_enter 4 = .ok (.iload_n 1, 1) := by decide +kernel
theorem dX2_enter_5 : decode cX2_enter 5 = .ok (.iconst 1, 1) := by decide +kernel
theorem dX2_enter_6 : decode cX2_enter 6 = .ok (.iastore, 1) := by decide +kernel
theorem dX2_enter_7 : decode cX2_enter 7 = .ok (.aload_n 0, 1) := by decide +kernel
theorem dX2_enter_8 : decode cX2_enter 8 = .ok (.getfield 15, 3) := by decide +kernel
theorem dX2_enter_11 : decode cX2_enter 11 = .ok (.iload_n 2, 1) := by decide +kernel
theorem dX2_enter_12 : decode cX2_enter 12 = .ok (.iload_n 1, 1) := by decide +kernel
theorem dX2_enter_13 : decode cX2_enter 13 = .ok (.iastore, 1) := by decide +kernel
theorem dX2_enter_14 : decode cX2_enter 14 = .ok (.return_, 1) := by decide +kernel
theorem dX2_canMove_0 : decode cX2_canMove 0 = .ok (.aload_n 0, 1) := by decide +kernel
theorem dX2_canMove_1 : decode cX2_canMove 1 = .ok (.getfield 18, 3) := by decide +kernel
theorem dX2_canMove_4 : decode cX2_canMove 4 = .ok (.iload_n 1, 1) := by decide +kernel
theorem dX2_canMove_5 : decode cX2_canMove 5 = .ok (.iaload, 1) := by decide +kernel
theorem dX2_canMove_6 : decode cX2_canMove 6 = .ok (.ifCond .ne 32, 3) := by decide +kernel
theorem dX2_canMove_9 : decode cX2_canMove 9 = .ok (.iload_n 2, 1) := by decide +kernel
theorem dX2_canMove_10 : decode cX2_canMove 10 = .ok (.aload_n 0, 1) := by decide +kernel
theorem dX2_canMove_11 : decode cX2_canMove 11 = .ok (.getfield 9, 3) := by decide +kernel
theorem dX2_canMove_14 : decode cX2_canMove 14 = .ok (.iload_n 1, 1) := by decide +kernel
theorem dX2_canMove_15 : decode cX2_canMove 15 = .ok (.iaload, 1) := by decide +kernel
theorem dX2_canMove_16 : decode cX2_canMove 16 = .ok (.if_icmp .eq 22, 3) := by decide +kernel
theorem dX2_canMove_19 : decode cX2_canMove 19 = .ok (.iload_n 2, 1) := by decide +kernel
theorem dX2_canMove_20 : decode cX2_canMove 20 = .ok (.aload_n 0, 1) := by decide +kernel
theorem dX2_canMove_21 : decode cX2_canMove 21 = .ok (.getfield 9, 3) := by decide +kernel
theorem dX2_canMove_24 : decode cX2_canMove 24 = .ok (.iload_n 1, 1) := by decide +kernel
theorem dX2_canMove_25 : decode cX2_canMove 25 = .ok (.iaload, 1) := by decide +kernel
theorem dX2_canMove_26 : decode cX2_canMove 26 = .ok (.isub, 1) := by decide +kernel
theorem dX2_canMove_27 : decode cX2_canMove 27 = .ok (.invokestatic 37, 3) := by decide +kernel
theorem dX2_canMove_30 : decode cX2_canMove 30 = .ok (.iload_n 3, 1) := by decide +kernel
theorem dX2_canMove_31 : decode cX2_canMove 31 = .ok (.if_icmp .gt 7, 3) := by decide +kernel
theorem dX2_canMove_34 : decode cX2_canMove 34 = .ok (.iconst 1, 1) := by decide +kernel
theorem dX2_canMove_35 : decode cX2_canMove 35 = .ok (.goto 4, 3) := by decide +kernel
theorem dX2_canMove_38 : decode cX2_canMove 38 = .ok (.iconst 0, 1) := by decide +kernel
theorem dX2_canMove_39 : decode cX2_canMove 39 = .ok (.ireturn, 1) := by decide +kernel
theorem dX2_move_0 : decode cX2_move 0 = .ok (.aload_n 0, 1) := by decide +kernel
theorem dX2_move_1 : decode cX2_move 1 = .ok (.getfield 9, 3) := by decide +kernel
theorem dX2_move_4 : decode cX2_move 4 = .ok (.iload_n 1, 1) := by decide +kernel
theorem dX2_move_5 : decode cX2_move 5 = .ok (.iload_n 2, 1) := by decide +kernel
theorem dX2_move_6 : decode cX2_move 6 = .ok (.iastore, 1) := by decide +kernel
theorem dX2_move_7 : decode cX2_move 7 = .ok (.aload_n 0, 1) := by decide +kernel
theorem dX2_move_8 : decode cX2_move 8 = .ok (.getfield 18, 3) := by decide +kernel
theorem dX2_move_11 : decode cX2_move 11 = .ok (.iload_n 1, 1) := by decide +kernel
theorem dX2_move_12 : decode cX2_move 12 = .ok (.iconst 1, 1) := by decide +kernel
theorem dX2_move_13 : decode cX2_move 13 = .ok (.iastore, 1) := by decide +kernel
theorem dX2_move_14 : decode cX2_move 14 = .ok (.return_, 1) := by decide +kernel
theorem dX2_endCase_0 : decode cX2_endCase 0 = .ok (.aload_n 0, 1) := by decide +kernel
theorem dX2_endCase_1 : decode cX2_endCase 1 = .ok (.getfield 21, 3) := by decide +kernel
theorem dX2_endCase_4 : decode cX2_endCase 4 = .ok (.iload_n 1, 1) := by decide +kernel
theorem dX2_endCase_5 : decode cX2_endCase 5 = .ok (.iload_n 2, 1) := by decide +kernel
theorem dX2_endCase_6 : decode cX2_endCase 6 = .ok (.iastore, 1) := by decide +kernel
theorem dX2_endCase_7 : decode cX2_endCase 7 = .ok (.iconst 0, 1) := by decide +kernel
theorem dX2_endCase_8 : decode cX2_endCase 8 = .ok (.istore_n 3, 1) := by decide +kernel
theorem dX2_endCase_9 : decode cX2_endCase 9 = .ok (.iload_n 3, 1) := by decide +kernel
theorem dX2_endCase_10 : decode cX2_endCase 10 = .ok (.iconst 4, 1) := by decide +kernel
theorem dX2_endCase_11 : decode cX2_endCase 11 = .ok (.if_icmp .ge 26, 3) := by decide +kernel
theorem dX2_endCase_14 : decode cX2_endCase 14 = .ok (.aload_n 0, 1) := by decide +kernel
theorem dX2_endCase_15 : decode cX2_endCase 15 = .ok (.getfield 15, 3) := by decide +kernel
theorem dX2_endCase_18 : decode cX2_endCase 18 = .ok (.iload_n 3, 1) := by decide +kernel
theorem dX2_endCase_19 : decode cX2_endCase 19 = .ok (.iaload, 1) := by decide +kernel
theorem dX2_endCase_20 : decode cX2_endCase 20 = .ok (.iload_n 1, 1) := by decide +kernel
theorem dX2_endCase_21 : decode cX2_endCase 21 = .ok (.if_icmp .ne 10, 3) := by decide +kernel
theorem dX2_endCase_24 : decode cX2_endCase 24 = .ok (.aload_n 0, 1) := by decide +kernel
theorem dX2_endCase_25 : decode cX2_endCase 25 = .ok (.getfield 15, 3) := by decide +kernel
theorem dX2_endCase_28 : decode cX2_endCase 28 = .ok (.iload_n 3, 1) := by decide +kernel
theorem dX2_endCase_29 : decode cX2_endCase 29 = .ok (.iconst (-1), 1) := by decide +kernel
theorem dX2_endCase_30 : decode cX2_endCase 30 = .ok (.iastore, 1) := by decide +kernel
theorem dX2_endCase_31 : decode cX2_endCase 31 = .ok (.iinc 3 1, 3) := by decide +kernel
theorem dX2_endCase_34 : decode cX2_endCase 34 = .ok (.goto (-25), 3) := by decide +kernel
theorem dX2_endCase_37 : decode cX2_endCase 37 = .ok (.return_, 1) := by decide +kernel
set_option maxRecDepth 20000 in
theorem ggX2_passHour_X0_hasCase : GoodIn wsX2_passHour wsX0_hasCase := goodIn_r _ [10, 11, 44, 45, 46, 47, 48, 49, 50, 51, 52] (by decide +kernel) (by decide +kernel)
set_option maxRecDepth 20000 in
theorem gX2_passHour_X0_hasCase : GoodIn wsX2_passHour (wsV RX2 48 RX0 yX0_hasCase wsX0_hasCase) := goodIn_app (goodIn_of _ (by decide +kernel)) ggX2_passHour_X0_hasCase
set_option maxRecDepth 20000 in
theorem ggX2_passHour_X0_depthAt : GoodIn wsX2_passHour wsX0_depthAt := goodIn_r _ [15, 16, 17, 18, 19, 20, 21, 44, 45, 46, 47, 48, 49, 50, 51, 52] (by decide +kernel) (by decide +kernel)
set_option maxRecDepth 20000 in
theorem gX2_passHour_X0_depthAt : GoodIn wsX2_passHour (wsV RX2 52 RX0 yX0_depthAt wsX0_depthAt) := goodIn_app (goodIn_of _ (by decide +kernel)) ggX2_passHour_X0_depthAt
set_option maxRecDepth 20000 in
theorem ggX2_passHour_X2_hearCase : GoodIn wsX2_passHour wsX2_hearCase := goodIn_r _ [26, 27, 28, 29, 30, 31, 9, 32, 33, 34, 35, 36, 37, 25, 38, 39, 2, 40, 41, 42, 43, 53, 54, 55, 56, 57, 58, 44, 45, 46, 47, 48, 49, 50, 51, 52] (by decide +kernel) (by decide +kernel)
set_option maxRecDepth 20000 in
theorem gX2_passHour_X2_hearCase : GoodIn wsX2_passHour (wsV RX2 56 RX2 yX2_hearCase wsX2_hearCase) := goodIn_app (goodIn_of _ (by decide +kernel)) ggX2_passHour_X2_hearCase
theorem dX2_passHour_0 : decode cX2_passHour 0 = .ok (.iconst 0, 1) := by decide +kernel
theorem dX2_passHour_1 : decode cX2_passHour 1 = .ok (.istore_n 2, 1) := by decide +kernel
theorem dX2_passHour_2 : decode cX2_passHour 2 = .ok (.iload_n 2, 1) := by decide +kernel
theorem dX2_passHour_3 : decode cX2_passHour 3 = .ok (.aload_n 1, 1) := by decide +kernel
theorem dX2_passHour_4 : decode cX2_passHour 4 = .ok (.getfield 43, 3) := by decide +kernel
theorem dX2_passHour_7 : decode cX2_passHour 7 = .ok (.if_icmp .ge 59, 3) := by decide +kernel
theorem dX2_passHour_10 : decode cX2_passHour 10 = .ok (.iload_n 2, 1) := by decide +kernel
theorem dX2_passHour_11 : decode cX2_passHour 11 = .ok (.iconst 4, 1) := by decide +kernel
theorem dX2_passHour_12 : decode cX2_passHour 12 = .ok (.if_icmp .ge 54, 3) := by decide +kernel
theorem dX2_passHour_15 : decode cX2_passHour 15 = .ok (.aload_n 1, 1) := by decide +kernel
theorem dX2_passHour_16 : decode cX2_passHour 16 = .ok (.aload_n 0, 1) := by decide +kernel
theorem dX2_passHour_17 : decode cX2_passHour 17 = .ok (.getfield 15, 3) := by decide +kernel
theorem dX2_passHour_20 : decode cX2_passHour 20 = .ok (.iload_n 2, 1) := by decide +kernel
theorem dX2_passHour_21 : decode cX2_passHour 21 = .ok (.iaload, 1) := by decide +kernel
theorem dX2_passHour_22 : decode cX2_passHour 22 = .ok (.invokevirtual 48, 3) := by decide +kernel
theorem dX2_passHour_25 : decode cX2_passHour 25 = .ok (.ifCond .eq 28, 3) := by decide +kernel
theorem dX2_passHour_28 : decode cX2_passHour 28 = .ok (.aload_n 0, 1) := by decide +kernel
theorem dX2_passHour_29 : decode cX2_passHour 29 = .ok (.aload_n 1, 1) := by decide +kernel
theorem dX2_passHour_30 : decode cX2_passHour 30 = .ok (.aload_n 0, 1) := by decide +kernel
theorem dX2_passHour_31 : decode cX2_passHour 31 = .ok (.getfield 15, 3) := by decide +kernel
theorem dX2_passHour_34 : decode cX2_passHour 34 = .ok (.iload_n 2, 1) := by decide +kernel
theorem dX2_passHour_35 : decode cX2_passHour 35 = .ok (.iaload, 1) := by decide +kernel
theorem dX2_passHour_36 : decode cX2_passHour 36 = .ok (.aload_n 1, 1) := by decide +kernel
theorem dX2_passHour_37 : decode cX2_passHour 37 = .ok (.aload_n 0, 1) := by decide +kernel
theorem dX2_passHour_38 : decode cX2_passHour 38 = .ok (.getfield 9, 3) := by decide +kernel
theorem dX2_passHour_41 : decode cX2_passHour 41 = .ok (.iload_n 2, 1) := by decide +kernel
theorem dX2_passHour_42 : decode cX2_passHour 42 = .ok (.iaload, 1) := by decide +kernel
theorem dX2_passHour_43 : decode cX2_passHour 43 = .ok (.aload_n 0, 1) := by decide +kernel
theorem dX2_passHour_44 : decode cX2_passHour 44 = .ok (.getfield 33, 3) := by decide +kernel
theorem dX2_passHour_47 : decode cX2_passHour 47 = .ok (.invokevirtual 52, 3) := by decide +kernel
theorem dX2_passHour_50 : decode cX2_passHour 50 = .ok (.invokevirtual 56, 3) := by decide +kernel
theorem dX2_passHour_53 : decode cX2_passHour 53 = .ok (.aload_n 0, 1) := by decide +kernel
theorem dX2_passHour_54 : decode cX2_passHour 54 = .ok (.getfield 18, 3) := by decide +kernel
theorem dX2_passHour_57 : decode cX2_passHour 57 = .ok (.iload_n 2, 1) := by decide +kernel
theorem dX2_passHour_58 : decode cX2_passHour 58 = .ok (.iconst 0, 1) := by decide +kernel
theorem dX2_passHour_59 : decode cX2_passHour 59 = .ok (.iastore, 1) := by decide +kernel
theorem dX2_passHour_60 : decode cX2_passHour 60 = .ok (.iinc 2 1, 3) := by decide +kernel
theorem dX2_passHour_63 : decode cX2_passHour 63 = .ok (.goto (-61), 3) := by decide +kernel
theorem dX2_passHour_66 : decode cX2_passHour 66 = .ok (.aload_n 0, 1) := by decide +kernel
theorem dX2_passHour_67 : decode cX2_passHour 67 = .ok (.dup, 1) := by decide +kernel
theorem dX2_passHour_68 : decode cX2_passHour 68 = .ok (.getfield 33, 3) := by decide +kernel
theorem dX2_passHour_71 : decode cX2_passHour 71 = .ok (.iconst 1, 1) := by decide +kernel
theorem dX2_passHour_72 : decode cX2_passHour 72 = .ok (.iadd, 1) := by decide +kernel
theorem dX2_passHour_73 : decode cX2_passHour 73 = .ok (.putfield 33, 3) := by decide +kernel
theorem dX2_passHour_76 : decode cX2_passHour 76 = .ok (.return_, 1) := by decide +kernel
set_option maxRecDepth 20000 in
theorem ggX2_hearCase_X0_isTooDeep : GoodIn wsX2_hearCase wsX0_isTooDeep := goodIn_r _ [7, 8, 9, 27, 28, 29, 30, 31, 32, 33, 34, 35] (by decide +kernel) (by decide +kernel)
set_option maxRecDepth 20000 in
theorem gX2_hearCase_X0_isTooDeep : GoodIn wsX2_hearCase (wsV RX2 60 RX0 yX0_isTooDeep wsX0_isTooDeep) := goodIn_app (goodIn_of _ (by decide +kernel)) ggX2_hearCase_X0_isTooDeep
set_option maxRecDepth 20000 in
theorem ggX2_hearCase_X2_endCase : GoodIn wsX2_hearCase wsX2_endCase := goodIn_r _ [14, 15, 16, 21, 22, 23, 24, 25, 26] (by decide +kernel) (by decide +kernel)
set_option maxRecDepth 20000 in
theorem gX2_hearCase_X2_endCase : GoodIn wsX2_hearCase (wsV RX2 64 RX2 yX2_endCase wsX2_endCase) := goodIn_app (goodIn_of _ (by decide +kernel)) ggX2_hearCase_X2_endCase
set_option maxRecDepth 20000 in
theorem ggX2_hearCase_X0_isDeepEnough : GoodIn wsX2_hearCase wsX0_isDeepEnough := goodIn_r _ [20, 8, 27, 28, 29, 30, 31, 32, 33, 34, 35] (by decide +kernel) (by decide +kernel)
set_option maxRecDepth 20000 in
theorem gX2_hearCase_X0_isDeepEnough : GoodIn wsX2_hearCase (wsV RX2 68 RX0 yX0_isDeepEnough wsX0_isDeepEnough) := goodIn_app (goodIn_of _ (by decide +kernel)) ggX2_hearCase_X0_isDeepEnough
theorem dX2_hearCase_0 : decode cX2_hearCase 0 = .ok (.aload_n 1, 1) := by decide +kernel
theorem dX2_hearCase_1 : decode cX2_hearCase 1 = .ok (.iload_n 2, 1) := by decide +kernel
theorem dX2_hearCase_2 : decode cX2_hearCase 2 = .ok (.iload_n 3, 1) := by decide +kernel
theorem dX2_hearCase_3 : decode cX2_hearCase 3 = .ok (.invokevirtual 60, 3) := by decide +kernel
theorem dX2_hearCase_6 : decode cX2_hearCase 6 = .ok (.ifCond .eq 12, 3) := by decide +kernel
theorem dX2_hearCase_9 : decode cX2_hearCase 9 = .ok (.aload_n 0, 1) := by decide +kernel
theorem dX2_hearCase_10 : decode cX2_hearCase 10 = .ok (.iload_n 2, 1) := by decide +kernel
theorem dX2_hearCase_11 : decode cX2_hearCase 11 = .ok (.iconst 4, 1) := by decide +kernel
theorem dX2_hearCase_12 : decode cX2_hearCase 12 = .ok (.invokevirtual 64, 3) := by decide +kernel
theorem dX2_hearCase_15 : decode cX2_hearCase 15 = .ok (.goto 43, 3) := by decide +kernel
theorem dX2_hearCase_18 : decode cX2_hearCase 18 = .ok (.aload_n 1, 1) := by decide +kernel
theorem dX2_hearCase_19 : decode cX2_hearCase 19 = .ok (.iload_n 2, 1) := by decide +kernel
theorem dX2_hearCase_20 : decode cX2_hearCase 20 = .ok (.iload_n 3, 1) := by decide +kernel
theorem dX2_hearCase_21 : decode cX2_hearCase 21 = .ok (.invokevirtual 68, 3) := by decide +kernel
theorem dX2_hearCase_24 : decode cX2_hearCase 24 = .ok (.ifCond .eq 34, 3) := by decide +kernel
theorem dX2_hearCase_27 : decode cX2_hearCase 27 = .ok (.aload_n 0, 1) := by decide +kernel
theorem dX2_hearCase_28 : decode cX2_hearCase 28 = .ok (.getfield 24, 3) := by decide +kernel
theorem dX2_hearCase_31 : decode cX2_hearCase 31 = .ok (.iload_n 2, 1) := by decide +kernel
theorem dX2_hearCase_32 : decode cX2_hearCase 32 = .ok (.dup2, 1) := by decide +kernel
theorem dX2_hearCase_33 : decode cX2_hearCase 33 = .ok (.iaload, 1) := by decide +kernel
theorem dX2_hearCase_34 : decode cX2_hearCase 34 = .ok (.iconst 1, 1) := by decide +kernel
theorem dX2_hearCase_35 : decode cX2_hearCase 35 = .ok (.iadd, 1) := by decide +kernel
theorem dX2_hearCase_36 : decode cX2_hearCase 36 = .ok (.iastore, 1) := by decide +kernel
theorem dX2_hearCase_37 : decode cX2_hearCase 37 = .ok (.aload_n 0, 1) := by decide +kernel
theorem dX2_hearCase_38 : decode cX2_hearCase 38 = .ok (.getfield 24, 3) := by decide +kernel
theorem dX2_hearCase_41 : decode cX2_hearCase 41 = .ok (.iload_n 2, 1) := by decide +kernel
theorem dX2_hearCase_42 : decode cX2_hearCase 42 = .ok (.iaload, 1) := by decide +kernel
theorem dX2_hearCase_43 : decode cX2_hearCase 43 = .ok (.aload_n 1, 1) := by decide +kernel
theorem dX2_hearCase_44 : decode cX2_hearCase 44 = .ok (.getfield 71, 3) := by decide +kernel
theorem dX2_hearCase_47 : decode cX2_hearCase 47 = .ok (.iload_n 2, 1) := by decide +kernel
theorem dX2_hearCase_48 : decode cX2_hearCase 48 = .ok (.iaload, 1) := by decide +kernel
theorem dX2_hearCase_49 : decode cX2_hearCase 49 = .ok (.if_icmp .lt 9, 3) := by decide +kernel
theorem dX2_hearCase_52 : decode cX2_hearCase 52 = .ok (.aload_n 0, 1) := by decide +kernel
theorem dX2_hearCase_53 : decode cX2_hearCase 53 = .ok (.iload_n 2, 1) := by decide +kernel
theorem dX2_hearCase_54 : decode cX2_hearCase 54 = .ok (.iconst 2, 1) := by decide +kernel
theorem dX2_hearCase_55 : decode cX2_hearCase 55 = .ok (.invokevirtual 64, 3) := by decide +kernel
theorem dX2_hearCase_58 : decode cX2_hearCase 58 = .ok (.return_, 1) := by decide +kernel
theorem dX2_saveTo_0 : decode cX2_saveTo 0 = .ok (.iload_n 2, 1) := by decide +kernel
theorem dX2_saveTo_1 : decode cX2_saveTo 1 = .ok (.ifCond .lt 12, 3) := by decide +kernel
theorem dX2_saveTo_4 : decode cX2_saveTo 4 = .ok (.iload_n 2, 1) := by decide +kernel
theorem dX2_saveTo_5 : decode cX2_saveTo 5 = .ok (.aload_n 1, 1) := by decide +kernel
theorem dX2_saveTo_6 : decode cX2_saveTo 6 = .ok (.arraylength, 1) := by decide +kernel
theorem dX2_saveTo_7 : decode cX2_saveTo 7 = .ok (.bipush 23, 2) := by decide +kernel
theorem dX2_saveTo_9 : decode cX2_saveTo 9 = .ok (.isub, 1) := by decide +kernel
theorem dX2_saveTo_10 : decode cX2_saveTo 10 = .ok (.if_icmp .le 4, 3) := by decide +kernel
theorem dX2_saveTo_13 : decode cX2_saveTo 13 = .ok (.return_, 1) := by decide +kernel
theorem dX2_saveTo_14 : decode cX2_saveTo 14 = .ok (.aload_n 0, 1) := by decide +kernel
theorem dX2_saveTo_15 : decode cX2_saveTo 15 = .ok (.getfield 9, 3) := by decide +kernel
theorem dX2_saveTo_18 : decode cX2_saveTo 18 = .ok (.iconst 0, 1) := by decide +kernel
theorem dX2_saveTo_19 : decode cX2_saveTo 19 = .ok (.aload_n 1, 1) := by decide +kernel
theorem dX2_saveTo_20 : decode cX2_saveTo 20 = .ok (.iload_n 2, 1) := by decide +kernel
theorem dX2_saveTo_21 : decode cX2_saveTo 21 = .ok (.iconst 4, 1) := by decide +kernel
theorem dX2_saveTo_22 : decode cX2_saveTo 22 = .ok (.invokestatic 74, 3) := by decide +kernel
theorem dX2_saveTo_25 : decode cX2_saveTo 25 = .ok (.aload_n 0, 1) := by decide +kernel
theorem dX2_saveTo_26 : decode cX2_saveTo 26 = .ok (.getfield 15, 3) := by decide +kernel
theorem dX2_saveTo_29 : decode cX2_saveTo 29 = .ok (.iconst 0, 1) := by decide +kernel
theorem dX2_saveTo_30 : decode cX2_saveTo 30 = .ok (.aload_n 1, 1) := by decide +kernel
theorem dX2_saveTo_31 : decode cX2_saveTo 31 = .ok (.iload_n 2, 1) := by decide +kernel
theorem dX2_saveTo_32 : decode cX2_saveTo 32 = .ok (.iconst 4, 1) := by decide +kernel
theorem dX2_saveTo_33 : decode cX2_saveTo 33 = .ok (.iadd, 1) := by decide +kernel
theorem dX2_saveTo_34 : decode cX2_saveTo 34 = .ok (.iconst 4, 1) := by decide +kernel
theorem dX2_saveTo_35 : decode cX2_saveTo 35 = .ok (.invokestatic 74, 3) := by decide +kernel
theorem dX2_saveTo_38 : decode cX2_saveTo 38 = .ok (.aload_n 0, 1) := by decide +kernel
theorem dX2_saveTo_39 : decode cX2_saveTo 39 = .ok (.getfield 18, 3) := by decide +kernel
theorem dX2_saveTo_42 : decode cX2_saveTo 42 = .ok (.iconst 0, 1) := by decide +kernel
theorem dX2_saveTo_43 : decode cX2_saveTo 43 = .ok (.aload_n 1, 1) := by decide +kernel
theorem dX2_saveTo_44 : decode cX2_saveTo 44 = .ok (.iload_n 2, 1) := by decide +kernel
theorem dX2_saveTo_45 : decode cX2_saveTo 45 = .ok (.bipush 8, 2) := by decide +kernel
theorem dX2_saveTo_47 : decode cX2_saveTo 47 = .ok (.iadd, 1) := by decide +kernel
theorem dX2_saveTo_48 : decode cX2_saveTo 48 = .ok (.iconst 4, 1) := by decide +kernel
theorem dX2_saveTo_49 : decode cX2_saveTo 49 = .ok (.invokestatic 74, 3) := by decide +kernel
theorem dX2_saveTo_52 : decode cX2_saveTo 52 = .ok (.aload_n 0, 1) := by decide +kernel
theorem dX2_saveTo_53 : decode cX2_saveTo 53 = .ok (.getfield 21, 3) := by decide +kernel
theorem dX2_saveTo_56 : decode cX2_saveTo 56 = .ok (.iconst 0, 1) := by decide +kernel
theorem dX2_saveTo_57 : decode cX2_saveTo 57 = .ok (.aload_n 1, 1) := by decide +kernel
theorem dX2_saveTo_58 : decode cX2_saveTo 58 = .ok (.iload_n 2, 1) := by decide +kernel
theorem dX2_saveTo_59 : decode cX2_saveTo 59 = .ok (.bipush 12, 2) := by decide +kernel
theorem dX2_saveTo_61 : decode cX2_saveTo 61 = .ok (.iadd, 1) := by decide +kernel
theorem dX2_saveTo_62 : decode cX2_saveTo 62 = .ok (.iconst 5, 1) := by decide +kernel
theorem dX2_saveTo_63 : decode cX2_saveTo 63 = .ok (.invokestatic 74, 3) := by decide +kernel
theorem dX2_saveTo_66 : decode cX2_saveTo 66 = .ok (.aload_n 0, 1) := by decide +kernel
theorem dX2_saveTo_67 : decode cX2_saveTo 67 = .ok (.getfield 24, 3) := by decide +kernel
theorem dX2_saveTo_70 : decode cX2_saveTo 70 = .ok (.iconst 0, 1) := by decide +kernel
theorem dX2_saveTo_71 : decode cX2_saveTo 71 = .ok (.aload_n 1, 1) := by decide +kernel
theorem dX2_saveTo_72 : decode cX2_saveTo 72 = .ok (.iload_n 2, 1) := by decide +kernel
theorem dX2_saveTo_73 : decode cX2_saveTo 73 = .ok (.bipush 12, 2) := by decide +kernel
theorem dX2_saveTo_75 : decode cX2_saveTo 75 = .ok (.iadd, 1) := by decide +kernel
theorem dX2_saveTo_76 : decode cX2_saveTo 76 = .ok (.iconst 5, 1) := by decide +kernel
theorem dX2_saveTo_77 : decode cX2_saveTo 77 = .ok (.iadd, 1) := by decide +kernel
theorem dX2_saveTo_78 : decode cX2_saveTo 78 = .ok (.iconst 5, 1) := by decide +kernel
theorem dX2_saveTo_79 : decode cX2_saveTo 79 = .ok (.invokestatic 74, 3) := by decide +kernel
theorem dX2_saveTo_82 : decode cX2_saveTo 82 = .ok (.aload_n 1, 1) := by decide +kernel
theorem dX2_saveTo_83 : decode cX2_saveTo 83 = .ok (.iload_n 2, 1) := by decide +kernel
theorem dX2_saveTo_84 : decode cX2_saveTo 84 = .ok (.bipush 23, 2) := by decide +kernel
theorem dX2_saveTo_86 : decode cX2_saveTo 86 = .ok (.iadd, 1) := by decide +kernel
theorem dX2_saveTo_87 : decode cX2_saveTo 87 = .ok (.iconst 1, 1) := by decide +kernel
theorem dX2_saveTo_88 : decode cX2_saveTo 88 = .ok (.isub, 1) := by decide +kernel
theorem dX2_saveTo_89 : decode cX2_saveTo 89 = .ok (.aload_n 0, 1) := by decide +kernel
theorem dX2_saveTo_90 : decode cX2_saveTo 90 = .ok (.getfield 33, 3) := by decide +kernel
theorem dX2_saveTo_93 : decode cX2_saveTo 93 = .ok (.iastore, 1) := by decide +kernel
theorem dX2_saveTo_94 : decode cX2_saveTo 94 = .ok (.return_, 1) := by decide +kernel
theorem dX2_loadFrom_0 : decode cX2_loadFrom 0 = .ok (.iload_n 2, 1) := by decide +kernel
theorem dX2_loadFrom_1 : decode cX2_loadFrom 1 = .ok (.ifCond .lt 12, 3) := by decide +kernel
theorem dX2_loadFrom_4 : decode cX2_loadFrom 4 = .ok (.iload_n 2, 1) := by decide +kernel
theorem dX2_loadFrom_5 : decode cX2_loadFrom 5 = .ok (.aload_n 1, 1) := by decide +kernel
theorem dX2_loadFrom_6 : decode cX2_loadFrom 6 = .ok (.arraylength, 1) := by decide +kernel
theorem dX2_loadFrom_7 : decode cX2_loadFrom 7 = .ok (.bipush 23, 2) := by decide +kernel
theorem dX2_loadFrom_9 : decode cX2_loadFrom 9 = .ok (.isub, 1) := by decide +kernel
theorem dX2_loadFrom_10 : decode cX2_loadFrom 10 = .ok (.if_icmp .le 4, 3) := by decide +kernel
theorem dX2_loadFrom_13 : decode cX2_loadFrom 13 = .ok (.return_, 1) := by decide +kernel
theorem dX2_loadFrom_14 : decode cX2_loadFrom 14 = .ok (.aload_n 1, 1) := by decide +kernel
theorem dX2_loadFrom_15 : decode cX2_loadFrom 15 = .ok (.iload_n 2, 1) := by decide +kernel
theorem dX2_loadFrom_16 : decode cX2_loadFrom 16 = .ok (.aload_n 0, 1) := by decide +kernel
theorem dX2_loadFrom_17 : decode cX2_loadFrom 17 = .ok (.getfield 9, 3) := by decide +kernel
theorem dX2_loadFrom_20 : decode cX2_loadFrom 20 = .ok (.iconst 0, 1) := by decide +kernel
theorem dX2_loadFrom_21 : decode cX2_loadFrom 21 = .ok (.iconst 4, 1) := by decide +kernel
theorem dX2_loadFrom_22 : decode cX2_loadFrom 22 = .ok (.invokestatic 74, 3) := by decide +kernel
theorem dX2_loadFrom_25 : decode cX2_loadFrom 25 = .ok (.aload_n 1, 1) := by decide +kernel
theorem dX2_loadFrom_26 : decode cX2_loadFrom 26 = .ok (.iload_n 2, 1) := by decide +kernel
theorem dX2_loadFrom_27 : decode cX2_loadFrom 27 = .ok (.iconst 4, 1) := by decide +kernel
theorem dX2_loadFrom_28 : decode cX2_loadFrom 28 = .ok (.iadd, 1) := by decide +kernel
theorem dX2_loadFrom_29 : decode cX2_loadFrom 29 = .ok (.aload_n 0, 1) := by decide +kernel
theorem dX2_loadFrom_30 : decode cX2_loadFrom 30 = .ok (.getfield 15, 3) := by decide +kernel
theorem dX2_loadFrom_33 : decode cX2_loadFrom 33 = .ok (.iconst 0, 1) := by decide +kernel
theorem dX2_loadFrom_34 : decode cX2_loadFrom 34 = .ok (.iconst 4, 1) := by decide +kernel
theorem dX2_loadFrom_35 : decode cX2_loadFrom 35 = .ok (.invokestatic 74, 3) := by decide +kernel
theorem dX2_loadFrom_38 : decode cX2_loadFrom 38 = .ok (.aload_n 1, 1) := by decide +kernel
theorem dX2_loadFrom_39 : decode cX2_loadFrom 39 = .ok (.iload_n 2, 1) := by decide +kernel
theorem dX2_loadFrom_40 : decode cX2_loadFrom 40 = .ok (.bipush 8, 2) := by decide +kernel
theorem dX2_loadFrom_42 : decode cX2_loadFrom 42 = .ok (.iadd, 1) := by decide +kernel
theorem dX2_loadFrom_43 : decode cX2_loadFrom 43 = .ok (.aload_n 0, 1) := by decide +kernel
theorem dX2_loadFrom_44 : decode cX2_loadFrom 44 = .ok (.getfield 18, 3) := by decide +kernel
theorem dX2_loadFrom_47 : decode cX2_loadFrom 47 = .ok (.iconst 0, 1) := by decide +kernel
theorem dX2_loadFrom_48 : decode cX2_loadFrom 48 = .ok (.iconst 4, 1) := by decide +kernel
theorem dX2_loadFrom_49 : decode cX2_loadFrom 49 = .ok (.invokestatic 74, 3) := by decide +kernel
theorem dX2_loadFrom_52 : decode cX2_loadFrom 52 = .ok (.aload_n 1, 1) := by decide +kernel
theorem dX2_loadFrom_53 : decode cX2_loadFrom 53 = .ok (.iload_n 2, 1) := by decide +kernel
theorem dX2_loadFrom_54 : decode cX2_loadFrom 54 = .ok (.bipush 12, 2) := by decide +kernel
theorem dX2_loadFrom_56 : decode cX2_loadFrom 56 = .ok (.iadd, 1) := by decide +kernel
theorem dX2_loadFrom_57 : decode cX2_loadFrom 57 = .ok (.aload_n 0, 1) := by decide +kernel
theorem dX2_loadFrom_58 : decode cX2_loadFrom 58 = .ok (.getfield 21, 3) := by decide +kernel
theorem dX2_loadFrom_61 : decode cX2_loadFrom 61 = .ok (.iconst 0, 1) := by decide +kernel
theorem dX2_loadFrom_62 : decode cX2_loadFrom 62 = .ok (.iconst 5, 1) := by decide +kernel
theorem dX2_loadFrom_63 : decode cX2_loadFrom 63 = .ok (.invokestatic 74, 3) := by decide +kernel
theorem dX2_loadFrom_66 : decode cX2_loadFrom 66 = .ok (.aload_n 1, 1) := by decide +kernel
theorem dX2_loadFrom_67 : decode cX2_loadFrom 67 = .ok (.iload_n 2, 1) := by decide +kernel
theorem dX2_loadFrom_68 : decode cX2_loadFrom 68 = .ok (.bipush 12, 2) := by decide +kernel
theorem dX2_loadFrom_70 : decode cX2_loadFrom 70 = .ok (.iadd, 1) := by decide +kernel
theorem dX2_loadFrom_71 : decode cX2_loadFrom 71 = .ok (.iconst 5, 1) := by decide +kernel
theorem dX2_loadFrom_72 : decode cX2_loadFrom 72 = .ok (.iadd, 1) := by decide +kernel
theorem dX2_loadFrom_73 : decode cX2_loadFrom 73 = .ok (.aload_n 0, 1) := by decide +kernel
theorem dX2_loadFrom_74 : decode cX2_loadFrom 74 = .ok (.getfield 24, 3) := by decide +kernel
theorem dX2_loadFrom_77 : decode cX2_loadFrom 77 = .ok (.iconst 0, 1) := by decide +kernel
theorem dX2_loadFrom_78 : decode cX2_loadFrom 78 = .ok (.iconst 5, 1) := by decide +kernel
theorem dX2_loadFrom_79 : decode cX2_loadFrom 79 = .ok (.invokestatic 74, 3) := by decide +kernel
theorem dX2_loadFrom_82 : decode cX2_loadFrom 82 = .ok (.aload_n 0, 1) := by decide +kernel
theorem dX2_loadFrom_83 : decode cX2_loadFrom 83 = .ok (.aload_n 1, 1) := by decide +kernel
theorem dX2_loadFrom_84 : decode cX2_loadFrom 84 = .ok (.iload_n 2, 1) := by decide +kernel
theorem dX2_loadFrom_85 : decode cX2_loadFrom 85 = .ok (.bipush 23, 2) := by decide +kernel
theorem dX2_loadFrom_87 : decode cX2_loadFrom 87 = .ok (.iadd, 1) := by decide +kernel
theorem dX2_loadFrom_88 : decode cX2_loadFrom 88 = .ok (.iconst 1, 1) := by decide +kernel
theorem dX2_loadFrom_89 : decode cX2_loadFrom 89 = .ok (.isub, 1) := by decide +kernel
theorem dX2_loadFrom_90 : decode cX2_loadFrom 90 = .ok (.iaload, 1) := by decide +kernel
theorem dX2_loadFrom_91 : decode cX2_loadFrom 91 = .ok (.putfield 33, 3) := by decide +kernel
theorem dX2_loadFrom_94 : decode cX2_loadFrom 94 = .ok (.return_, 1) := by decide +kernel
theorem dX3_init_0 : decode cX3_init 0 = .ok (.aload_n 0, 1) := by decide +kernel
theorem dX3_init_1 : decode cX3_init 1 = .ok (.invokespecial 3, 3) := by decide +kernel
theorem dX3_init_4 : decode cX3_init 4 = .ok (.return_, 1) := by decide +kernel
theorem dX3_next_0 : decode cX3_next 0 = .ok (.iload_n 1, 1) := by decide +kernel
theorem dX3_next_1 : decode cX3_next 1 = .ok (.ifCond .gt 5, 3) := by decide +kernel
theorem dX3_next_4 : decode cX3_next 4 = .ok (.iconst (-1), 1) := by decide +kernel
theorem dX3_next_5 : decode cX3_next 5 = .ok (.ireturn, 1) := by decide +kernel
theorem dX3_next_6 : decode cX3_next 6 = .ok (.aload_n 0, 1) := by decide +kernel
theorem dX3_next_7 : decode cX3_next 7 = .ok (.aload_n 0, 1) := by decide +kernel
theorem dX3_next_8 : decode cX3_next 8 = .ok (.getfield 9, 3) := by decide +kernel
theorem dX3_next_11 : decode cX3_next 11 = .ok (.i2l, 1) := by decide +kernel
theorem dX3_next_12 : decode cX3_next 12 = .ok (.ldc2_w 15, 3) := by decide +kernel
theorem dX3_next_15 : decode cX3_next 15 = .ok (.lmul, 1) := by decide +kernel
theorem dX3_next_16 : decode cX3_next 16 = .ok (.ldc2_w 17, 3) := by decide +kernel
theorem dX3_next_19 : decode cX3_next 19 = .ok (.ladd, 1) := by decide +kernel
theorem dX3_next_20 : decode cX3_next 20 = .ok (.ldc2_w 19, 3) := by decide +kernel
theorem dX3_next_23 : decode cX3_next 23 = .ok (.lrem, 1) := by decide +kernel
theorem dX3_next_24 : decode cX3_next 24 = .ok (.l2i, 1) := by decide +kernel
theorem dX3_next_25 : decode cX3_next 25 = .ok (.putfield 9, 3) := by decide +kernel
theorem dX3_next_28 : decode cX3_next 28 = .ok (.aload_n 0, 1) := by decide +kernel
theorem dX3_next_29 : decode cX3_next 29 = .ok (.getfield 9, 3) := by decide +kernel
theorem dX3_next_32 : decode cX3_next 32 = .ok (.ldc 21, 2) := by decide +kernel
theorem dX3_next_34 : decode cX3_next 34 = .ok (.idiv, 1) := by decide +kernel
theorem dX3_next_35 : decode cX3_next 35 = .ok (.iload_n 1, 1) := by decide +kernel
theorem dX3_next_36 : decode cX3_next 36 = .ok (.irem, 1) := by decide +kernel
theorem dX3_next_37 : decode cX3_next 37 = .ok (.ireturn, 1) := by decide +kernel
theorem dX4_init_0 : decode cX4_init 0 = .ok (.aload_n 0, 1) := by decide +kernel
theorem dX4_init_1 : decode cX4_init 1 = .ok (.invokespecial 3, 3) := by decide +kernel
theorem dX4_init_4 : decode cX4_init 4 = .ok (.aload_n 0, 1) := by decide +kernel
theorem dX4_init_5 : decode cX4_init 5 = .ok (.bipush 6, 2) := by decide +kernel
theorem dX4_init_7 : decode cX4_init 7 = .ok (.newarray .int, 2) := by decide +kernel
theorem dX4_init_9 : decode cX4_init 9 = .ok (.putfield 9, 3) := by decide +kernel
theorem dX4_init_12 : decode cX4_init 12 = .ok (.aload_n 0, 1) := by decide +kernel
theorem dX4_init_13 : decode cX4_init 13 = .ok (.bipush 6, 2) := by decide +kernel
theorem dX4_init_15 : decode cX4_init 15 = .ok (.newarray .boolean, 2) := by decide +kernel
theorem dX4_init_17 : decode cX4_init 17 = .ok (.putfield 15, 3) := by decide +kernel
theorem dX4_init_20 : decode cX4_init 20 = .ok (.return_, 1) := by decide +kernel
theorem dX4_add_0 : decode cX4_add 0 = .ok (.aload_n 0, 1) := by decide +kernel
theorem dX4_add_1 : decode cX4_add 1 = .ok (.getfield 19, 3) := by decide +kernel
theorem dX4_add_4 : decode cX4_add 4 = .ok (.bipush 6, 2) := by decide +kernel
theorem dX4_add_6 : decode cX4_add 6 = .ok (.if_icmp .ge 33, 3) := by decide +kernel
theorem dX4_add_9 : decode cX4_add 9 = .ok (.aload_n 0, 1) := by decide +kernel
theorem dX4_add_10 : decode cX4_add 10 = .ok (.getfield 9, 3) := by decide +kernel
theorem dX4_add_13 : decode cX4_add 13 = .ok (.aload_n 0, 1) := by decide +kernel
theorem dX4_add_14 : decode cX4_add 14 = .ok (.getfield 19, 3) := by decide +kernel
theorem dX4_add_17 : decode cX4_add 17 = .ok (.iload_n 1, 1) := by decide +kernel
theorem dX4_add_18 : decode cX4_add 18 = .ok (.iastore, 1) := by decide +kernel
theorem dX4_add_19 : decode cX4_add 19 = .ok (.aload_n 0, 1) := by decide +kernel
theorem dX4_add_20 : decode cX4_add 20 = .ok (.getfield 15, 3) := by decide +kernel
theorem dX4_add_23 : decode cX4_add 23 = .ok (.aload_n 0, 1) := by decide +kernel
theorem dX4_add_24 : decode cX4_add 24 = .ok (.getfield 19, 3) := by decide +kernel
theorem dX4_add_27 : decode cX4_add 27 = .ok (.iload_n 2, 1) := by decide +kernel
theorem dX4_add_28 : decode cX4_add 28 = .ok (.bastore, 1) := by decide +kernel
theorem dX4_add_29 : decode cX4_add 29 = .ok (.aload_n 0, 1) := by decide +kernel
theorem dX4_add_30 : decode cX4_add 30 = .ok (.dup, 1) := by decide +kernel
theorem dX4_add_31 : decode cX4_add 31 = .ok (.getfield 19, 3) := by decide +kernel
theorem dX4_add_34 : decode cX4_add 34 = .ok (.iconst 1, 1) := by decide +kernel
theorem dX4_add_35 : decode cX4_add 35 = .ok (.iadd, 1) := by decide +kernel
theorem dX4_add_36 : decode cX4_add 36 = .ok (.putfield 19, 3) := by decide +kernel
theorem dX4_add_39 : decode cX4_add 39 = .ok (.aload_n 0, 1) := by decide +kernel
theorem dX4_add_40 : decode cX4_add 40 = .ok (.getfield 19, 3) := by decide +kernel
theorem dX4_add_43 : decode cX4_add 43 = .ok (.ireturn, 1) := by decide +kernel
theorem dX4_forget_0 : decode cX4_forget 0 = .ok (.aload_n 0, 1) := by decide +kernel
theorem dX4_forget_1 : decode cX4_forget 1 = .ok (.iconst 0, 1) := by decide +kernel
theorem dX4_forget_2 : decode cX4_forget 2 = .ok (.putfield 19, 3) := by decide +kernel
theorem dX4_forget_5 : decode cX4_forget 5 = .ok (.return_, 1) := by decide +kernel
set_option maxRecDepth 20000 in
theorem ggX4_allThatFits_X4_fitsAll : GoodIn wsX4_allThatFits wsX4_fitsAll := goodIn_r _ [5, 6, 7, 8, 9, 10, 11] (by decide +kernel) (by decide +kernel)
set_option maxRecDepth 20000 in
theorem gX4_allThatFits_X4_fitsAll : GoodIn wsX4_allThatFits (wsV RX4 23 RX4 yX4_fitsAll wsX4_fitsAll) := goodIn_app (goodIn_of _ (by decide +kernel)) ggX4_allThatFits_X4_fitsAll
theorem dX4_allThatFits_0 : decode cX4_allThatFits 0 = .ok (.iconst 0, 1) := by decide +kernel
theorem dX4_allThatFits_1 : decode cX4_allThatFits 1 = .ok (.istore_n 1, 1) := by decide +kernel
theorem dX4_allThatFits_2 : decode cX4_allThatFits 2 = .ok (.iconst 0, 1) := by decide +kernel
theorem dX4_allThatFits_3 : decode cX4_allThatFits 3 = .ok (.istore_n 2, 1) := by decide +kernel
theorem dX4_allThatFits_4 : decode cX4_allThatFits 4 = .ok (.iload_n 2, 1) := by decide +kernel
theorem dX4_allThatFits_5 : decode cX4_allThatFits 5 = .ok (.bipush 10, 2) := by decide +kernel
theorem dX4_allThatFits_7 : decode cX4_allThatFits 7 = .ok (.if_icmp .gt 23, 3) := by decide +kernel
theorem dX4_allThatFits_10 : decode cX4_allThatFits 10 = .ok (.aload_n 0, 1) := by decide +kernel
theorem dX4_allThatFits_11 : decode cX4_allThatFits 11 = .ok (.iload_n 2, 1) := by decide +kernel
theorem dX4_allThatFits_12 : decode cX4_allThatFits 12 = .ok (.invokevirtual 23, 3) := by decide +kernel
theorem dX4_allThatFits_15 : decode cX4_allThatFits 15 = .ok (.ifCond .eq 9, 3) := by decide +kernel
theorem dX4_allThatFits_18 : decode cX4_allThatFits 18 = .ok (.iload_n 1, 1) := by decide +kernel
theorem dX4_allThatFits_19 : decode cX4_allThatFits 19 = .ok (.iconst 1, 1) := by decide +kernel
theorem dX4_allThatFits_20 : decode cX4_allThatFits 20 = .ok (.iload_n 2, 1) := by decide +kernel
theorem dX4_allThatFits_21 : decode cX4_allThatFits 21 = .ok (.ishl, 1) := by decide +kernel
theorem dX4_allThatFits_22 : decode cX4_allThatFits 22 = .ok (.ior, 1) := by decide +kernel
theorem dX4_allThatFits_23 : decode cX4_allThatFits 23 = .ok (.istore_n 1, 1) := by decide +kernel
theorem dX4_allThatFits_24 : decode cX4_allThatFits 24 = .ok (.iinc 2 1, 3) := by decide +kernel
theorem dX4_allThatFits_27 : decode cX4_allThatFits 27 = .ok (.goto (-23), 3) := by decide +kernel
theorem dX4_allThatFits_30 : decode cX4_allThatFits 30 = .ok (.iload_n 1, 1) := by decide +kernel
theorem dX4_allThatFits_31 : decode cX4_allThatFits 31 = .ok (.ireturn, 1) := by decide +kernel
theorem dX4_fitsAll_0 : decode cX4_fitsAll 0 = .ok (.iconst 0, 1) := by decide +kernel
theorem dX4_fitsAll_1 : decode cX4_fitsAll 1 = .ok (.istore_n 2, 1) := by decide +kernel
theorem dX4_fitsAll_2 : decode cX4_fitsAll 2 = .ok (.iload_n 2, 1) := by decide +kernel
theorem dX4_fitsAll_3 : decode cX4_fitsAll 3 = .ok (.aload_n 0, 1) := by decide +kernel
theorem dX4_fitsAll_4 : decode cX4_fitsAll 4 = .ok (.getfield 19, 3) := by decide +kernel
theorem dX4_fitsAll_7 : decode cX4_fitsAll 7 = .ok (.if_icmp .ge 41, 3) := by decide +kernel
theorem dX4_fitsAll_10 : decode cX4_fitsAll 10 = .ok (.iload_n 2, 1) := by decide +kernel
theorem dX4_fitsAll_11 : decode cX4_fitsAll 11 = .ok (.bipush 6, 2) := by decide +kernel
theorem dX4_fitsAll_13 : decode cX4_fitsAll 13 = .ok (.if_icmp .ge 35, 3) := by decide +kernel
theorem dX4_fitsAll_16 : decode cX4_fitsAll 16 = .ok (.aload_n 0, 1) := by decide +kernel
theorem dX4_fitsAll_17 : decode cX4_fitsAll 17 = .ok (.getfield 9, 3) := by decide +kernel
theorem dX4_fitsAll_20 : decode cX4_fitsAll 20 = .ok (.iload_n 2, 1) := by decide +kernel
theorem dX4_fitsAll_21 : decode cX4_fitsAll 21 = .ok (.iaload, 1) := by decide +kernel
theorem dX4_fitsAll_22 : decode cX4_fitsAll 22 = .ok (.iload_n 1, 1) := by decide +kernel
theorem dX4_fitsAll_23 : decode cX4_fitsAll 23 = .ok (.if_icmp .le 7, 3) := by decide +kernel
theorem dX4_fitsAll_26 : decode cX4_fitsAll 26 = .ok (.iconst 1, 1) := by decide +kernel
theorem dX4_fitsAll_27 : decode cX4_fitsAll 27 = .ok (.goto 4, 3) := by decide +kernel
theorem dX4_fitsAll_30 : decode cX4_fitsAll 30 = .ok (.iconst 0, 1) := by decide +kernel
theorem dX4_fitsAll_31 : decode cX4_fitsAll 31 = .ok (.aload_n 0, 1) := by decide +kernel
theorem dX4_fitsAll_32 : decode cX4_fitsAll 32 = .ok (.getfield 15, 3) := by decide +kernel
theorem dX4_fitsAll_35 : decode cX4_fitsAll 35 = .ok (.iload_n 2, 1) := by decide +kernel
theorem dX4_fitsAll_36 : decode cX4_fitsAll 36 = .ok (.baload, 1) := by decide +kernel
theorem dX4_fitsAll_37 : decode cX4_fitsAll 37 = .ok (.if_icmp .eq 5, 3) := by decide +kernel
theorem dX4_fitsAll_40 : decode cX4_fitsAll 40 = .ok (.iconst 0, 1) := by decide +kernel
theorem dX4_fitsAll_41 : decode cX4_fitsAll 41 = .ok (.ireturn, 1) := by decide +kernel
theorem dX4_fitsAll_42 : decode cX4_fitsAll 42 = .ok (.iinc 2 1, 3) := by decide +kernel
theorem dX4_fitsAll_45 : decode cX4_fitsAll 45 = .ok (.goto (-43), 3) := by decide +kernel
theorem dX4_fitsAll_48 : decode cX4_fitsAll 48 = .ok (.iconst 1, 1) := by decide +kernel
theorem dX4_fitsAll_49 : decode cX4_fitsAll 49 = .ok (.ireturn, 1) := by decide +kernel
set_option maxRecDepth 20000 in
theorem ggX4_bestDepth_X4_allThatFits : GoodIn wsX4_bestDepth wsX4_allThatFits := goodIn_r _ [9, 10, 11, 12, 8, 13, 14, 15, 16, 24, 25, 26] (by decide +kernel) (by decide +kernel)
set_option maxRecDepth 20000 in
theorem gX4_bestDepth_X4_allThatFits : GoodIn wsX4_bestDepth (wsV RX4 27 RX4 yX4_allThatFits wsX4_allThatFits) := goodIn_app (goodIn_of _ (by decide +kernel)) ggX4_bestDepth_X4_allThatFits
set_option maxRecDepth 20000 in
theorem ggX4_bestDepth_J6_bitCount_0f7a4 : GoodIn wsX4_bestDepth wsJ6_bitCount_0f7a4 := goodIn_r _ [20, 21, 22, 23] (by decide +kernel) (by decide +kernel)
set_option maxRecDepth 20000 in
theorem gX4_bestDepth_J6_bitCount_0f7a4 : GoodIn wsX4_bestDepth (va_wsS RX4 31 yJ6_bitCount_0f7a4 wsJ6_bitCount_0f7a4) := goodIn_app (goodIn_of _ (by decide +kernel)) ggX4_bestDepth_J6_bitCount_0f7a4
theorem dX4_bestDepth_0 : decode cX4_bestDepth 0 = .ok (.aload_n 0, 1) := by decide +kernel
theorem dX4_bestDepth_1 : decode cX4_bestDepth 1 = .ok (.invokevirtual 27, 3) := by decide +kernel
theorem dX4_bestDepth_4 : decode cX4_bestDepth 4 = .ok (.istore_n 1, 1) := by decide +kernel
theorem dX4_bestDepth_5 : decode cX4_bestDepth 5 = .ok (.iload_n 1, 1) := by decide +kernel
theorem dX4_bestDepth_6 : decode cX4_bestDepth 6 = .ok (.invokestatic 31, 3) := by decide +kernel
theorem dX4_bestDepth_9 : decode cX4_bestDepth 9 = .ok (.istore_n 2, 1) := by decide +kernel
theorem dX4_bestDepth_10 : decode cX4_bestDepth 10 = .ok (.iconst (-1), 1) := by decide +kernel
theorem dX4_bestDepth_11 : decode cX4_bestDepth 11 = .ok (.istore_n 3, 1) := by decide +kernel
theorem dX4_bestDepth_12 : decode cX4_bestDepth 12 = .ok (.iload_n 2, 1) := by decide +kernel
theorem dX4_bestDepth_13 : decode cX4_bestDepth 13 = .ok (.istore 4, 2) := by decide +kernel
theorem dX4_bestDepth_15 : decode cX4_bestDepth 15 = .ok (.iconst 0, 1) := by decide +kernel
theorem dX4_bestDepth_16 : decode cX4_bestDepth 16 = .ok (.istore 5, 2) := by decide +kernel
theorem dX4_bestDepth_18 : decode cX4_bestDepth 18 = .ok (.iload 5, 2) := by decide +kernel
theorem dX4_bestDepth_20 : decode cX4_bestDepth 20 = .ok (.bipush 10, 2) := by decide +kernel
theorem dX4_bestDepth_22 : decode cX4_bestDepth 22 = .ok (.if_icmp .gt 47, 3) := by decide +kernel
theorem dX4_bestDepth_25 : decode cX4_bestDepth 25 = .ok (.iload_n 1, 1) := by decide +kernel
theorem dX4_bestDepth_26 : decode cX4_bestDepth 26 = .ok (.iconst 1, 1) := by decide +kernel
theorem dX4_bestDepth_27 : decode cX4_bestDepth 27 = .ok (.iload 5, 2) := by decide +kernel
theorem dX4_bestDepth_29 : decode cX4_bestDepth 29 = .ok (.ishl, 1) := by decide +kernel
theorem dX4_bestDepth_30 : decode cX4_bestDepth 30 = .ok (.iconst 1, 1) := by decide +kernel
theorem dX4_bestDepth_31 : decode cX4_bestDepth 31 = .ok (.isub, 1) := by decide +kernel
theorem dX4_bestDepth_32 : decode cX4_bestDepth 32 = .ok (.iand, 1) := by decide +kernel
theorem dX4_bestDepth_33 : decode cX4_bestDepth 33 = .ok (.invokestatic 31, 3) := by decide +kernel
theorem dX4_bestDepth_36 : decode cX4_bestDepth 36 = .ok (.istore 6, 2) := by decide +kernel
theorem dX4_bestDepth_38 : decode cX4_bestDepth 38 = .ok (.iload 6, 2) := by decide +kernel
theorem dX4_bestDepth_40 : decode cX4_bestDepth 40 = .ok (.iload_n 2, 1) := by decide +kernel
theorem dX4_bestDepth_41 : decode cX4_bestDepth 41 = .ok (.iload 6, 2) := by decide +kernel
theorem dX4_bestDepth_43 : decode cX4_bestDepth 43 = .ok (.isub, 1) := by decide +kernel
theorem dX4_bestDepth_44 : decode cX4_bestDepth 44 = .ok (.invokestatic 37, 3) := by decide +kernel
theorem dX4_bestDepth_47 : decode cX4_bestDepth 47 = .ok (.istore 7, 2) := by decide +kernel
theorem dX4_bestDepth_49 : decode cX4_bestDepth 49 = .ok (.iload 7, 2) := by decide +kernel
theorem dX4_bestDepth_51 : decode cX4_bestDepth 51 = .ok (.iload 4, 2) := by decide +kernel
theorem dX4_bestDepth_53 : decode cX4_bestDepth 53 = .ok (.if_icmp .ge 10, 3) := by decide +kernel
theorem dX4_bestDepth_56 : decode cX4_bestDepth 56 = .ok (.iload 7, 2) := by decide +kernel
theorem dX4_bestDepth_58 : decode cX4_bestDepth 58 = .ok (.istore 4, 2) := by decide +kernel
theorem dX4_bestDepth_60 : decode cX4_bestDepth 60 = .ok (.iload 5, 2) := by decide +kernel
theorem dX4_bestDepth_62 : decode cX4_bestDepth 62 = .ok (.istore_n 3, 1) := by decide +kernel
theorem dX4_bestDepth_63 : decode cX4_bestDepth 63 = .ok (.iinc 5 1, 3) := by decide +kernel
theorem dX4_bestDepth_66 : decode cX4_bestDepth 66 = .ok (.goto (-48), 3) := by decide +kernel
theorem dX4_bestDepth_69 : decode cX4_bestDepth 69 = .ok (.iload_n 3, 1) := by decide +kernel
theorem dX4_bestDepth_70 : decode cX4_bestDepth 70 = .ok (.ireturn, 1) := by decide +kernel
theorem dX5_init_0 : decode cX5_init 0 = .ok (.aload_n 0, 1) := by decide +kernel
theorem dX5_init_1 : decode cX5_init 1 = .ok (.invokespecial 3, 3) := by decide +kernel
theorem dX5_init_4 : decode cX5_init 4 = .ok (.aload_n 0, 1) := by decide +kernel
theorem dX5_init_5 : decode cX5_init 5 = .ok (.bipush 46, 2) := by decide +kernel
theorem dX5_init_7 : decode cX5_init 7 = .ok (.newarray .int, 2) := by decide +kernel
theorem dX5_init_9 : decode cX5_init 9 = .ok (.putfield 11, 3) := by decide +kernel
theorem dX5_init_12 : decode cX5_init 12 = .ok (.aload_n 0, 1) := by decide +kernel
theorem dX5_init_13 : decode cX5_init 13 = .ok (.iconst 2, 1) := by decide +kernel
theorem dX5_init_14 : decode cX5_init 14 = .ok (.newarray .int, 2) := by decide +kernel
theorem dX5_init_16 : decode cX5_init 16 = .ok (.putfield 17, 3) := by decide +kernel
theorem dX5_init_19 : decode cX5_init 19 = .ok (.aload_n 0, 1) := by decide +kernel
theorem dX5_init_20 : decode cX5_init 20 = .ok (.iconst 2, 1) := by decide +kernel
theorem dX5_init_21 : decode cX5_init 21 = .ok (.newarray .boolean, 2) := by decide +kernel
theorem dX5_init_23 : decode cX5_init 23 = .ok (.putfield 20, 3) := by decide +kernel
theorem dX5_init_26 : decode cX5_init 26 = .ok (.return_, 1) := by decide +kernel
set_option maxRecDepth 20000 in
theorem ggX5_take_X2_saveTo : GoodIn wsX5_take wsX2_saveTo := goodIn_r _ [8, 9, 10, 11, 12, 13, 14, 15, 16, 17, 18, 22, 23, 24, 25, 26, 27] (by decide +kernel) (by decide +kernel)
set_option maxRecDepth 20000 in
theorem gX5_take_X2_saveTo : GoodIn wsX5_take (wsV RX5 24 RX2 yX2_saveTo wsX2_saveTo) := goodIn_app (goodIn_of _ (by decide +kernel)) ggX5_take_X2_saveTo
theorem dX5_take_0 : decode cX5_take 0 = .ok (.aload_n 2, 1) := by decide +kernel
theorem dX5_take_1 : decode cX5_take 1 = .ok (.aload_n 0, 1) := by decide +kernel
theorem dX5_take_2 : decode cX5_take 2 = .ok (.getfield 11, 3) := by decide +kernel
theorem dX5_take_5 : decode cX5_take 5 = .ok (.iload_n 1, 1) := by decide +kernel
theorem dX5_take_6 : decode cX5_take 6 = .ok (.bipush 23, 2) := by decide +kernel
theorem dX5_take_8 : decode cX5_take 8 = .ok (.imul, 1) := by decide +kernel
theorem dX5_take_9 : decode cX5_take 9 = .ok (.invokevirtual 24, 3) := by decide +kernel
theorem dX5_take_12 : decode cX5_take 12 = .ok (.aload_n 0, 1) := by decide +kernel
theorem dX5_take_13 : decode cX5_take 13 = .ok (.getfield 17, 3) := by decide +kernel
theorem dX5_take_16 : decode cX5_take 16 = .ok (.iload_n 1, 1) := by decide +kernel
theorem dX5_take_17 : decode cX5_take 17 = .ok (.iload_n 3, 1) := by decide +kernel
theorem dX5_take_18 : decode cX5_take 18 = .ok (.iastore, 1) := by decide +kernel
theorem dX5_take_19 : decode cX5_take 19 = .ok (.aload_n 0, 1) := by decide +kernel
theorem dX5_take_20 : decode cX5_take 20 = .ok (.getfield 20, 3) := by decide +kernel
theorem dX5_take_23 : decode cX5_take 23 = .ok (.iload_n 1, 1) := by decide +kernel
theorem dX5_take_24 : decode cX5_take 24 = .ok (.iconst 1, 1) := by decide +kernel
theorem dX5_take_25 : decode cX5_take 25 = .ok (.bastore, 1) := by decide +kernel
theorem dX5_take_26 : decode cX5_take 26 = .ok (.return_, 1) := by decide +kernel
set_option maxRecDepth 20000 in
theorem ggX5_show_X2_loadFrom : GoodIn wsX5_show wsX2_loadFrom := goodIn_r _ [6, 7, 8, 9, 10, 11, 12, 13, 14, 15, 16, 20, 21, 22, 23, 24, 25] (by decide +kernel) (by decide +kernel)
set_option maxRecDepth 20000 in
theorem gX5_show_X2_loadFrom : GoodIn wsX5_show (wsV RX5 28 RX2 yX2_loadFrom wsX2_loadFrom) := goodIn_app (goodIn_of _ (by decide +kernel)) ggX5_show_X2_loadFrom
theorem dX5_show_0 : decode cX5_show 0 = .ok (.aload_n 2, 1) := by decide +kernel
theorem dX5_show_1 : decode cX5_show 1 = .ok (.aload_n 0, 1) := by decide +kernel
theorem dX5_show_2 : decode cX5_show 2 = .ok (.getfield 11, 3) := by decide +kernel
theorem dX5_show_5 : decode cX5_show 5 = .ok (.iload_n 1, 1) := by decide +kernel
theorem dX5_show_6 : decode cX5_show 6 = .ok (.bipush 23, 2) := by decide +kernel
theorem dX5_show_8 : decode cX5_show 8 = .ok (.imul, 1) := by decide +kernel
theorem dX5_show_9 : decode cX5_show 9 = .ok (.invokevirtual 28, 3) := by decide +kernel
theorem dX5_show_12 : decode cX5_show 12 = .ok (.return_, 1) := by decide +kernel
theorem dX5_forget_0 : decode cX5_forget 0 = .ok (.iconst 0, 1) := by decide +kernel
theorem dX5_forget_1 : decode cX5_forget 1 = .ok (.istore_n 1, 1) := by decide +kernel
theorem dX5_forget_2 : decode cX5_forget 2 = .ok (.iload_n 1, 1) := by decide +kernel
theorem dX5_forget_3 : decode cX5_forget 3 = .ok (.iconst 2, 1) := by decide +kernel
theorem dX5_forget_4 : decode cX5_forget 4 = .ok (.if_icmp .ge 16, 3) := by decide +kernel
theorem dX5_forget_7 : decode cX5_forget 7 = .ok (.aload_n 0, 1) := by decide +kernel
theorem dX5_forget_8 : decode cX5_forget 8 = .ok (.getfield 20, 3) := by decide +kernel
theorem dX5_forget_11 : decode cX5_forget 11 = .ok (.iload_n 1, 1) := by decide +kernel
theorem dX5_forget_12 : decode cX5_forget 12 = .ok (.iconst 0, 1) := by decide +kernel
theorem dX5_forget_13 : decode cX5_forget 13 = .ok (.bastore, 1) := by decide +kernel
theorem dX5_forget_14 : decode cX5_forget 14 = .ok (.iinc 1 1, 3) := by decide +kernel
theorem dX5_forget_17 : decode cX5_forget 17 = .ok (.goto (-15), 3) := by decide +kernel
theorem dX5_forget_20 : decode cX5_forget 20 = .ok (.return_, 1) := by decide +kernel
theorem dX6_init_0 : decode cX6_init 0 = .ok (.aload_n 0, 1) := by decide +kernel
theorem dX6_init_1 : decode cX6_init 1 = .ok (.invokespecial 3, 3) := by decide +kernel
theorem dX6_init_4 : decode cX6_init 4 = .ok (.aload_n 0, 1) := by decide +kernel
theorem dX6_init_5 : decode cX6_init 5 = .ok (.sipush 460, 3) := by decide +kernel
theorem dX6_init_8 : decode cX6_init 8 = .ok (.newarray .int, 2) := by decide +kernel
theorem dX6_init_10 : decode cX6_init 10 = .ok (.putfield 11, 3) := by decide +kernel
theorem dX6_init_13 : decode cX6_init 13 = .ok (.return_, 1) := by decide +kernel
set_option maxRecDepth 20000 in
theorem ggX6_push_X2_saveTo : GoodIn wsX6_push wsX2_saveTo := goodIn_r _ [12, 13, 14, 15, 16, 17, 18, 19, 20, 21, 22, 26, 27, 28, 29, 30, 31] (by decide +kernel) (by decide +kernel)
set_option maxRecDepth 20000 in
theorem gX6_push_X2_saveTo : GoodIn wsX6_push (wsV RX6 21 RX2 yX2_saveTo wsX2_saveTo) := goodIn_app (goodIn_of _ (by decide +kernel)) ggX6_push_X2_saveTo
theorem dX6_push_0 : decode cX6_push 0 = .ok (.aload_n 0, 1) := by decide +kernel
theorem dX6_push_1 : decode cX6_push 1 = .ok (.aload_n 0, 1) := by decide +kernel
theorem dX6_push_2 : decode cX6_push 2 = .ok (.getfield 17, 3) := by decide +kernel
theorem dX6_push_5 : decode cX6_push 5 = .ok (.iconst 1, 1) := by decide +kernel
theorem dX6_push_6 : decode cX6_push 6 = .ok (.iadd, 1) := by decide +kernel
theorem dX6_push_7 : decode cX6_push 7 = .ok (.bipush 20, 2) := by decide +kernel
theorem dX6_push_9 : decode cX6_push 9 = .ok (.irem, 1) := by decide +kernel
theorem dX6_push_10 : decode cX6_push 10 = .ok (.putfield 17, 3) := by decide +kernel
theorem dX6_push_13 : decode cX6_push 13 = .ok (.aload_n 1, 1) := by decide +kernel
theorem dX6_push_14 : decode cX6_push 14 = .ok (.aload_n 0, 1) := by decide +kernel
theorem dX6_push_15 : decode cX6_push 15 = .ok (.getfield 11, 3) := by decide +kernel
theorem dX6_push_18 : decode cX6_push 18 = .ok (.aload_n 0, 1) := by decide +kernel
theorem dX6_push_19 : decode cX6_push 19 = .ok (.getfield 17, 3) := by decide +kernel
theorem dX6_push_22 : decode cX6_push 22 = .ok (.bipush 23, 2) := by decide +kernel
theorem dX6_push_24 : decode cX6_push 24 = .ok (.imul, 1) := by decide +kernel
theorem dX6_push_25 : decode cX6_push 25 = .ok (.invokevirtual 21, 3) := by decide +kernel
theorem dX6_push_28 : decode cX6_push 28 = .ok (.aload_n 0, 1) := by decide +kernel
theorem dX6_push_29 : decode cX6_push 29 = .ok (.aload_n 0, 1) := by decide +kernel
theorem dX6_push_30 : decode cX6_push 30 = .ok (.getfield 25, 3) := by decide +kernel
theorem dX6_push_33 : decode cX6_push 33 = .ok (.iconst 1, 1) := by decide +kernel
theorem dX6_push_34 : decode cX6_push 34 = .ok (.iadd, 1) := by decide +kernel
theorem dX6_push_35 : decode cX6_push 35 = .ok (.bipush 20, 2) := by decide +kernel
theorem dX6_push_37 : decode cX6_push 37 = .ok (.invokestatic 28, 3) := by decide +kernel
theorem dX6_push_40 : decode cX6_push 40 = .ok (.putfield 25, 3) := by decide +kernel
theorem dX6_push_43 : decode cX6_push 43 = .ok (.return_, 1) := by decide +kernel
set_option maxRecDepth 20000 in
theorem ggX6_pop_X2_loadFrom : GoodIn wsX6_pop wsX2_loadFrom := goodIn_r _ [8, 9, 10, 11, 12, 13, 14, 15, 16, 17, 18, 22, 23, 24, 25, 26, 27] (by decide +kernel) (by decide +kernel)
set_option maxRecDepth 20000 in
theorem gX6_pop_X2_loadFrom : GoodIn wsX6_pop (wsV RX6 34 RX2 yX2_loadFrom wsX2_loadFrom) := goodIn_app (goodIn_of _ (by decide +kernel)) ggX6_pop_X2_loadFrom
theorem dX6_pop_0 : decode cX6_pop 0 = .ok (.aload_n 0, 1) := by decide +kernel
theorem dX6_pop_1 : decode cX6_pop 1 = .ok (.getfield 25, 3) := by decide +kernel
theorem dX6_pop_4 : decode cX6_pop 4 = .ok (.ifCond .le 44, 3) := by decide +kernel
theorem dX6_pop_7 : decode cX6_pop 7 = .ok (.aload_n 1, 1) := by decide +kernel
theorem dX6_pop_8 : decode cX6_pop 8 = .ok (.aload_n 0, 1) := by decide +kernel
theorem dX6_pop_9 : decode cX6_pop 9 = .ok (.getfield 11, 3) := by decide +kernel
theorem dX6_pop_12 : decode cX6_pop 12 = .ok (.aload_n 0, 1) := by decide +kernel
theorem dX6_pop_13 : decode cX6_pop 13 = .ok (.getfield 17, 3) := by decide +kernel
theorem dX6_pop_16 : decode cX6_pop 16 = .ok (.bipush 23, 2) := by decide +kernel
theorem dX6_pop_18 : decode cX6_pop 18 = .ok (.imul, 1) := by decide +kernel
theorem dX6_pop_19 : decode cX6_pop 19 = .ok (.invokevirtual 34, 3) := by decide +kernel
theorem dX6_pop_22 : decode cX6_pop 22 = .ok (.aload_n 0, 1) := by decide +kernel
theorem dX6_pop_23 : decode cX6_pop 23 = .ok (.aload_n 0, 1) := by decide +kernel
theorem dX6_pop_24 : decode cX6_pop 24 = .ok (.getfield 17, 3) := by decide +kernel
theorem dX6_pop_27 : decode cX6_pop 27 = .ok (.bipush 20, 2) := by decide +kernel
theorem dX6_pop_29 : decode cX6_pop 29 = .ok (.iadd, 1) := by decide +kernel
theorem dX6_pop_30 : decode cX6_pop 30 = .ok (.iconst 1, 1) := by decide +kernel
theorem dX6_pop_31 : decode cX6_pop 31 = .ok (.isub, 1) := by decide +kernel
theorem dX6_pop_32 : decode cX6_pop 32 = .ok (.bipush 20, 2) := by decide +kernel
theorem dX6_pop_34 : decode cX6_pop 34 = .ok (.irem, 1) := by decide +kernel
theorem dX6_pop_35 : decode cX6_pop 35 = .ok (.putfield 17, 3) := by decide +kernel
theorem dX6_pop_38 : decode cX6_pop 38 = .ok (.aload_n 0, 1) := by decide +kernel
theorem dX6_pop_39 : decode cX6_pop 39 = .ok (.dup, 1) := by decide +kernel
theorem dX6_pop_40 : decode cX6_pop 40 = .ok (.getfield 25, 3) := by decide +kernel
theorem dX6_pop_43 : decode cX6_pop 43 = .ok (.iconst 1, 1) := by decide +kernel
theorem dX6_pop_44 : decode cX6_pop 44 = .ok (.isub, 1) := by decide +kernel
theorem dX6_pop_45 : decode cX6_pop 45 = .ok (.putfield 25, 3) := by decide +kernel
theorem dX6_pop_48 : decode cX6_pop 48 = .ok (.return_, 1) := by decide +kernel
theorem dX6_forget_0 : decode cX6_forget 0 = .ok (.aload_n 0, 1) := by decide +kernel
theorem dX6_forget_1 : decode cX6_forget 1 = .ok (.iconst 0, 1) := by decide +kernel
theorem dX6_forget_2 : decode cX6_forget 2 = .ok (.putfield 25, 3) := by decide +kernel
theorem dX6_forget_5 : decode cX6_forget 5 = .ok (.return_, 1) := by decide +kernel
theorem dX7_init_0 : decode cX7_init 0 = .ok (.aload_n 0, 1) := by decide +kernel
theorem dX7_init_1 : decode cX7_init 1 = .ok (.invokespecial 3, 3) := by decide +kernel
theorem dX7_init_4 : decode cX7_init 4 = .ok (.aload_n 0, 1) := by decide +kernel
theorem dX7_init_5 : decode cX7_init 5 = .ok (.iconst 5, 1) := by decide +kernel
theorem dX7_init_6 : decode cX7_init 6 = .ok (.newarray .boolean, 2) := by decide +kernel
theorem dX7_init_8 : decode cX7_init 8 = .ok (.putfield 9, 3) := by decide +kernel
theorem dX7_init_11 : decode cX7_init 11 = .ok (.aload_n 0, 1) := by decide +kernel
theorem dX7_init_12 : decode cX7_init 12 = .ok (.iconst 5, 1) := by decide +kernel
theorem dX7_init_13 : decode cX7_init 13 = .ok (.newarray .int, 2) := by decide +kernel
theorem dX7_init_15 : decode cX7_init 15 = .ok (.putfield 15, 3) := by decide +kernel
theorem dX7_init_18 : decode cX7_init 18 = .ok (.aload_n 0, 1) := by decide +kernel
theorem dX7_init_19 : decode cX7_init 19 = .ok (.iconst 5, 1) := by decide +kernel
theorem dX7_init_20 : decode cX7_init 20 = .ok (.newarray .int, 2) := by decide +kernel
theorem dX7_init_22 : decode cX7_init 22 = .ok (.putfield 19, 3) := by decide +kernel
theorem dX7_init_25 : decode cX7_init 25 = .ok (.aload_n 0, 1) := by decide +kernel
theorem dX7_init_26 : decode cX7_init 26 = .ok (.iconst 5, 1) := by decide +kernel
theorem dX7_init_27 : decode cX7_init 27 = .ok (.newarray .int, 2) := by decide +kernel
theorem dX7_init_29 : decode cX7_init 29 = .ok (.putfield 22, 3) := by decide +kernel
theorem dX7_init_32 : decode cX7_init 32 = .ok (.aload_n 0, 1) := by decide +kernel
theorem dX7_init_33 : decode cX7_init 33 = .ok (.iconst 5, 1) := by decide +kernel
theorem dX7_init_34 : decode cX7_init 34 = .ok (.newarray .int, 2) := by decide +kernel
theorem dX7_init_36 : decode cX7_init 36 = .ok (.putfield 25, 3) := by decide +kernel
theorem dX7_init_39 : decode cX7_init 39 = .ok (.aload_n 0, 1) := by decide +kernel
theorem dX7_init_40 : decode cX7_init 40 = .ok (.bipush 12, 2) := by decide +kernel
theorem dX7_init_42 : decode cX7_init 42 = .ok (.newarray .int, 2) := by decide +kernel
theorem dX7_init_44 : decode cX7_init 44 = .ok (.putfield 28, 3) := by decide +kernel
theorem dX7_init_47 : decode cX7_init 47 = .ok (.aload_n 0, 1) := by decide +kernel
theorem dX7_init_48 : decode cX7_init 48 = .ok (.bipush 13, 2) := by decide +kernel
theorem dX7_init_50 : decode cX7_init 50 = .ok (.putfield 31, 3) := by decide +kernel
theorem dX7_init_53 : decode cX7_init 53 = .ok (.return_, 1) := by decide +kernel
set_option maxRecDepth 20000 in
theorem ggX7_search_J7_fill_53178 : GoodIn wsX7_search wsJ7_fill_53178 := goodIn_r _ [18] (by decide +kernel) (by decide +kernel)
set_option maxRecDepth 20000 in
theorem gX7_search_J7_fill_53178 : GoodIn wsX7_search (va_wsS RX7 41 yJ7_fill_53178 wsJ7_fill_53178) := goodIn_app (goodIn_of _ (by decide +kernel)) ggX7_search_J7_fill_53178
set_option maxRecDepth 20000 in
theorem ggX7_search_X0_hasCase : GoodIn wsX7_search wsX0_hasCase := goodIn_r _ [23, 24, 103, 104, 105, 106, 107, 108, 109, 110, 111] (by decide +kernel) (by decide +kernel)
set_option maxRecDepth 20000 in
theorem gX7_search_X0_hasCase : GoodIn wsX7_search (wsV RX7 47 RX0 yX0_hasCase wsX0_hasCase) := goodIn_app (goodIn_of _ (by decide +kernel)) ggX7_search_X0_hasCase
set_option maxRecDepth 20000 in
theorem ggX7_search_X0_hoursOpen : GoodIn wsX7_search wsX0_hoursOpen := goodIn_r _ [28, 29, 30, 31, 22, 32, 33, 34, 13, 35, 36, 12, 14, 37, 38, 39, 40, 41, 42, 43, 44, 45, 46, 47, 48, 49, 50, 51, 52, 103, 104, 105, 106, 107, 108, 109, 110, 111] (by decide +kernel) (by decide +kernel)
set_option maxRecDepth 20000 in
theorem gX7_search_X0_hoursOpen : GoodIn wsX7_search (wsV RX7 62 RX0 yX0_hoursOpen wsX0_hoursOpen) := goodIn_app (goodIn_of _ (by decide +kernel)) ggX7_search_X0_hoursOpen
set_option maxRecDepth 20000 in
theorem ggX7_search_X7_lookAtAlone : GoodIn wsX7_search wsX7_lookAtAlone := goodIn_r _ [57, 58, 59, 2, 11, 12, 13, 14, 60, 61, 62, 63, 64, 88, 89, 90, 91, 92, 93, 94, 95, 96] (by decide +kernel) (by decide +kernel)
set_option maxRecDepth 20000 in
theorem gX7_search_X7_lookAtAlone : GoodIn wsX7_search (wsV RX7 66 RX7 yX7_lookAtAlone wsX7_lookAtAlone) := goodIn_app (goodIn_of _ (by decide +kernel)) ggX7_search_X7_lookAtAlone
set_option maxRecDepth 20000 in
theorem ggX7_search_X7_placeFrom : GoodIn wsX7_search wsX7_placeFrom := goodIn_r _ [67, 7, 58, 11, 12, 13, 14, 5, 68, 69, 70, 56, 71, 3, 6, 72, 73, 74, 75, 76, 77, 78, 79, 2, 65, 66, 80, 81, 82, 83, 59, 4, 1, 84, 85, 86, 87, 88, 89, 90, 91, 92, 93, 94, 95, 96] (by decide +kernel) (by decide +kernel)
set_option maxRecDepth 20000 in
theorem gX7_search_X7_placeFrom : GoodIn wsX7_search (va_wsS RX7 75 yX7_placeFrom wsX7_placeFrom) := goodIn_app (goodIn_of _ (by decide +kernel)) ggX7_search_X7_placeFrom
theorem dX7_search_0 : decode cX7_search 0 = .ok (.aload_n 0, 1) := by decide +kernel
theorem dX7_search_1 : decode cX7_search 1 = .ok (.iload_n 3, 1) := by decide +kernel
theorem dX7_search_2 : decode cX7_search 2 = .ok (.putfield 35, 3) := by decide +kernel
theorem dX7_search_5 : decode cX7_search 5 = .ok (.aload_n 0, 1) := by decide +kernel
theorem dX7_search_6 : decode cX7_search 6 = .ok (.iconst 0, 1) := by decide +kernel
theorem dX7_search_7 : decode cX7_search 7 = .ok (.putfield 38, 3) := by decide +kernel
theorem dX7_search_10 : decode cX7_search 10 = .ok (.aload_n 0, 1) := by decide +kernel
theorem dX7_search_11 : decode cX7_search 11 = .ok (.bipush 13, 2) := by decide +kernel
theorem dX7_search_13 : decode cX7_search 13 = .ok (.putfield 31, 3) := by decide +kernel
theorem dX7_search_16 : decode cX7_search 16 = .ok (.aload_n 0, 1) := by decide +kernel
theorem dX7_search_17 : decode cX7_search 17 = .ok (.getfield 28, 3) := by decide +kernel
theorem dX7_search_20 : decode cX7_search 20 = .ok (.iconst 0, 1) := by decide +kernel
theorem dX7_search_21 : decode cX7_search 21 = .ok (.invokestatic 41, 3) := by decide +kernel
theorem dX7_search_24 : decode cX7_search 24 = .ok (.aload_n 0, 1) := by decide +kernel
theorem dX7_search_25 : decode cX7_search 25 = .ok (.getfield 22, 3) := by decide +kernel
theorem dX7_search_28 : decode cX7_search 28 = .ok (.iconst (-1), 1) := by decide +kernel
theorem dX7_search_29 : decode cX7_search 29 = .ok (.invokestatic 41, 3) := by decide +kernel
theorem dX7_search_32 : decode cX7_search 32 = .ok (.aload_n 0, 1) := by decide +kernel
theorem dX7_search_33 : decode cX7_search 33 = .ok (.getfield 25, 3) := by decide +kernel
theorem dX7_search_36 : decode cX7_search 36 = .ok (.iconst (-1), 1) := by decide +kernel
theorem dX7_search_37 : decode cX7_search 37 = .ok (.invokestatic 41, 3) := by decide +kernel
theorem dX7_search_40 : decode cX7_search 40 = .ok (.iconst 0, 1) := by decide +kernel
theorem dX7_search_41 : decode cX7_search 41 = .ok (.istore 4, 2) := by decide +kernel
theorem dX7_search_43 : decode cX7_search 43 = .ok (.iconst 0, 1) := by decide +kernel
theorem dX7_search_44 : decode cX7_search 44 = .ok (.istore 5, 2) := by decide +kernel
theorem dX7_search_46 : decode cX7_search 46 = .ok (.iload 5, 2) := by decide +kernel
theorem dX7_search_48 : decode cX7_search 48 = .ok (.iconst 5, 1) := by decide +kernel
theorem dX7_search_49 : decode cX7_search 49 = .ok (.if_icmp .ge 85, 3) := by decide +kernel
theorem dX7_search_52 : decode cX7_search 52 = .ok (.aload_n 0, 1) := by decide +kernel
theorem dX7_search_53 : decode cX7_search 53 = .ok (.getfield 9, 3) := by decide +kernel
theorem dX7_search_56 : decode cX7_search 56 = .ok (.iload 5, 2) := by decide +kernel
theorem dX7_search_58 : decode cX7_search 58 = .ok (.aload_n 1, 1) := by decide +kernel
theorem dX7_search_59 : decode cX7_search 59 = .ok (.iload 5, 2) := by decide +kernel
theorem dX7_search_61 : decode cX7_search 61 = .ok (.invokevirtual 47, 3) := by decide +kernel
theorem dX7_search_64 : decode cX7_search 64 = .ok (.ifCond .eq 17, 3) := by decide +kernel
theorem dX7_search_67 : decode cX7_search 67 = .ok (.aload_n 2, 1) := by decide +kernel
theorem dX7_search_68 : decode cX7_search 68 = .ok (.getfield 53, 3) := by decide +kernel
theorem dX7_search_71 : decode cX7_search 71 = .ok (.iload 5, 2) := by decide +kernel
theorem dX7_search_73 : decode cX7_search 73 = .ok (.iaload, 1) := by decide +kernel
theorem dX7_search_74 : decode cX7_search 74 = .ok (.ifCond .ne 7, 3) := by decide +kernel
theorem dX7_search_77 : decode cX7_search 77 = .ok (.iconst 1, 1) := by decide +kernel
theorem dX7_search_78 : decode cX7_search 78 = .ok (.goto 4, 3) := by decide +kernel
theorem dX7_search_81 : decode cX7_search 81 = .ok (.iconst 0, 1) := by decide +kernel
theorem dX7_search_82 : decode cX7_search 82 = .ok (.bastore, 1) := by decide +kernel
theorem dX7_search_83 : decode cX7_search 83 = .ok (.aload_n 0, 1) := by decide +kernel
theorem dX7_search_84 : decode cX7_search 84 = .ok (.getfield 9, 3) := by decide +kernel
theorem dX7_search_87 : decode cX7_search 87 = .ok (.iload 5, 2) := by decide +kernel
theorem dX7_search_89 : decode cX7_search 89 = .ok (.baload, 1) := by decide +kernel
theorem dX7_search_90 : decode cX7_search 90 = .ok (.ifCond .eq 38, 3) := by decide +kernel
theorem dX7_search_93 : decode cX7_search 93 = .ok (.aload_n 0, 1) := by decide +kernel
theorem dX7_search_94 : decode cX7_search 94 = .ok (.iload 5, 2) := by decide +kernel
theorem dX7_search_96 : decode cX7_search 96 = .ok (.aload_n 1, 1) := by decide +kernel
theorem dX7_search_97 : decode cX7_search 97 = .ok (.getfield 58, 3) := by decide +kernel
theorem dX7_search_100 : decode cX7_search 100 = .ok (.iload 5, 2) := by decide +kernel
theorem dX7_search_102 : decode cX7_search 102 = .ok (.iaload, 1) := by decide +kernel
theorem dX7_search_103 : decode cX7_search 103 = .ok (.aload_n 1, 1) := by decide +kernel
theorem dX7_search_104 : decode cX7_search 104 = .ok (.iload 5, 2) := by decide +kernel
theorem dX7_search_106 : decode cX7_search 106 = .ok (.aload_n 2, 1) := by decide +kernel
theorem dX7_search_107 : decode cX7_search 107 = .ok (.getfield 59, 3) := by decide +kernel
theorem dX7_search_110 : decode cX7_search 110 = .ok (.invokevirtual 62, 3) := by decide +kernel
theorem dX7_search_113 : decode cX7_search 113 = .ok (.invokevirtual 66, 3) := by decide +kernel
theorem dX7_search_116 : decode cX7_search 116 = .ok (.iload 4, 2) := by decide +kernel
theorem dX7_search_118 : decode cX7_search 118 = .ok (.aload_n 1, 1) := by decide +kernel
theorem dX7_search_119 : decode cX7_search 119 = .ok (.getfield 58, 3) := by decide +kernel
theorem dX7_search_122 : decode cX7_search 122 = .ok (.iload 5, 2) := by decide +kernel
theorem dX7_search_124 : decode cX7_search 124 = .ok (.iaload, 1) := by decide +kernel
theorem dX7_search_125 : decode cX7_search 125 = .ok (.iadd, 1) := by decide +kernel
theorem dX7_search_126 : decode cX7_search 126 = .ok (.istore 4, 2) := by decide +kernel
theorem dX7_search_128 : decode cX7_search 128 = .ok (.iinc 5 1, 3) := by decide +kernel
theorem dX7_search_131 : decode cX7_search 131 = .ok (.goto (-85), 3) := by decide +kernel
theorem dX7_search_134 : decode cX7_search 134 = .ok (.aload_n 0, 1) := by decide +kernel
theorem dX7_search_135 : decode cX7_search 135 = .ok (.aload_n 0, 1) := by decide +kernel
theorem dX7_search_136 : decode cX7_search 136 = .ok (.getfield 38, 3) := by decide +kernel
theorem dX7_search_139 : decode cX7_search 139 = .ok (.iload_n 3, 1) := by decide +kernel
theorem dX7_search_140 : decode cX7_search 140 = .ok (.ifCond .gt 8, 3) := by decide +kernel
theorem dX7_search_143 : decode cX7_search 143 = .ok (.bipush 13, 2) := by decide +kernel
theorem dX7_search_145 : decode cX7_search 145 = .ok (.goto 11, 3) := by decide +kernel
theorem dX7_search_148 : decode cX7_search 148 = .ok (.iload 4, 2) := by decide +kernel
theorem dX7_search_150 : decode cX7_search 150 = .ok (.iload_n 3, 1) := by decide +kernel
theorem dX7_search_151 : decode cX7_search 151 = .ok (.iadd, 1) := by decide +kernel
theorem dX7_search_152 : decode cX7_search 152 = .ok (.iconst 1, 1) := by decide +kernel
theorem dX7_search_153 : decode cX7_search 153 = .ok (.isub, 1) := by decide +kernel
theorem dX7_search_154 : decode cX7_search 154 = .ok (.iload_n 3, 1) := by decide +kernel
theorem dX7_search_155 : decode cX7_search 155 = .ok (.idiv, 1) := by decide +kernel
theorem dX7_search_156 : decode cX7_search 156 = .ok (.invokestatic 70, 3) := by decide +kernel
theorem dX7_search_159 : decode cX7_search 159 = .ok (.putfield 38, 3) := by decide +kernel
theorem dX7_search_162 : decode cX7_search 162 = .ok (.aload_n 0, 1) := by decide +kernel
theorem dX7_search_163 : decode cX7_search 163 = .ok (.iconst 0, 1) := by decide +kernel
theorem dX7_search_164 : decode cX7_search 164 = .ok (.iconst 0, 1) := by decide +kernel
theorem dX7_search_165 : decode cX7_search 165 = .ok (.invokestatic 75, 3) := by decide +kernel
theorem dX7_search_168 : decode cX7_search 168 = .ok (.return_, 1) := by decide +kernel
theorem dX7_hoursForAll_0 : decode cX7_hoursForAll 0 = .ok (.aload_n 0, 1) := by decide +kernel
theorem dX7_hoursForAll_1 : decode cX7_hoursForAll 1 = .ok (.getfield 31, 3) := by decide +kernel
theorem dX7_hoursForAll_4 : decode cX7_hoursForAll 4 = .ok (.bipush 13, 2) := by decide +kernel
theorem dX7_hoursForAll_6 : decode cX7_hoursForAll 6 = .ok (.if_icmp .ne 7, 3) := by decide +kernel
theorem dX7_hoursForAll_9 : decode cX7_hoursForAll 9 = .ok (.iconst (-1), 1) := by decide +kernel
theorem dX7_hoursForAll_10 : decode cX7_hoursForAll 10 = .ok (.goto 7, 3) := by decide +kernel
theorem dX7_hoursForAll_13 : decode cX7_hoursForAll 13 = .ok (.aload_n 0, 1) := by decide +kernel
theorem dX7_hoursForAll_14 : decode cX7_hoursForAll 14 = .ok (.getfield 31, 3) := by decide +kernel
theorem dX7_hoursForAll_17 : decode cX7_hoursForAll 17 = .ok (.ireturn, 1) := by decide +kernel
theorem dX7_beginOf_0 : decode cX7_beginOf 0 = .ok (.aload_n 0, 1) := by decide +kernel
theorem dX7_beginOf_1 : decode cX7_beginOf 1 = .ok (.getfield 25, 3) := by decide +kernel
theorem dX7_beginOf_4 : decode cX7_beginOf 4 = .ok (.iload_n 1, 1) := by decide +kernel
theorem dX7_beginOf_5 : decode cX7_beginOf 5 = .ok (.iaload, 1) := by decide +kernel
theorem dX7_beginOf_6 : decode cX7_beginOf 6 = .ok (.ireturn, 1) := by decide +kernel
set_option maxRecDepth 20000 in
theorem ggX7_lookAtAlone_J6_numberOfTrailingZeros_0f7a4 : GoodIn wsX7_lookAtAlone wsJ6_numberOfTrailingZeros_0f7a4 := goodIn_r _ [11, 12] (by decide +kernel) (by decide +kernel)
set_option maxRecDepth 20000 in
theorem gX7_lookAtAlone_J6_numberOfTrailingZeros_0f7a4 : GoodIn wsX7_lookAtAlone (va_wsS RX7 79 yJ6_numberOfTrailingZeros_0f7a4 wsJ6_numberOfTrailingZeros_0f7a4) := goodIn_app (goodIn_of _ (by decide +kernel)) ggX7_lookAtAlone_J6_numberOfTrailingZeros_0f7a4
theorem dX7_lookAtAlone_0 : decode cX7_lookAtAlone 0 = .ok (.iload_n 3, 1) := by decide +kernel
theorem dX7_lookAtAlone_1 : decode cX7_lookAtAlone 1 = .ok (.istore 4, 2) := by decide +kernel
theorem dX7_lookAtAlone_3 : decode cX7_lookAtAlone 3 = .ok (.iconst 1, 1) := by decide +kernel
theorem dX7_lookAtAlone_4 : decode cX7_lookAtAlone 4 = .ok (.istore 5, 2) := by decide +kernel
theorem dX7_lookAtAlone_6 : decode cX7_lookAtAlone 6 = .ok (.iload 5, 2) := by decide +kernel
theorem dX7_lookAtAlone_8 : decode cX7_lookAtAlone 8 = .ok (.iload_n 2, 1) := by decide +kernel
theorem dX7_lookAtAlone_9 : decode cX7_lookAtAlone 9 = .ok (.if_icmp .ge 18, 3) := by decide +kernel
theorem dX7_lookAtAlone_12 : decode cX7_lookAtAlone 12 = .ok (.iload 4, 2) := by decide +kernel
theorem dX7_lookAtAlone_14 : decode cX7_lookAtAlone 14 = .ok (.iload_n 3, 1) := by decide +kernel
theorem dX7_lookAtAlone_15 : decode cX7_lookAtAlone 15 = .ok (.iload 5, 2) := by decide +kernel
theorem dX7_lookAtAlone_17 : decode cX7_lookAtAlone 17 = .ok (.ishr, 1) := by decide +kernel
theorem dX7_lookAtAlone_18 : decode cX7_lookAtAlone 18 = .ok (.iand, 1) := by decide +kernel
theorem dX7_lookAtAlone_19 : decode cX7_lookAtAlone 19 = .ok (.istore 4, 2) := by decide +kernel
theorem dX7_lookAtAlone_21 : decode cX7_lookAtAlone 21 = .ok (.iinc 5 1, 3) := by decide +kernel
theorem dX7_lookAtAlone_24 : decode cX7_lookAtAlone 24 = .ok (.goto (-18), 3) := by decide +kernel
theorem dX7_lookAtAlone_27 : decode cX7_lookAtAlone 27 = .ok (.aload_n 0, 1) := by decide +kernel
theorem dX7_lookAtAlone_28 : decode cX7_lookAtAlone 28 = .ok (.getfield 15, 3) := by decide +kernel
theorem dX7_lookAtAlone_31 : decode cX7_lookAtAlone 31 = .ok (.iload_n 1, 1) := by decide +kernel
theorem dX7_lookAtAlone_32 : decode cX7_lookAtAlone 32 = .ok (.iload_n 2, 1) := by decide +kernel
theorem dX7_lookAtAlone_33 : decode cX7_lookAtAlone 33 = .ok (.iastore, 1) := by decide +kernel
theorem dX7_lookAtAlone_34 : decode cX7_lookAtAlone 34 = .ok (.aload_n 0, 1) := by decide +kernel
theorem dX7_lookAtAlone_35 : decode cX7_lookAtAlone 35 = .ok (.getfield 19, 3) := by decide +kernel
theorem dX7_lookAtAlone_38 : decode cX7_lookAtAlone 38 = .ok (.iload_n 1, 1) := by decide +kernel
theorem dX7_lookAtAlone_39 : decode cX7_lookAtAlone 39 = .ok (.iload 4, 2) := by decide +kernel
theorem dX7_lookAtAlone_41 : decode cX7_lookAtAlone 41 = .ok (.iastore, 1) := by decide +kernel
theorem dX7_lookAtAlone_42 : decode cX7_lookAtAlone 42 = .ok (.iload 4, 2) := by decide +kernel
theorem dX7_lookAtAlone_44 : decode cX7_lookAtAlone 44 = .ok (.ifCond .ne 8, 3) := by decide +kernel
theorem dX7_lookAtAlone_47 : decode cX7_lookAtAlone 47 = .ok (.bipush 13, 2) := by decide +kernel
theorem dX7_lookAtAlone_49 : decode cX7_lookAtAlone 49 = .ok (.goto 10, 3) := by decide +kernel
theorem dX7_lookAtAlone_52 : decode cX7_lookAtAlone 52 = .ok (.iload 4, 2) := by decide +kernel
theorem dX7_lookAtAlone_54 : decode cX7_lookAtAlone 54 = .ok (.invokestatic 79, 3) := by decide +kernel
theorem dX7_lookAtAlone_57 : decode cX7_lookAtAlone 57 = .ok (.iload_n 2, 1) := by decide +kernel
theorem dX7_lookAtAlone_58 : decode cX7_lookAtAlone 58 = .ok (.iadd, 1) := by decide +kernel
theorem dX7_lookAtAlone_59 : decode cX7_lookAtAlone 59 = .ok (.istore 5, 2) := by decide +kernel
theorem dX7_lookAtAlone_61 : decode cX7_lookAtAlone 61 = .ok (.aload_n 0, 1) := by decide +kernel
theorem dX7_lookAtAlone_62 : decode cX7_lookAtAlone 62 = .ok (.aload_n 0, 1) := by decide +kernel
theorem dX7_lookAtAlone_63 : decode cX7_lookAtAlone 63 = .ok (.getfield 38, 3) := by decide +kernel
theorem dX7_lookAtAlone_66 : decode cX7_lookAtAlone 66 = .ok (.iload 5, 2) := by decide +kernel
theorem dX7_lookAtAlone_68 : decode cX7_lookAtAlone 68 = .ok (.invokestatic 70, 3) := by decide +kernel
theorem dX7_lookAtAlone_71 : decode cX7_lookAtAlone 71 = .ok (.putfield 38, 3) := by decide +kernel
theorem dX7_lookAtAlone_74 : decode cX7_lookAtAlone 74 = .ok (.return_, 1) := by decide +kernel
set_option maxRecDepth 20000 in
theorem ggX7_placeFrom_X7_keepIfSooner : GoodIn wsX7_placeFrom wsX7_keepIfSooner := goodIn_r _ [12, 13, 7, 14, 15, 16, 17, 18, 19, 20, 21, 11, 22, 23, 37, 38, 39, 40, 41, 42, 43, 44, 45] (by decide +kernel) (by decide +kernel)
set_option maxRecDepth 20000 in
theorem gX7_placeFrom_X7_keepIfSooner : GoodIn wsX7_placeFrom (wsV RX7 85 RX7 yX7_keepIfSooner wsX7_keepIfSooner) := goodIn_app (goodIn_of _ (by decide +kernel)) ggX7_placeFrom_X7_keepIfSooner
set_option maxRecDepth 20000 in
theorem ggX7_placeFrom_X7_placeFrom : GoodIn wsX7_placeFrom wsX7_placeFrom := goodIn_r _ [0, 1, 2, 3, 4, 5, 6, 7, 8, 9, 10, 11, 12, 13, 14, 15, 16, 17, 18, 19, 20, 21, 22, 23, 24, 25, 26, 27, 28, 29, 30, 31, 32, 33, 34, 35, 36, 37, 38, 39, 40, 41, 42, 43, 44, 45] (by decide +kernel) (by decide +kernel)
set_option maxRecDepth 20000 in
theorem gX7_placeFrom_X7_placeFrom : GoodIn wsX7_placeFrom (va_wsS RX7 75 yX7_placeFrom wsX7_placeFrom) := goodIn_app (goodIn_of _ (by decide +kernel)) ggX7_placeFrom_X7_placeFrom
set_option maxRecDepth 20000 in
theorem ggX7_placeFrom_X7_canBeSooner : GoodIn wsX7_placeFrom wsX7_canBeSooner := goodIn_r _ [22, 13, 23, 37, 38, 39, 40, 41, 42, 43, 44, 45] (by decide +kernel) (by decide +kernel)
set_option maxRecDepth 20000 in
theorem gX7_placeFrom_X7_canBeSooner : GoodIn wsX7_placeFrom (wsV RX7 89 RX7 yX7_canBeSooner wsX7_canBeSooner) := goodIn_app (goodIn_of _ (by decide +kernel)) ggX7_placeFrom_X7_canBeSooner
set_option maxRecDepth 20000 in
theorem ggX7_placeFrom_X7_fits : GoodIn wsX7_placeFrom wsX7_fits := goodIn_r _ [29, 30, 2, 31, 32, 37, 38, 39, 40, 41, 42, 43, 44, 45] (by decide +kernel) (by decide +kernel)
set_option maxRecDepth 20000 in
theorem gX7_placeFrom_X7_fits : GoodIn wsX7_placeFrom (wsV RX7 92 RX7 yX7_fits wsX7_fits) := goodIn_app (goodIn_of _ (by decide +kernel)) ggX7_placeFrom_X7_fits
set_option maxRecDepth 20000 in
theorem ggX7_placeFrom_X7_occupy : GoodIn wsX7_placeFrom wsX7_occupy := goodIn_r _ [36, 2, 31, 37, 38, 39, 40, 41, 42, 43, 44, 45] (by decide +kernel) (by decide +kernel)
set_option maxRecDepth 20000 in
theorem gX7_placeFrom_X7_occupy : GoodIn wsX7_placeFrom (wsV RX7 96 RX7 yX7_occupy wsX7_occupy) := goodIn_app (goodIn_of _ (by decide +kernel)) ggX7_placeFrom_X7_occupy
theorem dX7_placeFrom_0 : decode cX7_placeFrom 0 = .ok (.iload_n 1, 1) := by decide +kernel
theorem dX7_placeFrom_1 : decode cX7_placeFrom 1 = .ok (.ifCond .lt 8, 3) := by decide +kernel
theorem dX7_placeFrom_4 : decode cX7_placeFrom 4 = .ok (.iload_n 1, 1) := by decide +kernel
theorem dX7_placeFrom_5 : decode cX7_placeFrom 5 = .ok (.iconst 5, 1) := by decide +kernel
theorem dX7_placeFrom_6 : decode cX7_placeFrom 6 = .ok (.if_icmp .lt 9, 3) := by decide +kernel
theorem dX7_placeFrom_9 : decode cX7_placeFrom 9 = .ok (.aload_n 0, 1) := by decide +kernel
theorem dX7_placeFrom_10 : decode cX7_placeFrom 10 = .ok (.iload_n 2, 1) := by decide +kernel
theorem dX7_placeFrom_11 : decode cX7_placeFrom 11 = .ok (.invokevirtual 85, 3) := by decide +kernel
theorem dX7_placeFrom_14 : decode cX7_placeFrom 14 = .ok (.return_, 1) := by decide +kernel
theorem dX7_placeFrom_15 : decode cX7_placeFrom 15 = .ok (.aload_n 0, 1) := by decide +kernel
theorem dX7_placeFrom_16 : decode cX7_placeFrom 16 = .ok (.getfield 9, 3) := by decide +kernel
theorem dX7_placeFrom_19 : decode cX7_placeFrom 19 = .ok (.iload_n 1, 1) := by decide +kernel
theorem dX7_placeFrom_20 : decode cX7_placeFrom 20 = .ok (.baload, 1) := by decide +kernel
theorem dX7_placeFrom_21 : decode cX7_placeFrom 21 = .ok (.ifCond .ne 12, 3) := by decide +kernel
theorem dX7_placeFrom_24 : decode cX7_placeFrom 24 = .ok (.aload_n 0, 1) := by decide +kernel
theorem dX7_placeFrom_25 : decode cX7_placeFrom 25 = .ok (.iload_n 1, 1) := by decide +kernel
theorem dX7_placeFrom_26 : decode cX7_placeFrom 26 = .ok (.iconst 1, 1) := by decide +kernel
theorem dX7_placeFrom_27 : decode cX7_placeFrom 27 = .ok (.iadd, 1) := by decide +kernel
theorem dX7_placeFrom_28 : decode cX7_placeFrom 28 = .ok (.iload_n 2, 1) := by decide +kernel
theorem dX7_placeFrom_29 : decode cX7_placeFrom 29 = .ok (.invokestatic 75, 3) := by decide +kernel
theorem dX7_placeFrom_32 : decode cX7_placeFrom 32 = .ok (.return_, 1) := by decide +kernel
theorem dX7_placeFrom_33 : decode cX7_placeFrom 33 = .ok (.iconst 0, 1) := by decide +kernel
theorem dX7_placeFrom_34 : decode cX7_placeFrom 34 = .ok (.istore_n 3, 1) := by decide +kernel
theorem dX7_placeFrom_35 : decode cX7_placeFrom 35 = .ok (.iload_n 3, 1) := by decide +kernel
theorem dX7_placeFrom_36 : decode cX7_placeFrom 36 = .ok (.bipush 12, 2) := by decide +kernel
theorem dX7_placeFrom_38 : decode cX7_placeFrom 38 = .ok (.if_icmp .ge 77, 3) := by decide +kernel
theorem dX7_placeFrom_41 : decode cX7_placeFrom 41 = .ok (.aload_n 0, 1) := by decide +kernel
theorem dX7_placeFrom_42 : decode cX7_placeFrom 42 = .ok (.iload_n 2, 1) := by decide +kernel
theorem dX7_placeFrom_43 : decode cX7_placeFrom 43 = .ok (.iload_n 3, 1) := by decide +kernel
theorem dX7_placeFrom_44 : decode cX7_placeFrom 44 = .ok (.aload_n 0, 1) := by decide +kernel
theorem dX7_placeFrom_45 : decode cX7_placeFrom 45 = .ok (.getfield 15, 3) := by decide +kernel
theorem dX7_placeFrom_48 : decode cX7_placeFrom 48 = .ok (.iload_n 1, 1) := by decide +kernel
theorem dX7_placeFrom_49 : decode cX7_placeFrom 49 = .ok (.iaload, 1) := by decide +kernel
theorem dX7_placeFrom_50 : decode cX7_placeFrom 50 = .ok (.iadd, 1) := by decide +kernel
theorem dX7_placeFrom_51 : decode cX7_placeFrom 51 = .ok (.invokestatic 70, 3) := by decide +kernel
theorem dX7_placeFrom_54 : decode cX7_placeFrom 54 = .ok (.invokevirtual 89, 3) := by decide +kernel
theorem dX7_placeFrom_57 : decode cX7_placeFrom 57 = .ok (.ifCond .eq 58, 3) := by decide +kernel
theorem dX7_placeFrom_60 : decode cX7_placeFrom 60 = .ok (.aload_n 0, 1) := by decide +kernel
theorem dX7_placeFrom_61 : decode cX7_placeFrom 61 = .ok (.iload_n 1, 1) := by decide +kernel
theorem dX7_placeFrom_62 : decode cX7_placeFrom 62 = .ok (.iload_n 3, 1) := by decide +kernel
theorem dX7_placeFrom_63 : decode cX7_placeFrom 63 = .ok (.invokevirtual 92, 3) := by decide +kernel
theorem dX7_placeFrom_66 : decode cX7_placeFrom 66 = .ok (.ifCond .eq 43, 3) := by decide +kernel
theorem dX7_placeFrom_69 : decode cX7_placeFrom 69 = .ok (.aload_n 0, 1) := by decide +kernel
theorem dX7_placeFrom_70 : decode cX7_placeFrom 70 = .ok (.getfield 22, 3) := by decide +kernel
theorem dX7_placeFrom_73 : decode cX7_placeFrom 73 = .ok (.iload_n 1, 1) := by decide +kernel
theorem dX7_placeFrom_74 : decode cX7_placeFrom 74 = .ok (.iload_n 3, 1) := by decide +kernel
theorem dX7_placeFrom_75 : decode cX7_placeFrom 75 = .ok (.iastore, 1) := by decide +kernel
theorem dX7_placeFrom_76 : decode cX7_placeFrom 76 = .ok (.aload_n 0, 1) := by decide +kernel
theorem dX7_placeFrom_77 : decode cX7_placeFrom 77 = .ok (.iload_n 1, 1) := by decide +kernel
theorem dX7_placeFrom_78 : decode cX7_placeFrom 78 = .ok (.iload_n 3, 1) := by decide +kernel
theorem dX7_placeFrom_79 : decode cX7_placeFrom 79 = .ok (.iconst 1, 1) := by decide +kernel
theorem dX7_placeFrom_80 : decode cX7_placeFrom 80 = .ok (.invokevirtual 96, 3) := by decide +kernel
theorem dX7_placeFrom_83 : decode cX7_placeFrom 83 = .ok (.aload_n 0, 1) := by decide +kernel
theorem dX7_placeFrom_84 : decode cX7_placeFrom 84 = .ok (.iload_n 1, 1) := by decide +kernel
theorem dX7_placeFrom_85 : decode cX7_placeFrom 85 = .ok (.iconst 1, 1) := by decide +kernel
theorem dX7_placeFrom_86 : decode cX7_placeFrom 86 = .ok (.iadd, 1) := by decide +kernel
theorem dX7_placeFrom_87 : decode cX7_placeFrom 87 = .ok (.iload_n 2, 1) := by decide +kernel
theorem dX7_placeFrom_88 : decode cX7_placeFrom 88 = .ok (.iload_n 3, 1) := by decide +kernel
theorem dX7_placeFrom_89 : decode cX7_placeFrom 89 = .ok (.aload_n 0, 1) := by decide +kernel
theorem dX7_placeFrom_90 : decode cX7_placeFrom 90 = .ok (.getfield 15, 3) := by decide +kernel
theorem dX7_placeFrom_93 : decode cX7_placeFrom 93 = .ok (.iload_n 1, 1) := by decide +kernel
theorem dX7_placeFrom_94 : decode cX7_placeFrom 94 = .ok (.iaload, 1) := by decide +kernel
theorem dX7_placeFrom_95 : decode cX7_placeFrom 95 = .ok (.iadd, 1) := by decide +kernel
theorem dX7_placeFrom_96 : decode cX7_placeFrom 96 = .ok (.invokestatic 70, 3) := by decide +kernel
theorem dX7_placeFrom_99 : decode cX7_placeFrom 99 = .ok (.invokestatic 75, 3) := by decide +kernel
theorem dX7_placeFrom_102 : decode cX7_placeFrom 102 = .ok (.aload_n 0, 1) := by decide +kernel
theorem dX7_placeFrom_103 : decode cX7_placeFrom 103 = .ok (.iload_n 1, 1) := by decide +kernel
theorem dX7_placeFrom_104 : decode cX7_placeFrom 104 = .ok (.iload_n 3, 1) := by decide +kernel
theorem dX7_placeFrom_105 : decode cX7_placeFrom 105 = .ok (.iconst (-1), 1) := by decide +kernel
theorem dX7_placeFrom_106 : decode cX7_placeFrom 106 = .ok (.invokevirtual 96, 3) := by decide +kernel
theorem dX7_placeFrom_109 : decode cX7_placeFrom 109 = .ok (.iinc 3 1, 3) := by decide +kernel
theorem dX7_placeFrom_112 : decode cX7_placeFrom 112 = .ok (.goto (-77), 3) := by decide +kernel
theorem dX7_placeFrom_115 : decode cX7_placeFrom 115 = .ok (.return_, 1) := by decide +kernel
theorem dX7_canBeSooner_0 : decode cX7_canBeSooner 0 = .ok (.iload_n 1, 1) := by decide +kernel
theorem dX7_canBeSooner_1 : decode cX7_canBeSooner 1 = .ok (.aload_n 0, 1) := by decide +kernel
theorem dX7_canBeSooner_2 : decode cX7_canBeSooner 2 = .ok (.getfield 31, 3) := by decide +kernel
theorem dX7_canBeSooner_5 : decode cX7_canBeSooner 5 = .ok (.if_icmp .ge 18, 3) := by decide +kernel
theorem dX7_canBeSooner_8 : decode cX7_canBeSooner 8 = .ok (.aload_n 0, 1) := by decide +kernel
theorem dX7_canBeSooner_9 : decode cX7_canBeSooner 9 = .ok (.getfield 38, 3) := by decide +kernel
theorem dX7_canBeSooner_12 : decode cX7_canBeSooner 12 = .ok (.aload_n 0, 1) := by decide +kernel
theorem dX7_canBeSooner_13 : decode cX7_canBeSooner 13 = .ok (.getfield 31, 3) := by decide +kernel
theorem dX7_canBeSooner_16 : decode cX7_canBeSooner 16 = .ok (.if_icmp .ge 7, 3) := by decide +kernel
theorem dX7_canBeSooner_19 : decode cX7_canBeSooner 19 = .ok (.iconst 1, 1) := by decide +kernel
theorem dX7_canBeSooner_20 : decode cX7_canBeSooner 20 = .ok (.goto 4, 3) := by decide +kernel
theorem dX7_canBeSooner_23 : decode cX7_canBeSooner 23 = .ok (.iconst 0, 1) := by decide +kernel
theorem dX7_canBeSooner_24 : decode cX7_canBeSooner 24 = .ok (.ireturn, 1) := by decide +kernel
set_option maxRecDepth 20000 in
theorem ggX7_keepIfSooner_X7_canBeSooner : GoodIn wsX7_keepIfSooner wsX7_canBeSooner := goodIn_r _ [12, 1, 13, 14, 15, 16, 17, 18, 19, 20, 21, 22] (by decide +kernel) (by decide +kernel)
set_option maxRecDepth 20000 in
theorem gX7_keepIfSooner_X7_canBeSooner : GoodIn wsX7_keepIfSooner (wsV RX7 89 RX7 yX7_canBeSooner wsX7_canBeSooner) := goodIn_app (goodIn_of _ (by decide +kernel)) ggX7_keepIfSooner_X7_canBeSooner
theorem dX7_keepIfSooner_0 : decode cX7_keepIfSooner 0 = .ok (.aload_n 0, 1) := by decide +kernel
theorem dX7_keepIfSooner_1 : decode cX7_keepIfSooner 1 = .ok (.iload_n 1, 1) := by decide +kernel
theorem dX7_keepIfSooner_2 : decode cX7_keepIfSooner 2 = .ok (.invokevirtual 89, 3) := by decide +kernel
theorem dX7_keepIfSooner_5 : decode cX7_keepIfSooner 5 = .ok (.ifCond .eq 22, 3) := by decide +kernel
theorem dX7_keepIfSooner_8 : decode cX7_keepIfSooner 8 = .ok (.aload_n 0, 1) := by decide +kernel
theorem dX7_keepIfSooner_9 : decode cX7_keepIfSooner 9 = .ok (.iload_n 1, 1) := by decide +kernel
theorem dX7_keepIfSooner_10 : decode cX7_keepIfSooner 10 = .ok (.putfield 31, 3) := by decide +kernel
theorem dX7_keepIfSooner_13 : decode cX7_keepIfSooner 13 = .ok (.aload_n 0, 1) := by decide +kernel
theorem dX7_keepIfSooner_14 : decode cX7_keepIfSooner 14 = .ok (.getfield 22, 3) := by decide +kernel
theorem dX7_keepIfSooner_17 : decode cX7_keepIfSooner 17 = .ok (.iconst 0, 1) := by decide +kernel
theorem dX7_keepIfSooner_18 : decode cX7_keepIfSooner 18 = .ok (.aload_n 0, 1) := by decide +kernel
theorem dX7_keepIfSooner_19 : decode cX7_keepIfSooner 19 = .ok (.getfield 25, 3) := by decide +kernel
theorem dX7_keepIfSooner_22 : decode cX7_keepIfSooner 22 = .ok (.iconst 0, 1) := by decide +kernel
theorem dX7_keepIfSooner_23 : decode cX7_keepIfSooner 23 = .ok (.iconst 5, 1) := by decide +kernel
theorem dX7_keepIfSooner_24 : decode cX7_keepIfSooner 24 = .ok (.invokestatic 99, 3) := by decide +kernel
theorem dX7_keepIfSooner_27 : decode cX7_keepIfSooner 27 = .ok (.return_, 1) := by decide +kernel
theorem dX7_fits_0 : decode cX7_fits 0 = .ok (.aload_n 0, 1) := by decide +kernel
theorem dX7_fits_1 : decode cX7_fits 1 = .ok (.getfield 19, 3) := by decide +kernel
theorem dX7_fits_4 : decode cX7_fits 4 = .ok (.iload_n 1, 1) := by decide +kernel
theorem dX7_fits_5 : decode cX7_fits 5 = .ok (.iaload, 1) := by decide +kernel
theorem dX7_fits_6 : decode cX7_fits 6 = .ok (.iload_n 2, 1) := by decide +kernel
theorem dX7_fits_7 : decode cX7_fits 7 = .ok (.ishr, 1) := by decide +kernel
theorem dX7_fits_8 : decode cX7_fits 8 = .ok (.iconst 1, 1) := by decide +kernel
theorem dX7_fits_9 : decode cX7_fits 9 = .ok (.iand, 1) := by decide +kernel
theorem dX7_fits_10 : decode cX7_fits 10 = .ok (.ifCond .ne 5, 3) := by decide +kernel
theorem dX7_fits_13 : decode cX7_fits 13 = .ok (.iconst 0, 1) := by decide +kernel
theorem dX7_fits_14 : decode cX7_fits 14 = .ok (.ireturn, 1) := by decide +kernel
theorem dX7_fits_15 : decode cX7_fits 15 = .ok (.iload_n 2, 1) := by decide +kernel
theorem dX7_fits_16 : decode cX7_fits 16 = .ok (.istore_n 3, 1) := by decide +kernel
theorem dX7_fits_17 : decode cX7_fits 17 = .ok (.iload_n 3, 1) := by decide +kernel
theorem dX7_fits_18 : decode cX7_fits 18 = .ok (.iload_n 2, 1) := by decide +kernel
theorem dX7_fits_19 : decode cX7_fits 19 = .ok (.aload_n 0, 1) := by decide +kernel
theorem dX7_fits_20 : decode cX7_fits 20 = .ok (.getfield 15, 3) := by decide +kernel
theorem dX7_fits_23 : decode cX7_fits 23 = .ok (.iload_n 1, 1) := by decide +kernel
theorem dX7_fits_24 : decode cX7_fits 24 = .ok (.iaload, 1) := by decide +kernel
theorem dX7_fits_25 : decode cX7_fits 25 = .ok (.iadd, 1) := by decide +kernel
theorem dX7_fits_26 : decode cX7_fits 26 = .ok (.if_icmp .ge 30, 3) := by decide +kernel
theorem dX7_fits_29 : decode cX7_fits 29 = .ok (.iload_n 3, 1) := by decide +kernel
theorem dX7_fits_30 : decode cX7_fits 30 = .ok (.bipush 12, 2) := by decide +kernel
theorem dX7_fits_32 : decode cX7_fits 32 = .ok (.if_icmp .ge 24, 3) := by decide +kernel
theorem dX7_fits_35 : decode cX7_fits 35 = .ok (.aload_n 0, 1) := by decide +kernel
theorem dX7_fits_36 : decode cX7_fits 36 = .ok (.getfield 28, 3) := by decide +kernel
theorem dX7_fits_39 : decode cX7_fits 39 = .ok (.iload_n 3, 1) := by decide +kernel
theorem dX7_fits_40 : decode cX7_fits 40 = .ok (.iaload, 1) := by decide +kernel
theorem dX7_fits_41 : decode cX7_fits 41 = .ok (.aload_n 0, 1) := by decide +kernel
theorem dX7_fits_42 : decode cX7_fits 42 = .ok (.getfield 35, 3) := by decide +kernel
theorem dX7_fits_45 : decode cX7_fits 45 = .ok (.if_icmp .lt 5, 3) := by decide +kernel
theorem dX7_fits_48 : decode cX7_fits 48 = .ok (.iconst 0, 1) := by decide +kernel
theorem dX7_fits_49 : decode cX7_fits 49 = .ok (.ireturn, 1) := by decide +kernel
theorem dX7_fits_50 : decode cX7_fits 50 = .ok (.iinc 3 1, 3) := by decide +kernel
theorem dX7_fits_53 : decode cX7_fits 53 = .ok (.goto (-36), 3) := by decide +kernel
theorem dX7_fits_56 : decode cX7_fits 56 = .ok (.iconst 1, 1) := by decide +kernel
theorem dX7_fits_57 : decode cX7_fits 57 = .ok (.ireturn, 1) := by decide +kernel
theorem dX7_occupy_0 : decode cX7_occupy 0 = .ok (.iload_n 2, 1) := by decide +kernel
theorem dX7_occupy_1 : decode cX7_occupy 1 = .ok (.istore 4, 2) := by decide +kernel
theorem dX7_occupy_3 : decode cX7_occupy 3 = .ok (.iload 4, 2) := by decide +kernel
theorem dX7_occupy_5 : decode cX7_occupy 5 = .ok (.iload_n 2, 1) := by decide +kernel
theorem dX7_occupy_6 : decode cX7_occupy 6 = .ok (.aload_n 0, 1) := by decide +kernel
theorem dX7_occupy_7 : decode cX7_occupy 7 = .ok (.getfield 15, 3) := by decide +kernel
theorem dX7_occupy_10 : decode cX7_occupy 10 = .ok (.iload_n 1, 1) := by decide +kernel
theorem dX7_occupy_11 : decode cX7_occupy 11 = .ok (.iaload, 1) := by decide +kernel
theorem dX7_occupy_12 : decode cX7_occupy 12 = .ok (.iadd, 1) := by decide +kernel
theorem dX7_occupy_13 : decode cX7_occupy 13 = .ok (.if_icmp .ge 27, 3) := by decide +kernel
theorem dX7_occupy_16 : decode cX7_occupy 16 = .ok (.iload 4, 2) := by decide +kernel
theorem dX7_occupy_18 : decode cX7_occupy 18 = .ok (.bipush 12, 2) := by decide +kernel
theorem dX7_occupy_20 : decode cX7_occupy 20 = .ok (.if_icmp .ge 20, 3) := by decide +kernel
theorem dX7_occupy_23 : decode cX7_occupy 23 = .ok (.aload_n 0, 1) := by decide +kernel
theorem dX7_occupy_24 : decode cX7_occupy 24 = .ok (.getfield 28, 3) := by decide +kernel
theorem dX7_occupy_27 : decode cX7_occupy 27 = .ok (.iload 4, 2) := by decide +kernel
theorem dX7_occupy_29 : decode cX7_occupy 29 = .ok (.dup2, 1) := by decide +kernel
theorem dX7_occupy_30 : decode cX7_occupy 30 = .ok (.iaload, 1) := by decide +kernel
theorem dX7_occupy_31 : decode cX7_occupy 31 = .ok (.iload_n 3, 1) := by decide +kernel
theorem dX7_occupy_32 : decode cX7_occupy 32 = .ok (.iadd, 1) := by decide +kernel
theorem dX7_occupy_33 : decode cX7_occupy 33 = .ok (.iastore, 1) := by decide +kernel
theorem dX7_occupy_34 : decode cX7_occupy 34 = .ok (.iinc 4 1, 3) := by decide +kernel
theorem dX7_occupy_37 : decode cX7_occupy 37 = .ok (.goto (-34), 3) := by decide +kernel
theorem dX7_occupy_40 : decode cX7_occupy 40 = .ok (.return_, 1) := by decide +kernel
theorem dX8_init_0 : decode cX8_init 0 = .ok (.aload_n 0, 1) := by decide +kernel
theorem dX8_init_1 : decode cX8_init 1 = .ok (.invokespecial 3, 3) := by decide +kernel
theorem dX8_init_4 : decode cX8_init 4 = .ok (.aload_n 0, 1) := by decide +kernel
theorem dX8_init_5 : decode cX8_init 5 = .ok (.sipush 240, 3) := by decide +kernel
theorem dX8_init_8 : decode cX8_init 8 = .ok (.newarray .int, 2) := by decide +kernel
theorem dX8_init_10 : decode cX8_init 10 = .ok (.putfield 9, 3) := by decide +kernel
theorem dX8_init_13 : decode cX8_init 13 = .ok (.aload_n 0, 1) := by decide +kernel
theorem dX8_init_14 : decode cX8_init 14 = .ok (.iconst (-1), 1) := by decide +kernel
theorem dX8_init_15 : decode cX8_init 15 = .ok (.putfield 15, 3) := by decide +kernel
theorem dX8_init_18 : decode cX8_init 18 = .ok (.return_, 1) := by decide +kernel
theorem dX8_add_0 : decode cX8_add 0 = .ok (.aload_n 0, 1) := by decide +kernel
theorem dX8_add_1 : decode cX8_add 1 = .ok (.getfield 19, 3) := by decide +kernel
theorem dX8_add_4 : decode cX8_add 4 = .ok (.sipush 240, 3) := by decide +kernel
theorem dX8_add_7 : decode cX8_add 7 = .ok (.if_icmp .ge 23, 3) := by decide +kernel
theorem dX8_add_10 : decode cX8_add 10 = .ok (.aload_n 0, 1) := by decide +kernel
theorem dX8_add_11 : decode cX8_add 11 = .ok (.getfield 9, 3) := by decide +kernel
theorem dX8_add_14 : decode cX8_add 14 = .ok (.aload_n 0, 1) := by decide +kernel
theorem dX8_add_15 : decode cX8_add 15 = .ok (.getfield 19, 3) := by decide +kernel
theorem dX8_add_18 : decode cX8_add 18 = .ok (.iload_n 1, 1) := by decide +kernel
theorem dX8_add_19 : decode cX8_add 19 = .ok (.iastore, 1) := by decide +kernel
theorem dX8_add_20 : decode cX8_add 20 = .ok (.aload_n 0, 1) := by decide +kernel
theorem dX8_add_21 : decode cX8_add 21 = .ok (.dup, 1) := by decide +kernel
theorem dX8_add_22 : decode cX8_add 22 = .ok (.getfield 19, 3) := by decide +kernel
theorem dX8_add_25 : decode cX8_add 25 = .ok (.iconst 1, 1) := by decide +kernel
theorem dX8_add_26 : decode cX8_add 26 = .ok (.iadd, 1) := by decide +kernel
theorem dX8_add_27 : decode cX8_add 27 = .ok (.putfield 19, 3) := by decide +kernel
theorem dX8_add_30 : decode cX8_add 30 = .ok (.aload_n 0, 1) := by decide +kernel
theorem dX8_add_31 : decode cX8_add 31 = .ok (.getfield 19, 3) := by decide +kernel
theorem dX8_add_34 : decode cX8_add 34 = .ok (.ireturn, 1) := by decide +kernel
set_option maxRecDepth 20000 in
theorem ggX8_readInto_X0_clear : GoodIn wsX8_readInto wsX0_clear := goodIn_r _ [9, 10, 11, 12, 88, 89, 90, 91, 92, 93, 94, 95, 96] (by decide +kernel) (by decide +kernel)
set_option maxRecDepth 20000 in
theorem gX8_readInto_X0_clear : GoodIn wsX8_readInto (wsV RX8 28 RX0 yX0_clear wsX0_clear) := goodIn_app (goodIn_of _ (by decide +kernel)) ggX8_readInto_X0_clear
set_option maxRecDepth 20000 in
theorem ggX8_readInto_X8_skipBlanks : GoodIn wsX8_readInto wsX8_skipBlanks := goodIn_r _ [17, 1, 4, 18, 19, 20, 16, 21, 22, 83, 84, 85, 86, 87] (by decide +kernel) (by decide +kernel)
set_option maxRecDepth 20000 in
theorem gX8_readInto_X8_skipBlanks : GoodIn wsX8_readInto (wsV RX8 33 RX8 yX8_skipBlanks wsX8_skipBlanks) := goodIn_app (goodIn_of _ (by decide +kernel)) ggX8_readInto_X8_skipBlanks
set_option maxRecDepth 20000 in
theorem ggX8_readInto_X8_readClause : GoodIn wsX8_readInto wsX8_readClause := goodIn_r _ [26, 1, 18, 19, 20, 16, 21, 4, 22, 27, 28, 29, 30, 31, 32, 33, 34, 8, 35, 10, 36, 37, 38, 39, 2, 3, 40, 41, 42, 43, 13, 14, 15, 17, 44, 45, 46, 47, 48, 49, 50, 51, 52, 53, 54, 55, 56, 57, 58, 59, 60, 61, 62, 63, 64, 65, 66, 67, 68, 11, 69, 70, 71, 72, 73, 74, 75, 76, 77, 78, 12, 79, 80, 81, 82, 83, 84, 85, 86, 87, 88, 89, 90, 91, 92, 93, 94, 95, 96] (by decide +kernel) (by decide +kernel)
set_option maxRecDepth 20000 in
theorem gX8_readInto_X8_readClause : GoodIn wsX8_readInto (wsV RX8 36 RX8 yX8_readClause wsX8_readClause) := goodIn_app (goodIn_of _ (by decide +kernel)) ggX8_readInto_X8_readClause
theorem dX8_readInto_0 : decode cX8_readInto 0 = .ok (.aload_n 0, 1) := by decide +kernel
theorem dX8_readInto_1 : decode cX8_readInto 1 = .ok (.iconst 0, 1) := by decide +kernel
theorem dX8_readInto_2 : decode cX8_readInto 2 = .ok (.putfield 22, 3) := by decide +kernel
theorem dX8_readInto_5 : decode cX8_readInto 5 = .ok (.aload_n 0, 1) := by decide +kernel
theorem dX8_readInto_6 : decode cX8_readInto 6 = .ok (.iconst 0, 1) := by decide +kernel
theorem dX8_readInto_7 : decode cX8_readInto 7 = .ok (.putfield 25, 3) := by decide +kernel
theorem dX8_readInto_10 : decode cX8_readInto 10 = .ok (.aload_n 0, 1) := by decide +kernel
theorem dX8_readInto_11 : decode cX8_readInto 11 = .ok (.iconst (-1), 1) := by decide +kernel
theorem dX8_readInto_12 : decode cX8_readInto 12 = .ok (.putfield 15, 3) := by decide +kernel
theorem dX8_readInto_15 : decode cX8_readInto 15 = .ok (.aload_n 1, 1) := by decide +kernel
theorem dX8_readInto_16 : decode cX8_readInto 16 = .ok (.invokevirtual 28, 3) := by decide +kernel
theorem dX8_readInto_19 : decode cX8_readInto 19 = .ok (.aload_n 0, 1) := by decide +kernel
theorem dX8_readInto_20 : decode cX8_readInto 20 = .ok (.invokevirtual 33, 3) := by decide +kernel
theorem dX8_readInto_23 : decode cX8_readInto 23 = .ok (.iconst 0, 1) := by decide +kernel
theorem dX8_readInto_24 : decode cX8_readInto 24 = .ok (.istore_n 2, 1) := by decide +kernel
theorem dX8_readInto_25 : decode cX8_readInto 25 = .ok (.iload_n 2, 1) := by decide +kernel
theorem dX8_readInto_26 : decode cX8_readInto 26 = .ok (.sipush 240, 3) := by decide +kernel
theorem dX8_readInto_29 : decode cX8_readInto 29 = .ok (.if_icmp .ge 36, 3) := by decide +kernel
theorem dX8_readInto_32 : decode cX8_readInto 32 = .ok (.aload_n 0, 1) := by decide +kernel
theorem dX8_readInto_33 : decode cX8_readInto 33 = .ok (.getfield 22, 3) := by decide +kernel
theorem dX8_readInto_36 : decode cX8_readInto 36 = .ok (.aload_n 0, 1) := by decide +kernel
theorem dX8_readInto_37 : decode cX8_readInto 37 = .ok (.getfield 19, 3) := by decide +kernel
theorem dX8_readInto_40 : decode cX8_readInto 40 = .ok (.if_icmp .ge 25, 3) := by decide +kernel
theorem dX8_readInto_43 : decode cX8_readInto 43 = .ok (.aload_n 0, 1) := by decide +kernel
theorem dX8_readInto_44 : decode cX8_readInto 44 = .ok (.getfield 25, 3) := by decide +kernel
theorem dX8_readInto_47 : decode cX8_readInto 47 = .ok (.ifCond .ne 18, 3) := by decide +kernel
theorem dX8_readInto_50 : decode cX8_readInto 50 = .ok (.aload_n 0, 1) := by decide +kernel
theorem dX8_readInto_51 : decode cX8_readInto 51 = .ok (.aload_n 1, 1) := by decide +kernel
theorem dX8_readInto_52 : decode cX8_readInto 52 = .ok (.invokevirtual 36, 3) := by decide +kernel
theorem dX8_readInto_55 : decode cX8_readInto 55 = .ok (.aload_n 0, 1) := by decide +kernel
theorem dX8_readInto_56 : decode cX8_readInto 56 = .ok (.invokevirtual 33, 3) := by decide +kernel
theorem dX8_readInto_59 : decode cX8_readInto 59 = .ok (.iinc 2 1, 3) := by decide +kernel
theorem dX8_readInto_62 : decode cX8_readInto 62 = .ok (.goto (-37), 3) := by decide +kernel
theorem dX8_readInto_65 : decode cX8_readInto 65 = .ok (.aload_n 0, 1) := by decide +kernel
theorem dX8_readInto_66 : decode cX8_readInto 66 = .ok (.iconst 0, 1) := by decide +kernel
theorem dX8_readInto_67 : decode cX8_readInto 67 = .ok (.putfield 19, 3) := by decide +kernel
theorem dX8_readInto_70 : decode cX8_readInto 70 = .ok (.return_, 1) := by decide +kernel
set_option maxRecDepth 20000 in
theorem ggX8_readClause_X8_letter : GoodIn wsX8_readClause wsX8_letter := goodIn_r _ [6, 1, 7, 8, 75, 76, 77, 78, 79] (by decide +kernel) (by decide +kernel)
set_option maxRecDepth 20000 in
theorem gX8_readClause_X8_letter : GoodIn wsX8_readClause (wsV RX8 40 RX8 yX8_letter wsX8_letter) := goodIn_app (goodIn_of _ (by decide +kernel)) ggX8_readClause_X8_letter
set_option maxRecDepth 20000 in
theorem ggX8_readClause_X8_readTide : GoodIn wsX8_readClause wsX8_readTide := goodIn_r _ [12, 13, 14, 15, 16, 17, 18, 19, 20, 21, 22, 5, 23, 24, 25, 26, 27, 28, 29, 1, 7, 30, 31, 32, 33, 2, 3, 4, 6, 8, 34, 35, 36, 37, 38, 39, 40, 41, 42, 43, 44, 45, 46, 47, 48, 49, 80, 81, 82, 83, 84, 85, 86, 87, 88, 75, 76, 77, 78, 79] (by decide +kernel) (by decide +kernel)
set_option maxRecDepth 20000 in
theorem gX8_readClause_X8_readTide : GoodIn wsX8_readClause (wsV RX8 44 RX8 yX8_readTide wsX8_readTide) := goodIn_app (goodIn_of _ (by decide +kernel)) ggX8_readClause_X8_readTide
set_option maxRecDepth 20000 in
theorem ggX8_readClause_X0_stands : GoodIn wsX8_readClause wsX0_stands := goodIn_r _ [18, 19, 80, 81, 82, 83, 84, 85, 86, 87, 88] (by decide +kernel) (by decide +kernel)
set_option maxRecDepth 20000 in
theorem gX8_readClause_X0_stands : GoodIn wsX8_readClause (wsV RX8 48 RX0 yX0_stands wsX0_stands) := goodIn_app (goodIn_of _ (by decide +kernel)) ggX8_readClause_X0_stands
set_option maxRecDepth 20000 in
theorem ggX8_readClause_X8_readHut : GoodIn wsX8_readClause wsX8_readHut := goodIn_r _ [53, 54, 20, 21, 22, 5, 23, 24, 25, 26, 27, 28, 29, 1, 7, 30, 31, 32, 33, 2, 3, 4, 6, 8, 34, 35, 36, 55, 56, 57, 17, 58, 59, 60, 46, 47, 48, 49, 42, 43, 44, 45, 80, 81, 82, 83, 84, 85, 86, 87, 88, 75, 76, 77, 78, 79] (by decide +kernel) (by decide +kernel)
set_option maxRecDepth 20000 in
theorem gX8_readClause_X8_readHut : GoodIn wsX8_readClause (wsV RX8 52 RX8 yX8_readHut wsX8_readHut) := goodIn_app (goodIn_of _ (by decide +kernel)) ggX8_readClause_X8_readHut
set_option maxRecDepth 20000 in
theorem ggX8_readClause_X8_readCase : GoodIn wsX8_readClause wsX8_readCase := goodIn_r _ [64, 65, 20, 21, 22, 5, 23, 24, 25, 26, 27, 28, 29, 1, 7, 30, 31, 32, 33, 2, 3, 4, 6, 8, 34, 35, 36, 66, 67, 68, 17, 69, 70, 71, 72, 73, 74, 46, 47, 48, 49, 42, 43, 44, 45, 80, 81, 82, 83, 84, 85, 86, 87, 88, 75, 76, 77, 78, 79] (by decide +kernel) (by decide +kernel)
set_option maxRecDepth 20000 in
theorem gX8_readClause_X8_readCase : GoodIn wsX8_readClause (wsV RX8 55 RX8 yX8_readCase wsX8_readCase) := goodIn_app (goodIn_of _ (by decide +kernel)) ggX8_readClause_X8_readCase
set_option maxRecDepth 20000 in
theorem ggX8_readClause_X8_note : GoodIn wsX8_readClause wsX8_note := goodIn_r _ [23, 24, 25, 75, 76, 77, 78, 79] (by decide +kernel) (by decide +kernel)
set_option maxRecDepth 20000 in
theorem gX8_readClause_X8_note : GoodIn wsX8_readClause (wsV RX8 58 RX8 yX8_note wsX8_note) := goodIn_app (goodIn_of _ (by decide +kernel)) ggX8_readClause_X8_note
theorem dX8_readClause_0 : decode cX8_readClause 0 = .ok (.aload_n 0, 1) := by decide +kernel
theorem dX8_readClause_1 : decode cX8_readClause 1 = .ok (.getfield 22, 3) := by decide +kernel
theorem dX8_readClause_4 : decode cX8_readClause 4 = .ok (.istore_n 2, 1) := by decide +kernel
theorem dX8_readClause_5 : decode cX8_readClause 5 = .ok (.aload_n 0, 1) := by decide +kernel
theorem dX8_readClause_6 : decode cX8_readClause 6 = .ok (.invokevirtual 40, 3) := by decide +kernel
theorem dX8_readClause_9 : decode cX8_readClause 9 = .ok (.istore_n 3, 1) := by decide +kernel
theorem dX8_readClause_10 : decode cX8_readClause 10 = .ok (.aload_n 0, 1) := by decide +kernel
theorem dX8_readClause_11 : decode cX8_readClause 11 = .ok (.dup, 1) := by decide +kernel
theorem dX8_readClause_12 : decode cX8_readClause 12 = .ok (.getfield 22, 3) := by decide +kernel
theorem dX8_readClause_15 : decode cX8_readClause 15 = .ok (.iconst 1, 1) := by decide +kernel
theorem dX8_readClause_16 : decode cX8_readClause 16 = .ok (.iadd, 1) := by decide +kernel
theorem dX8_readClause_17 : decode cX8_readClause 17 = .ok (.putfield 22, 3) := by decide +kernel
theorem dX8_readClause_20 : decode cX8_readClause 20 = .ok (.iload_n 3, 1) := by decide +kernel
theorem dX8_readClause_21 : decode cX8_readClause 21 = .ok (.bipush 98, 2) := by decide +kernel
theorem dX8_readClause_23 : decode cX8_readClause 23 = .ok (.if_icmp .ne 12, 3) := by decide +kernel
theorem dX8_readClause_26 : decode cX8_readClause 26 = .ok (.aload_n 0, 1) := by decide +kernel
theorem dX8_readClause_27 : decode cX8_readClause 27 = .ok (.aload_n 1, 1) := by decide +kernel
theorem dX8_readClause_28 : decode cX8_readClause 28 = .ok (.iload_n 2, 1) := by decide +kernel
theorem dX8_readClause_29 : decode cX8_readClause 29 = .ok (.invokevirtual 44, 3) := by decide +kernel
theorem dX8_readClause_32 : decode cX8_readClause 32 = .ok (.goto 53, 3) := by decide +kernel
theorem dX8_readClause_35 : decode cX8_readClause 35 = .ok (.iload_n 3, 1) := by decide +kernel
theorem dX8_readClause_36 : decode cX8_readClause 36 = .ok (.bipush 104, 2) := by decide +kernel
theorem dX8_readClause_38 : decode cX8_readClause 38 = .ok (.if_icmp .ne 19, 3) := by decide +kernel
theorem dX8_readClause_41 : decode cX8_readClause 41 = .ok (.aload_n 1, 1) := by decide +kernel
theorem dX8_readClause_42 : decode cX8_readClause 42 = .ok (.invokevirtual 48, 3) := by decide +kernel
theorem dX8_readClause_45 : decode cX8_readClause 45 = .ok (.ifCond .eq 12, 3) := by decide +kernel
theorem dX8_readClause_48 : decode cX8_readClause 48 = .ok (.aload_n 0, 1) := by decide +kernel
theorem dX8_readClause_49 : decode cX8_readClause 49 = .ok (.aload_n 1, 1) := by decide +kernel
theorem dX8_readClause_50 : decode cX8_readClause 50 = .ok (.iload_n 2, 1) := by decide +kernel
theorem dX8_readClause_51 : decode cX8_readClause 51 = .ok (.invokevirtual 52, 3) := by decide +kernel
theorem dX8_readClause_54 : decode cX8_readClause 54 = .ok (.goto 31, 3) := by decide +kernel
theorem dX8_readClause_57 : decode cX8_readClause 57 = .ok (.iload_n 3, 1) := by decide +kernel
theorem dX8_readClause_58 : decode cX8_readClause 58 = .ok (.bipush 99, 2) := by decide +kernel
theorem dX8_readClause_60 : decode cX8_readClause 60 = .ok (.if_icmp .ne 19, 3) := by decide +kernel
theorem dX8_readClause_63 : decode cX8_readClause 63 = .ok (.aload_n 1, 1) := by decide +kernel
theorem dX8_readClause_64 : decode cX8_readClause 64 = .ok (.invokevirtual 48, 3) := by decide +kernel
theorem dX8_readClause_67 : decode cX8_readClause 67 = .ok (.ifCond .eq 12, 3) := by decide +kernel
theorem dX8_readClause_70 : decode cX8_readClause 70 = .ok (.aload_n 0, 1) := by decide +kernel
theorem dX8_readClause_71 : decode cX8_readClause 71 = .ok (.aload_n 1, 1) := by decide +kernel
theorem dX8_readClause_72 : decode cX8_readClause 72 = .ok (.iload_n 2, 1) := by decide +kernel
theorem dX8_readClause_73 : decode cX8_readClause 73 = .ok (.invokevirtual 55, 3) := by decide +kernel
theorem dX8_readClause_76 : decode cX8_readClause 76 = .ok (.goto 9, 3) := by decide +kernel
theorem dX8_readClause_79 : decode cX8_readClause 79 = .ok (.aload_n 0, 1) := by decide +kernel
theorem dX8_readClause_80 : decode cX8_readClause 80 = .ok (.iconst 1, 1) := by decide +kernel
theorem dX8_readClause_81 : decode cX8_readClause 81 = .ok (.iload_n 2, 1) := by decide +kernel
theorem dX8_readClause_82 : decode cX8_readClause 82 = .ok (.invokevirtual 58, 3) := by decide +kernel
theorem dX8_readClause_85 : decode cX8_readClause 85 = .ok (.return_, 1) := by decide +kernel
set_option maxRecDepth 20000 in
theorem ggX8_readTide_X0_stands : GoodIn wsX8_readTide wsX0_stands := goodIn_r _ [6, 7, 46, 47, 48, 49, 50, 51, 52, 53, 54] (by decide +kernel) (by decide +kernel)
set_option maxRecDepth 20000 in
theorem gX8_readTide_X0_stands : GoodIn wsX8_readTide (wsV RX8 48 RX0 yX0_stands wsX0_stands) := goodIn_app (goodIn_of _ (by decide +kernel)) ggX8_readTide_X0_stands
set_option maxRecDepth 20000 in
theorem ggX8_readTide_X8_note : GoodIn wsX8_readTide wsX8_note := goodIn_r _ [12, 13, 14, 55, 56, 57, 58, 59] (by decide +kernel) (by decide +kernel)
set_option maxRecDepth 20000 in
theorem gX8_readTide_X8_note : GoodIn wsX8_readTide (wsV RX8 58 RX8 yX8_note wsX8_note) := goodIn_app (goodIn_of _ (by decide +kernel)) ggX8_readTide_X8_note
set_option maxRecDepth 20000 in
theorem ggX8_readTide_X8_readNumber : GoodIn wsX8_readTide wsX8_readNumber := goodIn_r _ [18, 19, 20, 21, 22, 23, 11, 24, 25, 26, 27, 28, 29, 30, 31, 32, 8, 9, 10, 12, 13, 14, 55, 56, 57, 58, 59] (by decide +kernel) (by decide +kernel)
set_option maxRecDepth 20000 in
theorem gX8_readTide_X8_readNumber : GoodIn wsX8_readTide (wsV RX8 62 RX8 yX8_readNumber wsX8_readNumber) := goodIn_app (goodIn_of _ (by decide +kernel)) ggX8_readTide_X8_readNumber
set_option maxRecDepth 20000 in
theorem ggX8_readTide_X0_addTide : GoodIn wsX8_readTide wsX0_addTide := goodIn_r _ [36, 7, 37, 46, 47, 48, 49, 50, 51, 52, 53, 54] (by decide +kernel) (by decide +kernel)
set_option maxRecDepth 20000 in
theorem gX8_readTide_X0_addTide : GoodIn wsX8_readTide (wsV RX8 66 RX0 yX0_addTide wsX0_addTide) := goodIn_app (goodIn_of _ (by decide +kernel)) ggX8_readTide_X0_addTide
set_option maxRecDepth 20000 in
theorem ggX8_readTide_X8_passes : GoodIn wsX8_readTide wsX8_passes := goodIn_r _ [41, 19, 21, 22, 23, 11, 24, 20, 25, 26, 27, 28, 29, 55, 56, 57, 58, 59] (by decide +kernel) (by decide +kernel)
set_option maxRecDepth 20000 in
theorem gX8_readTide_X8_passes : GoodIn wsX8_readTide (wsV RX8 73 RX8 yX8_passes wsX8_passes) := goodIn_app (goodIn_of _ (by decide +kernel)) ggX8_readTide_X8_passes
set_option maxRecDepth 20000 in
theorem ggX8_readTide_X8_demandEnd : GoodIn wsX8_readTide wsX8_demandEnd := goodIn_r _ [45, 19, 38, 39, 40, 11, 41, 21, 22, 23, 24, 20, 25, 26, 27, 28, 29, 8, 9, 10, 12, 13, 14, 55, 56, 57, 58, 59] (by decide +kernel) (by decide +kernel)
set_option maxRecDepth 20000 in
theorem gX8_readTide_X8_demandEnd : GoodIn wsX8_readTide (wsV RX8 77 RX8 yX8_demandEnd wsX8_demandEnd) := goodIn_app (goodIn_of _ (by decide +kernel)) ggX8_readTide_X8_demandEnd
theorem dX8_readTide_0 : decode cX8_readTide 0 = .ok (.aload_n 1, 1) := by decide +kernel
theorem dX8_readTide_1 : decode cX8_readTide 1 = .ok (.invokevirtual 48, 3) := by decide +kernel
theorem dX8_readTide_4 : decode cX8_readTide 4 = .ok (.ifCond .eq 10, 3) := by decide +kernel
theorem dX8_readTide_7 : decode cX8_readTide 7 = .ok (.aload_n 0, 1) := by decide +kernel
theorem dX8_readTide_8 : decode cX8_readTide 8 = .ok (.iconst 3, 1) := by decide +kernel
theorem dX8_readTide_9 : decode cX8_readTide 9 = .ok (.iload_n 2, 1) := by decide +kernel
theorem dX8_readTide_10 : decode cX8_readTide 10 = .ok (.invokevirtual 58, 3) := by decide +kernel
theorem dX8_readTide_13 : decode cX8_readTide 13 = .ok (.return_, 1) := by decide +kernel
theorem dX8_readTide_14 : decode cX8_readTide 14 = .ok (.iconst 1, 1) := by decide +kernel
theorem dX8_readTide_15 : decode cX8_readTide 15 = .ok (.istore_n 3, 1) := by decide +kernel
theorem dX8_readTide_16 : decode cX8_readTide 16 = .ok (.iconst 0, 1) := by decide +kernel
theorem dX8_readTide_17 : decode cX8_readTide 17 = .ok (.istore 4, 2) := by decide +kernel
theorem dX8_readTide_19 : decode cX8_readTide 19 = .ok (.iload 4, 2) := by decide +kernel
theorem dX8_readTide_21 : decode cX8_readTide 21 = .ok (.bipush 12, 2) := by decide +kernel
theorem dX8_readTide_23 : decode cX8_readTide 23 = .ok (.if_icmp .ge 48, 3) := by decide +kernel
theorem dX8_readTide_26 : decode cX8_readTide 26 = .ok (.iload_n 3, 1) := by decide +kernel
theorem dX8_readTide_27 : decode cX8_readTide 27 = .ok (.ifCond .eq 44, 3) := by decide +kernel
theorem dX8_readTide_30 : decode cX8_readTide 30 = .ok (.aload_n 1, 1) := by decide +kernel
theorem dX8_readTide_31 : decode cX8_readTide 31 = .ok (.aload_n 0, 1) := by decide +kernel
theorem dX8_readTide_32 : decode cX8_readTide 32 = .ok (.iconst 0, 1) := by decide +kernel
theorem dX8_readTide_33 : decode cX8_readTide 33 = .ok (.bipush 9, 2) := by decide +kernel
theorem dX8_readTide_35 : decode cX8_readTide 35 = .ok (.invokevirtual 62, 3) := by decide +kernel
theorem dX8_readTide_38 : decode cX8_readTide 38 = .ok (.invokevirtual 66, 3) := by decide +kernel
theorem dX8_readTide_41 : decode cX8_readTide 41 = .ok (.aload_n 1, 1) := by decide +kernel
theorem dX8_readTide_42 : decode cX8_readTide 42 = .ok (.getfield 70, 3) := by decide +kernel
theorem dX8_readTide_45 : decode cX8_readTide 45 = .ok (.bipush 12, 2) := by decide +kernel
theorem dX8_readTide_47 : decode cX8_readTide 47 = .ok (.if_icmp .ge 16, 3) := by decide +kernel
theorem dX8_readTide_50 : decode cX8_readTide 50 = .ok (.aload_n 0, 1) := by decide +kernel
theorem dX8_readTide_51 : decode cX8_readTide 51 = .ok (.bipush 44, 2) := by decide +kernel
theorem dX8_readTide_53 : decode cX8_readTide 53 = .ok (.invokevirtual 73, 3) := by decide +kernel
theorem dX8_readTide_56 : decode cX8_readTide 56 = .ok (.ifCond .eq 7, 3) := by decide +kernel
theorem dX8_readTide_59 : decode cX8_readTide 59 = .ok (.iconst 1, 1) := by decide +kernel
theorem dX8_readTide_60 : decode cX8_readTide 60 = .ok (.goto 4, 3) := by decide +kernel
theorem dX8_readTide_63 : decode cX8_readTide 63 = .ok (.iconst 0, 1) := by decide +kernel
theorem dX8_readTide_64 : decode cX8_readTide 64 = .ok (.istore_n 3, 1) := by decide +kernel
theorem dX8_readTide_65 : decode cX8_readTide 65 = .ok (.iinc 4 1, 3) := by decide +kernel
theorem dX8_readTide_68 : decode cX8_readTide 68 = .ok (.goto (-49), 3) := by decide +kernel
theorem dX8_readTide_71 : decode cX8_readTide 71 = .ok (.aload_n 0, 1) := by decide +kernel
theorem dX8_readTide_72 : decode cX8_readTide 72 = .ok (.invokevirtual 77, 3) := by decide +kernel
theorem dX8_readTide_75 : decode cX8_readTide 75 = .ok (.return_, 1) := by decide +kernel
set_option maxRecDepth 20000 in
theorem ggX8_readHut_X8_note : GoodIn wsX8_readHut wsX8_note := goodIn_r _ [6, 7, 8, 51, 52, 53, 54, 55] (by decide +kernel) (by decide +kernel)
set_option maxRecDepth 20000 in
theorem gX8_readHut_X8_note : GoodIn wsX8_readHut (wsV RX8 58 RX8 yX8_note wsX8_note) := goodIn_app (goodIn_of _ (by decide +kernel)) ggX8_readHut_X8_note
set_option maxRecDepth 20000 in
theorem ggX8_readHut_X8_readNumber : GoodIn wsX8_readHut wsX8_readNumber := goodIn_r _ [12, 13, 14, 15, 16, 17, 5, 18, 19, 20, 21, 22, 23, 24, 25, 26, 2, 3, 4, 6, 7, 8, 51, 52, 53, 54, 55] (by decide +kernel) (by decide +kernel)
set_option maxRecDepth 20000 in
theorem gX8_readHut_X8_readNumber : GoodIn wsX8_readHut (wsV RX8 62 RX8 yX8_readNumber wsX8_readNumber) := goodIn_app (goodIn_of _ (by decide +kernel)) ggX8_readHut_X8_readNumber
set_option maxRecDepth 20000 in
theorem ggX8_readHut_X0_addHut : GoodIn wsX8_readHut wsX0_addHut := goodIn_r _ [31, 32, 33, 42, 43, 44, 45, 46, 47, 48, 49, 50] (by decide +kernel) (by decide +kernel)
set_option maxRecDepth 20000 in
theorem gX8_readHut_X0_addHut : GoodIn wsX8_readHut (wsV RX8 83 RX0 yX0_addHut wsX0_addHut) := goodIn_app (goodIn_of _ (by decide +kernel)) ggX8_readHut_X0_addHut
set_option maxRecDepth 20000 in
theorem ggX8_readHut_X8_demandEnd : GoodIn wsX8_readHut wsX8_demandEnd := goodIn_r _ [37, 13, 38, 39, 40, 5, 41, 15, 16, 17, 18, 14, 19, 20, 21, 22, 23, 2, 3, 4, 6, 7, 8, 51, 52, 53, 54, 55] (by decide +kernel) (by decide +kernel)
set_option maxRecDepth 20000 in
theorem gX8_readHut_X8_demandEnd : GoodIn wsX8_readHut (wsV RX8 77 RX8 yX8_demandEnd wsX8_demandEnd) := goodIn_app (goodIn_of _ (by decide +kernel)) ggX8_readHut_X8_demandEnd
theorem dX8_readHut_0 : decode cX8_readHut 0 = .ok (.aload_n 1, 1) := by decide +kernel
theorem dX8_readHut_1 : decode cX8_readHut 1 = .ok (.getfield 80, 3) := by decide +kernel
theorem dX8_readHut_4 : decode cX8_readHut 4 = .ok (.iconst 4, 1) := by decide +kernel
theorem dX8_readHut_5 : decode cX8_readHut 5 = .ok (.if_icmp .lt 10, 3) := by decide +kernel
theorem dX8_readHut_8 : decode cX8_readHut 8 = .ok (.aload_n 0, 1) := by decide +kernel
theorem dX8_readHut_9 : decode cX8_readHut 9 = .ok (.iconst 3, 1) := by decide +kernel
theorem dX8_readHut_10 : decode cX8_readHut 10 = .ok (.iload_n 2, 1) := by decide +kernel
theorem dX8_readHut_11 : decode cX8_readHut 11 = .ok (.invokevirtual 58, 3) := by decide +kernel
theorem dX8_readHut_14 : decode cX8_readHut 14 = .ok (.return_, 1) := by decide +kernel
theorem dX8_readHut_15 : decode cX8_readHut 15 = .ok (.aload_n 1, 1) := by decide +kernel
theorem dX8_readHut_16 : decode cX8_readHut 16 = .ok (.aload_n 0, 1) := by decide +kernel
theorem dX8_readHut_17 : decode cX8_readHut 17 = .ok (.iconst 1, 1) := by decide +kernel
theorem dX8_readHut_18 : decode cX8_readHut 18 = .ok (.bipush 9, 2) := by decide +kernel
theorem dX8_readHut_20 : decode cX8_readHut 20 = .ok (.invokevirtual 62, 3) := by decide +kernel
theorem dX8_readHut_23 : decode cX8_readHut 23 = .ok (.invokevirtual 83, 3) := by decide +kernel
theorem dX8_readHut_26 : decode cX8_readHut 26 = .ok (.aload_n 0, 1) := by decide +kernel
theorem dX8_readHut_27 : decode cX8_readHut 27 = .ok (.invokevirtual 77, 3) := by decide +kernel
theorem dX8_readHut_30 : decode cX8_readHut 30 = .ok (.return_, 1) := by decide +kernel
set_option maxRecDepth 20000 in
theorem ggX8_readCase_X8_note : GoodIn wsX8_readCase wsX8_note := goodIn_r _ [6, 7, 8, 54, 55, 56, 57, 58] (by decide +kernel) (by decide +kernel)
set_option maxRecDepth 20000 in
theorem gX8_readCase_X8_note : GoodIn wsX8_readCase (wsV RX8 58 RX8 yX8_note wsX8_note) := goodIn_app (goodIn_of _ (by decide +kernel)) ggX8_readCase_X8_note
set_option maxRecDepth 20000 in
theorem ggX8_readCase_X8_readNumber : GoodIn wsX8_readCase wsX8_readNumber := goodIn_r _ [12, 13, 14, 15, 16, 17, 5, 18, 19, 20, 21, 22, 23, 24, 25, 26, 2, 3, 4, 6, 7, 8, 54, 55, 56, 57, 58] (by decide +kernel) (by decide +kernel)
set_option maxRecDepth 20000 in
theorem gX8_readCase_X8_readNumber : GoodIn wsX8_readCase (wsV RX8 62 RX8 yX8_readNumber wsX8_readNumber) := goodIn_app (goodIn_of _ (by decide +kernel)) ggX8_readCase_X8_readNumber
set_option maxRecDepth 20000 in
theorem ggX8_readCase_X0_addCase : GoodIn wsX8_readCase wsX0_addCase := goodIn_r _ [31, 32, 33, 34, 35, 36, 45, 46, 47, 48, 49, 50, 51, 52, 53] (by decide +kernel) (by decide +kernel)
set_option maxRecDepth 20000 in
theorem gX8_readCase_X0_addCase : GoodIn wsX8_readCase (wsV RX8 89 RX0 yX0_addCase wsX0_addCase) := goodIn_app (goodIn_of _ (by decide +kernel)) ggX8_readCase_X0_addCase
set_option maxRecDepth 20000 in
theorem ggX8_readCase_X8_demandEnd : GoodIn wsX8_readCase wsX8_demandEnd := goodIn_r _ [40, 13, 41, 42, 43, 5, 44, 15, 16, 17, 18, 14, 19, 20, 21, 22, 23, 2, 3, 4, 6, 7, 8, 54, 55, 56, 57, 58] (by decide +kernel) (by decide +kernel)
set_option maxRecDepth 20000 in
theorem gX8_readCase_X8_demandEnd : GoodIn wsX8_readCase (wsV RX8 77 RX8 yX8_demandEnd wsX8_demandEnd) := goodIn_app (goodIn_of _ (by decide +kernel)) ggX8_readCase_X8_demandEnd
theorem dX8_readCase_0 : decode cX8_readCase 0 = .ok (.aload_n 1, 1) := by decide +kernel
theorem dX8_readCase_1 : decode cX8_readCase 1 = .ok (.getfield 86, 3) := by decide +kernel
theorem dX8_readCase_4 : decode cX8_readCase 4 = .ok (.iconst 5, 1) := by decide +kernel
theorem dX8_readCase_5 : decode cX8_readCase 5 = .ok (.if_icmp .lt 10, 3) := by decide +kernel
theorem dX8_readCase_8 : decode cX8_readCase 8 = .ok (.aload_n 0, 1) := by decide +kernel
theorem dX8_readCase_9 : decode cX8_readCase 9 = .ok (.iconst 3, 1) := by decide +kernel
theorem dX8_readCase_10 : decode cX8_readCase 10 = .ok (.iload_n 2, 1) := by decide +kernel
theorem dX8_readCase_11 : decode cX8_readCase 11 = .ok (.invokevirtual 58, 3) := by decide +kernel
theorem dX8_readCase_14 : decode cX8_readCase 14 = .ok (.return_, 1) := by decide +kernel
theorem dX8_readCase_15 : decode cX8_readCase 15 = .ok (.aload_n 0, 1) := by decide +kernel
theorem dX8_readCase_16 : decode cX8_readCase 16 = .ok (.iconst 1, 1) := by decide +kernel
theorem dX8_readCase_17 : decode cX8_readCase 17 = .ok (.bipush 9, 2) := by decide +kernel
theorem dX8_readCase_19 : decode cX8_readCase 19 = .ok (.invokevirtual 62, 3) := by decide +kernel
theorem dX8_readCase_22 : decode cX8_readCase 22 = .ok (.istore_n 3, 1) := by decide +kernel
theorem dX8_readCase_23 : decode cX8_readCase 23 = .ok (.aload_n 0, 1) := by decide +kernel
theorem dX8_readCase_24 : decode cX8_readCase 24 = .ok (.iconst 1, 1) := by decide +kernel
theorem dX8_readCase_25 : decode cX8_readCase 25 = .ok (.iconst 4, 1) := by decide +kernel
theorem dX8_readCase_26 : decode cX8_readCase 26 = .ok (.invokevirtual 62, 3) := by decide +kernel
