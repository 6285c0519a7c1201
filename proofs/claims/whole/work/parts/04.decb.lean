theorem dX7_sumsBy_12 : decode cX7_sumsBy 12 = .ok (.goto 4, 3) := by decide +kernel
theorem dX7_sumsBy_15 : decode cX7_sumsBy 15 = .ok (.iconst 1, 1) := by decide +kernel
theorem dX7_sumsBy_16 : decode cX7_sumsBy 16 = .ok (.istore_n 2, 1) := by decide +kernel
theorem dX7_sumsBy_17 : decode cX7_sumsBy 17 = .ok (.aload_n 0, 1) := by decide +kernel
theorem dX7_sumsBy_18 : decode cX7_sumsBy 18 = .ok (.getfield 11, 3) := by decide +kernel
theorem dX7_sumsBy_21 : decode cX7_sumsBy 21 = .ok (.iload_n 2, 1) := by decide +kernel
theorem dX7_sumsBy_22 : decode cX7_sumsBy 22 = .ok (.aaload, 1) := by decide +kernel
theorem dX7_sumsBy_23 : decode cX7_sumsBy 23 = .ok (.astore_n 3, 1) := by decide +kernel
theorem dX7_sumsBy_24 : decode cX7_sumsBy 24 = .ok (.aload_n 3, 1) := by decide +kernel
theorem dX7_sumsBy_25 : decode cX7_sumsBy 25 = .ok (.ifnonnull 19, 3) := by decide +kernel
theorem dX7_sumsBy_28 : decode cX7_sumsBy 28 = .ok (.new 9, 3) := by decide +kernel
theorem dX7_sumsBy_31 : decode cX7_sumsBy 31 = .ok (.dup, 1) := by decide +kernel
theorem dX7_sumsBy_32 : decode cX7_sumsBy 32 = .ok (.iload_n 2, 1) := by decide +kernel
theorem dX7_sumsBy_33 : decode cX7_sumsBy 33 = .ok (.invokespecial 17, 3) := by decide +kernel
theorem dX7_sumsBy_36 : decode cX7_sumsBy 36 = .ok (.astore_n 3, 1) := by decide +kernel
theorem dX7_sumsBy_37 : decode cX7_sumsBy 37 = .ok (.aload_n 0, 1) := by decide +kernel
theorem dX7_sumsBy_38 : decode cX7_sumsBy 38 = .ok (.getfield 11, 3) := by decide +kernel
theorem dX7_sumsBy_41 : decode cX7_sumsBy 41 = .ok (.iload_n 2, 1) := by decide +kernel
theorem dX7_sumsBy_42 : decode cX7_sumsBy 42 = .ok (.aload_n 3, 1) := by decide +kernel
theorem dX7_sumsBy_43 : decode cX7_sumsBy 43 = .ok (.aastore, 1) := by decide +kernel
theorem dX7_sumsBy_44 : decode cX7_sumsBy 44 = .ok (.aload_n 3, 1) := by decide +kernel
theorem dX7_sumsBy_45 : decode cX7_sumsBy 45 = .ok (.areturn, 1) := by decide +kernel
set_option maxRecDepth 20000 in
theorem ggX7_isWon_X7_leastTaken : GoodIn wsX7_isWon wsX7_leastTaken := goodIn_r _ [5, 6, 7, 8, 4, 9, 10, 11, 12, 13, 14, 15, 16, 17, 18, 19, 20, 21, 22, 23, 24, 25, 26, 27, 28, 29, 30] (by decide +kernel) (by decide +kernel)
set_option maxRecDepth 20000 in
theorem gX7_isWon_X7_leastTaken : GoodIn wsX7_isWon (wsV RX7 20 RX7 yX7_leastTaken wsX7_leastTaken) := goodIn_app (goodIn_of _ (by decide +kernel)) ggX7_isWon_X7_leastTaken
theorem dX7_isWon_0 : decode cX7_isWon 0 = .ok (.aload_n 0, 1) := by decide +kernel
theorem dX7_isWon_1 : decode cX7_isWon 1 = .ok (.iload_n 1, 1) := by decide +kernel
theorem dX7_isWon_2 : decode cX7_isWon 2 = .ok (.lload_n 2, 1) := by decide +kernel
theorem dX7_isWon_3 : decode cX7_isWon 3 = .ok (.lload 4, 2) := by decide +kernel
theorem dX7_isWon_5 : decode cX7_isWon 5 = .ok (.invokevirtual 20, 3) := by decide +kernel
theorem dX7_isWon_8 : decode cX7_isWon 8 = .ok (.lconst 0, 1) := by decide +kernel
theorem dX7_isWon_9 : decode cX7_isWon 9 = .ok (.lcmp, 1) := by decide +kernel
theorem dX7_isWon_10 : decode cX7_isWon 10 = .ok (.ifCond .le 7, 3) := by decide +kernel
theorem dX7_isWon_13 : decode cX7_isWon 13 = .ok (.iconst 1, 1) := by decide +kernel
theorem dX7_isWon_14 : decode cX7_isWon 14 = .ok (.goto 4, 3) := by decide +kernel
theorem dX7_isWon_17 : decode cX7_isWon 17 = .ok (.iconst 0, 1) := by decide +kernel
theorem dX7_isWon_18 : decode cX7_isWon 18 = .ok (.ireturn, 1) := by decide +kernel
set_option maxRecDepth 20000 in
theorem ggX7_leastTaken_X7_sumsBy : GoodIn wsX7_leastTaken wsX7_sumsBy := goodIn_r _ [5, 6, 7, 8, 9, 10, 11, 12, 13, 14, 15, 16, 17, 18, 19, 24, 25, 26] (by decide +kernel) (by decide +kernel)
set_option maxRecDepth 20000 in
theorem gX7_leastTaken_X7_sumsBy : GoodIn wsX7_leastTaken (wsV RX7 24 RX7 yX7_sumsBy wsX7_sumsBy) := goodIn_app (goodIn_of _ (by decide +kernel)) ggX7_leastTaken_X7_sumsBy
set_option maxRecDepth 20000 in
theorem ggX7_leastTaken_X6_endOf : GoodIn wsX7_leastTaken wsX6_endOf := goodIn_r _ [23, 19, 17, 25, 26] (by decide +kernel) (by decide +kernel)
set_option maxRecDepth 20000 in
theorem gX7_leastTaken_X6_endOf : GoodIn wsX7_leastTaken (wsV RX7 28 RX6 yX6_endOf wsX6_endOf) := goodIn_app (goodIn_of _ (by decide +kernel)) ggX7_leastTaken_X6_endOf
theorem dX7_leastTaken_0 : decode cX7_leastTaken 0 = .ok (.aload_n 0, 1) := by decide +kernel
theorem dX7_leastTaken_1 : decode cX7_leastTaken 1 = .ok (.iload_n 1, 1) := by decide +kernel
theorem dX7_leastTaken_2 : decode cX7_leastTaken 2 = .ok (.invokevirtual 24, 3) := by decide +kernel
theorem dX7_leastTaken_5 : decode cX7_leastTaken 5 = .ok (.lload_n 2, 1) := by decide +kernel
theorem dX7_leastTaken_6 : decode cX7_leastTaken 6 = .ok (.invokevirtual 28, 3) := by decide +kernel
theorem dX7_leastTaken_9 : decode cX7_leastTaken 9 = .ok (.lstore 6, 2) := by decide +kernel
theorem dX7_leastTaken_11 : decode cX7_leastTaken 11 = .ok (.lload 6, 2) := by decide +kernel
theorem dX7_leastTaken_13 : decode cX7_leastTaken 13 = .ok (.lload 4, 2) := by decide +kernel
theorem dX7_leastTaken_15 : decode cX7_leastTaken 15 = .ok (.lcmp, 1) := by decide +kernel
theorem dX7_leastTaken_16 : decode cX7_leastTaken 16 = .ok (.ifCond .gt 8, 3) := by decide +kernel
theorem dX7_leastTaken_19 : decode cX7_leastTaken 19 = .ok (.lload 6, 2) := by decide +kernel
theorem dX7_leastTaken_21 : decode cX7_leastTaken 21 = .ok (.goto 4, 3) := by decide +kernel
theorem dX7_leastTaken_24 : decode cX7_leastTaken 24 = .ok (.lconst 0, 1) := by decide +kernel
theorem dX7_leastTaken_25 : decode cX7_leastTaken 25 = .ok (.lreturn, 1) := by decide +kernel
set_option maxRecDepth 20000 in
theorem ggX7_isWonByAll_X8_isWithin : GoodIn wsX7_isWonByAll wsX8_isWithin := goodIn_r _ [5] (by decide +kernel) (by decide +kernel)
set_option maxRecDepth 20000 in
theorem gX7_isWonByAll_X8_isWithin_n34 : GoodIn wsX7_isWonByAll (wsX8_isWithin) := ggX7_isWonByAll_X8_isWithin
theorem dX7_isWonByAll_0 : decode cX7_isWonByAll 0 = .ok (.bipush 61, 2) := by decide +kernel
theorem dX7_isWonByAll_2 : decode cX7_isWonByAll 2 = .ok (.newarray .int, 2) := by decide +kernel
theorem dX7_isWonByAll_4 : decode cX7_isWonByAll 4 = .ok (.astore_n 3, 1) := by decide +kernel
theorem dX7_isWonByAll_5 : decode cX7_isWonByAll 5 = .ok (.aload_n 3, 1) := by decide +kernel
theorem dX7_isWonByAll_6 : decode cX7_isWonByAll 6 = .ok (.iconst 0, 1) := by decide +kernel
theorem dX7_isWonByAll_7 : decode cX7_isWonByAll 7 = .ok (.sipush 541, 3) := by decide +kernel
theorem dX7_isWonByAll_10 : decode cX7_isWonByAll 10 = .ok (.iastore, 1) := by decide +kernel
theorem dX7_isWonByAll_11 : decode cX7_isWonByAll 11 = .ok (.iconst 1, 1) := by decide +kernel
theorem dX7_isWonByAll_12 : decode cX7_isWonByAll 12 = .ok (.istore 4, 2) := by decide +kernel
theorem dX7_isWonByAll_14 : decode cX7_isWonByAll 14 = .ok (.iload 4, 2) := by decide +kernel
theorem dX7_isWonByAll_16 : decode cX7_isWonByAll 16 = .ok (.iload_n 1, 1) := by decide +kernel
theorem dX7_isWonByAll_17 : decode cX7_isWonByAll 17 = .ok (.if_icmp .gt 52, 3) := by decide +kernel
theorem dX7_isWonByAll_20 : decode cX7_isWonByAll 20 = .ok (.iload 4, 2) := by decide +kernel
theorem dX7_isWonByAll_22 : decode cX7_isWonByAll 22 = .ok (.bipush 60, 2) := by decide +kernel
theorem dX7_isWonByAll_24 : decode cX7_isWonByAll 24 = .ok (.if_icmp .gt 45, 3) := by decide +kernel
theorem dX7_isWonByAll_27 : decode cX7_isWonByAll 27 = .ok (.iconst 1, 1) := by decide +kernel
theorem dX7_isWonByAll_28 : decode cX7_isWonByAll 28 = .ok (.istore 5, 2) := by decide +kernel
theorem dX7_isWonByAll_30 : decode cX7_isWonByAll 30 = .ok (.iload 5, 2) := by decide +kernel
theorem dX7_isWonByAll_32 : decode cX7_isWonByAll 32 = .ok (.iload 4, 2) := by decide +kernel
theorem dX7_isWonByAll_34 : decode cX7_isWonByAll 34 = .ok (.if_icmp .ge 23, 3) := by decide +kernel
theorem dX7_isWonByAll_37 : decode cX7_isWonByAll 37 = .ok (.aload_n 3, 1) := by decide +kernel
theorem dX7_isWonByAll_38 : decode cX7_isWonByAll 38 = .ok (.iload 4, 2) := by decide +kernel
theorem dX7_isWonByAll_40 : decode cX7_isWonByAll 40 = .ok (.iload 5, 2) := by decide +kernel
theorem dX7_isWonByAll_42 : decode cX7_isWonByAll 42 = .ok (.isub, 1) := by decide +kernel
theorem dX7_isWonByAll_43 : decode cX7_isWonByAll 43 = .ok (.iaload, 1) := by decide +kernel
theorem dX7_isWonByAll_44 : decode cX7_isWonByAll 44 = .ok (.iload_n 0, 1) := by decide +kernel
theorem dX7_isWonByAll_45 : decode cX7_isWonByAll 45 = .ok (.iload 5, 2) := by decide +kernel
theorem dX7_isWonByAll_47 : decode cX7_isWonByAll 47 = .ok (.imul, 1) := by decide +kernel
theorem dX7_isWonByAll_48 : decode cX7_isWonByAll 48 = .ok (.if_icmp .gt 9, 3) := by decide +kernel
theorem dX7_isWonByAll_51 : decode cX7_isWonByAll 51 = .ok (.iinc 5 1, 3) := by decide +kernel
theorem dX7_isWonByAll_54 : decode cX7_isWonByAll 54 = .ok (.goto (-24), 3) := by decide +kernel
theorem dX7_isWonByAll_57 : decode cX7_isWonByAll 57 = .ok (.aload_n 3, 1) := by decide +kernel
theorem dX7_isWonByAll_58 : decode cX7_isWonByAll 58 = .ok (.iload 4, 2) := by decide +kernel
theorem dX7_isWonByAll_60 : decode cX7_isWonByAll 60 = .ok (.iload 5, 2) := by decide +kernel
theorem dX7_isWonByAll_62 : decode cX7_isWonByAll 62 = .ok (.iastore, 1) := by decide +kernel
theorem dX7_isWonByAll_63 : decode cX7_isWonByAll 63 = .ok (.iinc 4 1, 3) := by decide +kernel
theorem dX7_isWonByAll_66 : decode cX7_isWonByAll 66 = .ok (.goto (-52), 3) := by decide +kernel
theorem dX7_isWonByAll_69 : decode cX7_isWonByAll 69 = .ok (.iload_n 1, 1) := by decide +kernel
theorem dX7_isWonByAll_70 : decode cX7_isWonByAll 70 = .ok (.i2l, 1) := by decide +kernel
theorem dX7_isWonByAll_71 : decode cX7_isWonByAll 71 = .ok (.lconst 0, 1) := by decide +kernel
theorem dX7_isWonByAll_72 : decode cX7_isWonByAll 72 = .ok (.ldc2_w 32, 3) := by decide +kernel
theorem dX7_isWonByAll_75 : decode cX7_isWonByAll 75 = .ok (.invokestatic 34, 3) := by decide +kernel
theorem dX7_isWonByAll_78 : decode cX7_isWonByAll 78 = .ok (.ifCond .eq 14, 3) := by decide +kernel
theorem dX7_isWonByAll_81 : decode cX7_isWonByAll 81 = .ok (.iload_n 2, 1) := by decide +kernel
theorem dX7_isWonByAll_82 : decode cX7_isWonByAll 82 = .ok (.aload_n 3, 1) := by decide +kernel
theorem dX7_isWonByAll_83 : decode cX7_isWonByAll 83 = .ok (.iload_n 1, 1) := by decide +kernel
theorem dX7_isWonByAll_84 : decode cX7_isWonByAll 84 = .ok (.iaload, 1) := by decide +kernel
theorem dX7_isWonByAll_85 : decode cX7_isWonByAll 85 = .ok (.if_icmp .lt 7, 3) := by decide +kernel
theorem dX7_isWonByAll_88 : decode cX7_isWonByAll 88 = .ok (.iconst 1, 1) := by decide +kernel
theorem dX7_isWonByAll_89 : decode cX7_isWonByAll 89 = .ok (.goto 4, 3) := by decide +kernel
theorem dX7_isWonByAll_92 : decode cX7_isWonByAll 92 = .ok (.iconst 0, 1) := by decide +kernel
theorem dX7_isWonByAll_93 : decode cX7_isWonByAll 93 = .ok (.ireturn, 1) := by decide +kernel
set_option maxRecDepth 20000 in
theorem ggX8_init_X2_init : GoodIn wsX8_init wsX2_init := goodIn_r _ [14, 15, 2, 3, 16, 17, 18, 19, 20, 21, 22, 23, 24, 25, 26, 27, 28, 29, 30, 31, 32, 33, 34, 35, 36, 37, 38, 39, 40, 41, 42, 43, 44, 45, 46, 47, 48, 49, 50, 51, 52, 53, 54, 55, 56, 57, 58, 59, 60, 61, 62, 63, 64, 65, 66, 67, 80, 81, 82, 83, 84, 96, 97, 98, 99, 100, 101] (by decide +kernel) (by decide +kernel)
set_option maxRecDepth 20000 in
theorem gX8_init_X2_init : GoodIn wsX8_init (wsX2_init) := ggX8_init_X2_init
set_option maxRecDepth 20000 in
theorem ggX8_init_X4_init : GoodIn wsX8_init wsX4_init := goodIn_r _ [70, 71, 2, 3, 49, 72, 73, 74, 75, 76, 77, 78, 79, 87, 88, 89, 90, 91, 92, 93, 94, 95] (by decide +kernel) (by decide +kernel)
set_option maxRecDepth 20000 in
theorem gX8_init_X4_init : GoodIn wsX8_init (wsX4_init) := ggX8_init_X4_init
theorem dX8_init_0 : decode cX8_init 0 = .ok (.aload_n 0, 1) := by decide +kernel
theorem dX8_init_1 : decode cX8_init 1 = .ok (.invokespecial 1, 3) := by decide +kernel
theorem dX8_init_4 : decode cX8_init 4 = .ok (.aload_n 0, 1) := by decide +kernel
theorem dX8_init_5 : decode cX8_init 5 = .ok (.new 7, 3) := by decide +kernel
theorem dX8_init_8 : decode cX8_init 8 = .ok (.dup, 1) := by decide +kernel
theorem dX8_init_9 : decode cX8_init 9 = .ok (.invokespecial 9, 3) := by decide +kernel
theorem dX8_init_12 : decode cX8_init 12 = .ok (.putfield 10, 3) := by decide +kernel
theorem dX8_init_15 : decode cX8_init 15 = .ok (.aload_n 0, 1) := by decide +kernel
theorem dX8_init_16 : decode cX8_init 16 = .ok (.new 16, 3) := by decide +kernel
theorem dX8_init_19 : decode cX8_init 19 = .ok (.dup, 1) := by decide +kernel
theorem dX8_init_20 : decode cX8_init 20 = .ok (.aload_n 0, 1) := by decide +kernel
theorem dX8_init_21 : decode cX8_init 21 = .ok (.getfield 10, 3) := by decide +kernel
theorem dX8_init_24 : decode cX8_init 24 = .ok (.invokespecial 18, 3) := by decide +kernel
theorem dX8_init_27 : decode cX8_init 27 = .ok (.putfield 21, 3) := by decide +kernel
theorem dX8_init_30 : decode cX8_init 30 = .ok (.return_, 1) := by decide +kernel
set_option maxRecDepth 20000 in
theorem ggX8_shares_X8_isHeap : GoodIn wsX8_shares wsX8_isHeap := goodIn_r _ [5, 6, 7, 8, 4, 9] (by decide +kernel) (by decide +kernel)
set_option maxRecDepth 20000 in
theorem gX8_shares_X8_isHeap : GoodIn wsX8_shares (va_wsS RX8 25 yX8_isHeap wsX8_isHeap) := goodIn_app (goodIn_of _ (by decide +kernel)) ggX8_shares_X8_isHeap
set_option maxRecDepth 20000 in
theorem ggX8_shares_X5_isWon : GoodIn wsX8_shares wsX5_isWon := goodIn_r _ [14, 15, 16, 17, 18, 19, 20, 21, 22, 23, 24, 25, 26, 27, 28, 29, 30, 31, 32, 33, 34, 35, 46, 47, 48, 49] (by decide +kernel) (by decide +kernel)
set_option maxRecDepth 20000 in
theorem gX8_shares_X5_isWon : GoodIn wsX8_shares (wsV RX8 33 RX5 yX5_isWon wsX5_isWon) := goodIn_app (goodIn_of _ (by decide +kernel)) ggX8_shares_X5_isWon
set_option maxRecDepth 20000 in
theorem ggX8_shares_X8_oneIf : GoodIn wsX8_shares wsX8_oneIf := goodIn_r _ [38] (by decide +kernel) (by decide +kernel)
set_option maxRecDepth 20000 in
theorem gX8_shares_X8_oneIf : GoodIn wsX8_shares (va_wsS RX8 39 yX8_oneIf wsX8_oneIf) := goodIn_app (goodIn_of _ (by decide +kernel)) ggX8_shares_X8_oneIf
theorem dX8_shares_0 : decode cX8_shares 0 = .ok (.lload_n 1, 1) := by decide +kernel
theorem dX8_shares_1 : decode cX8_shares 1 = .ok (.invokestatic 25, 3) := by decide +kernel
theorem dX8_shares_4 : decode cX8_shares 4 = .ok (.ifCond .eq 10, 3) := by decide +kernel
theorem dX8_shares_7 : decode cX8_shares 7 = .ok (.lload_n 3, 1) := by decide +kernel
theorem dX8_shares_8 : decode cX8_shares 8 = .ok (.invokestatic 25, 3) := by decide +kernel
theorem dX8_shares_11 : decode cX8_shares 11 = .ok (.ifCond .ne 6, 3) := by decide +kernel
theorem dX8_shares_14 : decode cX8_shares 14 = .ok (.bipush (-2), 2) := by decide +kernel
theorem dX8_shares_16 : decode cX8_shares 16 = .ok (.ireturn, 1) := by decide +kernel
theorem dX8_shares_17 : decode cX8_shares 17 = .ok (.aload_n 0, 1) := by decide +kernel
theorem dX8_shares_18 : decode cX8_shares 18 = .ok (.getfield 10, 3) := by decide +kernel
theorem dX8_shares_21 : decode cX8_shares 21 = .ok (.getfield 29, 3) := by decide +kernel
theorem dX8_shares_24 : decode cX8_shares 24 = .ok (.lload_n 1, 1) := by decide +kernel
theorem dX8_shares_25 : decode cX8_shares 25 = .ok (.lload_n 3, 1) := by decide +kernel
theorem dX8_shares_26 : decode cX8_shares 26 = .ok (.invokevirtual 33, 3) := by decide +kernel
theorem dX8_shares_29 : decode cX8_shares 29 = .ok (.invokestatic 39, 3) := by decide +kernel
theorem dX8_shares_32 : decode cX8_shares 32 = .ok (.ireturn, 1) := by decide +kernel
set_option maxRecDepth 20000 in
theorem ggX8_sharesMove_X8_isHeap : GoodIn wsX8_sharesMove wsX8_isHeap := goodIn_r _ [6, 7, 8, 9, 5, 10] (by decide +kernel) (by decide +kernel)
set_option maxRecDepth 20000 in
theorem gX8_sharesMove_X8_isHeap : GoodIn wsX8_sharesMove (va_wsS RX8 25 yX8_isHeap wsX8_isHeap) := goodIn_app (goodIn_of _ (by decide +kernel)) ggX8_sharesMove_X8_isHeap
set_option maxRecDepth 20000 in
theorem ggX8_sharesMove_X5_leastTimes : GoodIn wsX8_sharesMove wsX5_leastTimes := goodIn_r _ [15, 16, 17, 18, 19, 20, 21, 22, 23, 24, 25, 14, 26, 27, 28, 29, 30, 31, 32, 33, 34, 35, 36, 37, 38, 39, 40, 48, 49, 50, 51] (by decide +kernel) (by decide +kernel)
set_option maxRecDepth 20000 in
theorem gX8_sharesMove_X5_leastTimes : GoodIn wsX8_sharesMove (wsV RX8 45 RX5 yX5_leastTimes wsX5_leastTimes) := goodIn_app (goodIn_of _ (by decide +kernel)) ggX8_sharesMove_X5_leastTimes
theorem dX8_sharesMove_0 : decode cX8_sharesMove 0 = .ok (.lload_n 1, 1) := by decide +kernel
theorem dX8_sharesMove_1 : decode cX8_sharesMove 1 = .ok (.invokestatic 25, 3) := by decide +kernel
theorem dX8_sharesMove_4 : decode cX8_sharesMove 4 = .ok (.ifCond .eq 10, 3) := by decide +kernel
theorem dX8_sharesMove_7 : decode cX8_sharesMove 7 = .ok (.lload_n 3, 1) := by decide +kernel
theorem dX8_sharesMove_8 : decode cX8_sharesMove 8 = .ok (.invokestatic 25, 3) := by decide +kernel
theorem dX8_sharesMove_11 : decode cX8_sharesMove 11 = .ok (.ifCond .ne 7, 3) := by decide +kernel
theorem dX8_sharesMove_14 : decode cX8_sharesMove 14 = .ok (.ldc2_w 43, 3) := by decide +kernel
theorem dX8_sharesMove_17 : decode cX8_sharesMove 17 = .ok (.lreturn, 1) := by decide +kernel
theorem dX8_sharesMove_18 : decode cX8_sharesMove 18 = .ok (.aload_n 0, 1) := by decide +kernel
theorem dX8_sharesMove_19 : decode cX8_sharesMove 19 = .ok (.getfield 10, 3) := by decide +kernel
theorem dX8_sharesMove_22 : decode cX8_sharesMove 22 = .ok (.getfield 29, 3) := by decide +kernel
theorem dX8_sharesMove_25 : decode cX8_sharesMove 25 = .ok (.lload_n 1, 1) := by decide +kernel
theorem dX8_sharesMove_26 : decode cX8_sharesMove 26 = .ok (.lload_n 3, 1) := by decide +kernel
theorem dX8_sharesMove_27 : decode cX8_sharesMove 27 = .ok (.invokevirtual 45, 3) := by decide +kernel
theorem dX8_sharesMove_30 : decode cX8_sharesMove 30 = .ok (.lreturn, 1) := by decide +kernel
set_option maxRecDepth 20000 in
theorem ggX8_both_X8_isHeap : GoodIn wsX8_both wsX8_isHeap := goodIn_r _ [5, 6, 7, 8, 4, 9] (by decide +kernel) (by decide +kernel)
set_option maxRecDepth 20000 in
theorem gX8_both_X8_isHeap : GoodIn wsX8_both (va_wsS RX8 25 yX8_isHeap wsX8_isHeap) := goodIn_app (goodIn_of _ (by decide +kernel)) ggX8_both_X8_isHeap
set_option maxRecDepth 20000 in
theorem ggX8_both_X0_isWon : GoodIn wsX8_both wsX0_isWon := goodIn_r _ [14, 15, 16, 17, 18, 19, 20, 21, 13, 22, 23, 24, 25, 26, 27, 28, 29, 30, 31, 32, 33, 34, 35, 36, 37, 38, 39, 50, 51, 52, 53] (by decide +kernel) (by decide +kernel)
set_option maxRecDepth 20000 in
theorem gX8_both_X0_isWon : GoodIn wsX8_both (wsV RX8 53 RX0 yX0_isWon wsX0_isWon) := goodIn_app (goodIn_of _ (by decide +kernel)) ggX8_both_X0_isWon
set_option maxRecDepth 20000 in
theorem ggX8_both_X8_oneIf : GoodIn wsX8_both wsX8_oneIf := goodIn_r _ [42] (by decide +kernel) (by decide +kernel)
set_option maxRecDepth 20000 in
theorem gX8_both_X8_oneIf : GoodIn wsX8_both (va_wsS RX8 39 yX8_oneIf wsX8_oneIf) := goodIn_app (goodIn_of _ (by decide +kernel)) ggX8_both_X8_oneIf
theorem dX8_both_0 : decode cX8_both 0 = .ok (.lload_n 1, 1) := by decide +kernel
theorem dX8_both_1 : decode cX8_both 1 = .ok (.invokestatic 25, 3) := by decide +kernel
theorem dX8_both_4 : decode cX8_both 4 = .ok (.ifCond .eq 10, 3) := by decide +kernel
theorem dX8_both_7 : decode cX8_both 7 = .ok (.lload_n 3, 1) := by decide +kernel
theorem dX8_both_8 : decode cX8_both 8 = .ok (.invokestatic 25, 3) := by decide +kernel
theorem dX8_both_11 : decode cX8_both 11 = .ok (.ifCond .ne 6, 3) := by decide +kernel
theorem dX8_both_14 : decode cX8_both 14 = .ok (.bipush (-2), 2) := by decide +kernel
theorem dX8_both_16 : decode cX8_both 16 = .ok (.ireturn, 1) := by decide +kernel
theorem dX8_both_17 : decode cX8_both 17 = .ok (.aload_n 0, 1) := by decide +kernel
theorem dX8_both_18 : decode cX8_both 18 = .ok (.getfield 10, 3) := by decide +kernel
theorem dX8_both_21 : decode cX8_both 21 = .ok (.getfield 49, 3) := by decide +kernel
theorem dX8_both_24 : decode cX8_both 24 = .ok (.lload_n 1, 1) := by decide +kernel
theorem dX8_both_25 : decode cX8_both 25 = .ok (.lload_n 3, 1) := by decide +kernel
theorem dX8_both_26 : decode cX8_both 26 = .ok (.invokevirtual 53, 3) := by decide +kernel
theorem dX8_both_29 : decode cX8_both 29 = .ok (.invokestatic 39, 3) := by decide +kernel
theorem dX8_both_32 : decode cX8_both 32 = .ok (.ireturn, 1) := by decide +kernel
set_option maxRecDepth 20000 in
theorem ggX8_bothMove_X8_isHeap : GoodIn wsX8_bothMove wsX8_isHeap := goodIn_r _ [6, 7, 8, 9, 5, 10] (by decide +kernel) (by decide +kernel)
set_option maxRecDepth 20000 in
theorem gX8_bothMove_X8_isHeap : GoodIn wsX8_bothMove (va_wsS RX8 25 yX8_isHeap wsX8_isHeap) := goodIn_app (goodIn_of _ (by decide +kernel)) ggX8_bothMove_X8_isHeap
set_option maxRecDepth 20000 in
theorem ggX8_bothMove_X8_isWithin : GoodIn wsX8_bothMove wsX8_isWithin := goodIn_r _ [10] (by decide +kernel) (by decide +kernel)
set_option maxRecDepth 20000 in
theorem gX8_bothMove_X8_isWithin : GoodIn wsX8_bothMove (va_wsS RX8 56 yX8_isWithin wsX8_isWithin) := goodIn_app (goodIn_of _ (by decide +kernel)) ggX8_bothMove_X8_isWithin
set_option maxRecDepth 20000 in
theorem ggX8_bothMove_X0_whichWins : GoodIn wsX8_bothMove wsX0_whichWins := goodIn_r _ [15, 16, 17, 18, 19, 20, 21, 22, 23, 24, 25, 26, 27, 28, 29, 30, 31, 32, 33, 34, 35, 36, 37, 38, 39, 40, 41, 42, 43, 44, 45, 46, 47, 48, 14, 49, 50, 51, 52, 53, 65, 66, 67, 68] (by decide +kernel) (by decide +kernel)
set_option maxRecDepth 20000 in
theorem gX8_bothMove_X0_whichWins : GoodIn wsX8_bothMove (wsV RX8 60 RX0 yX0_whichWins wsX0_whichWins) := goodIn_app (goodIn_of _ (by decide +kernel)) ggX8_bothMove_X0_whichWins
set_option maxRecDepth 20000 in
theorem ggX8_bothMove_X0_howMany : GoodIn wsX8_bothMove wsX0_howMany := goodIn_r _ [57, 16, 17, 18, 19, 20, 21, 22, 23, 24, 25, 26, 27, 28, 29, 30, 31, 32, 33, 34, 35, 36, 37, 38, 39, 40, 41, 42, 43, 44, 45, 46, 47, 48, 14, 49, 50, 51, 52, 53, 65, 66, 67, 68] (by decide +kernel) (by decide +kernel)
set_option maxRecDepth 20000 in
theorem gX8_bothMove_X0_howMany : GoodIn wsX8_bothMove (wsV RX8 64 RX0 yX0_howMany wsX0_howMany) := goodIn_app (goodIn_of _ (by decide +kernel)) ggX8_bothMove_X0_howMany
theorem dX8_bothMove_0 : decode cX8_bothMove 0 = .ok (.lload_n 1, 1) := by decide +kernel
theorem dX8_bothMove_1 : decode cX8_bothMove 1 = .ok (.invokestatic 25, 3) := by decide +kernel
theorem dX8_bothMove_4 : decode cX8_bothMove 4 = .ok (.ifCond .eq 21, 3) := by decide +kernel
theorem dX8_bothMove_7 : decode cX8_bothMove 7 = .ok (.lload_n 3, 1) := by decide +kernel
theorem dX8_bothMove_8 : decode cX8_bothMove 8 = .ok (.invokestatic 25, 3) := by decide +kernel
theorem dX8_bothMove_11 : decode cX8_bothMove 11 = .ok (.ifCond .eq 14, 3) := by decide +kernel
theorem dX8_bothMove_14 : decode cX8_bothMove 14 = .ok (.iload 5, 2) := by decide +kernel
theorem dX8_bothMove_16 : decode cX8_bothMove 16 = .ok (.i2l, 1) := by decide +kernel
theorem dX8_bothMove_17 : decode cX8_bothMove 17 = .ok (.lconst 0, 1) := by decide +kernel
theorem dX8_bothMove_18 : decode cX8_bothMove 18 = .ok (.lconst 1, 1) := by decide +kernel
theorem dX8_bothMove_19 : decode cX8_bothMove 19 = .ok (.invokestatic 56, 3) := by decide +kernel
theorem dX8_bothMove_22 : decode cX8_bothMove 22 = .ok (.ifCond .ne 7, 3) := by decide +kernel
theorem dX8_bothMove_25 : decode cX8_bothMove 25 = .ok (.ldc2_w 43, 3) := by decide +kernel
theorem dX8_bothMove_28 : decode cX8_bothMove 28 = .ok (.lreturn, 1) := by decide +kernel
theorem dX8_bothMove_29 : decode cX8_bothMove 29 = .ok (.aload_n 0, 1) := by decide +kernel
theorem dX8_bothMove_30 : decode cX8_bothMove 30 = .ok (.getfield 10, 3) := by decide +kernel
theorem dX8_bothMove_33 : decode cX8_bothMove 33 = .ok (.getfield 49, 3) := by decide +kernel
theorem dX8_bothMove_36 : decode cX8_bothMove 36 = .ok (.lload_n 1, 1) := by decide +kernel
theorem dX8_bothMove_37 : decode cX8_bothMove 37 = .ok (.lload_n 3, 1) := by decide +kernel
theorem dX8_bothMove_38 : decode cX8_bothMove 38 = .ok (.invokevirtual 60, 3) := by decide +kernel
theorem dX8_bothMove_41 : decode cX8_bothMove 41 = .ok (.istore 6, 2) := by decide +kernel
theorem dX8_bothMove_43 : decode cX8_bothMove 43 = .ok (.iload 5, 2) := by decide +kernel
theorem dX8_bothMove_45 : decode cX8_bothMove 45 = .ok (.ifCond .ne 9, 3) := by decide +kernel
theorem dX8_bothMove_48 : decode cX8_bothMove 48 = .ok (.iload 6, 2) := by decide +kernel
theorem dX8_bothMove_50 : decode cX8_bothMove 50 = .ok (.i2l, 1) := by decide +kernel
theorem dX8_bothMove_51 : decode cX8_bothMove 51 = .ok (.goto 17, 3) := by decide +kernel
theorem dX8_bothMove_54 : decode cX8_bothMove 54 = .ok (.aload_n 0, 1) := by decide +kernel
theorem dX8_bothMove_55 : decode cX8_bothMove 55 = .ok (.getfield 10, 3) := by decide +kernel
theorem dX8_bothMove_58 : decode cX8_bothMove 58 = .ok (.getfield 49, 3) := by decide +kernel
theorem dX8_bothMove_61 : decode cX8_bothMove 61 = .ok (.lload_n 1, 1) := by decide +kernel
theorem dX8_bothMove_62 : decode cX8_bothMove 62 = .ok (.lload_n 3, 1) := by decide +kernel
theorem dX8_bothMove_63 : decode cX8_bothMove 63 = .ok (.iload 6, 2) := by decide +kernel
theorem dX8_bothMove_65 : decode cX8_bothMove 65 = .ok (.invokevirtual 64, 3) := by decide +kernel
theorem dX8_bothMove_68 : decode cX8_bothMove 68 = .ok (.lreturn, 1) := by decide +kernel
set_option maxRecDepth 20000 in
theorem ggX8_lost_X8_isWithin : GoodIn wsX8_lost wsX8_isWithin := goodIn_r _ [7] (by decide +kernel) (by decide +kernel)
set_option maxRecDepth 20000 in
theorem gX8_lost_X8_isWithin : GoodIn wsX8_lost (va_wsS RX8 56 yX8_isWithin wsX8_isWithin) := goodIn_app (goodIn_of _ (by decide +kernel)) ggX8_lost_X8_isWithin
set_option maxRecDepth 20000 in
theorem ggX8_lost_X1_cut : GoodIn wsX8_lost wsX1_cut := goodIn_r _ [12, 13, 14, 15, 16, 17, 18, 19, 20, 28, 29, 30] (by decide +kernel) (by decide +kernel)
set_option maxRecDepth 20000 in
theorem gX8_lost_X1_cut : GoodIn wsX8_lost (wsV RX8 74 RX1 yX1_cut wsX1_cut) := goodIn_app (goodIn_of _ (by decide +kernel)) ggX8_lost_X1_cut
theorem dX8_lost_0 : decode cX8_lost 0 = .ok (.lload_n 1, 1) := by decide +kernel
theorem dX8_lost_1 : decode cX8_lost 1 = .ok (.lconst 0, 1) := by decide +kernel
theorem dX8_lost_2 : decode cX8_lost 2 = .ok (.ldc2_w 68, 3) := by decide +kernel
theorem dX8_lost_5 : decode cX8_lost 5 = .ok (.invokestatic 56, 3) := by decide +kernel
theorem dX8_lost_8 : decode cX8_lost 8 = .ok (.ifCond .eq 13, 3) := by decide +kernel
theorem dX8_lost_11 : decode cX8_lost 11 = .ok (.iload_n 3, 1) := by decide +kernel
theorem dX8_lost_12 : decode cX8_lost 12 = .ok (.i2l, 1) := by decide +kernel
theorem dX8_lost_13 : decode cX8_lost 13 = .ok (.lconst 0, 1) := by decide +kernel
theorem dX8_lost_14 : decode cX8_lost 14 = .ok (.lconst 1, 1) := by decide +kernel
theorem dX8_lost_15 : decode cX8_lost 15 = .ok (.invokestatic 56, 3) := by decide +kernel
theorem dX8_lost_18 : decode cX8_lost 18 = .ok (.ifCond .ne 7, 3) := by decide +kernel
theorem dX8_lost_21 : decode cX8_lost 21 = .ok (.ldc2_w 43, 3) := by decide +kernel
theorem dX8_lost_24 : decode cX8_lost 24 = .ok (.lreturn, 1) := by decide +kernel
theorem dX8_lost_25 : decode cX8_lost 25 = .ok (.aload_n 0, 1) := by decide +kernel
theorem dX8_lost_26 : decode cX8_lost 26 = .ok (.getfield 10, 3) := by decide +kernel
theorem dX8_lost_29 : decode cX8_lost 29 = .ok (.getfield 70, 3) := by decide +kernel
theorem dX8_lost_32 : decode cX8_lost 32 = .ok (.lload_n 1, 1) := by decide +kernel
theorem dX8_lost_33 : decode cX8_lost 33 = .ok (.invokevirtual 74, 3) := by decide +kernel
theorem dX8_lost_36 : decode cX8_lost 36 = .ok (.lstore 4, 2) := by decide +kernel
theorem dX8_lost_38 : decode cX8_lost 38 = .ok (.iload_n 3, 1) := by decide +kernel
theorem dX8_lost_39 : decode cX8_lost 39 = .ok (.ifCond .ne 8, 3) := by decide +kernel
theorem dX8_lost_42 : decode cX8_lost 42 = .ok (.lload 4, 2) := by decide +kernel
theorem dX8_lost_44 : decode cX8_lost 44 = .ok (.goto 7, 3) := by decide +kernel
theorem dX8_lost_47 : decode cX8_lost 47 = .ok (.lload 4, 2) := by decide +kernel
theorem dX8_lost_49 : decode cX8_lost 49 = .ok (.lload_n 1, 1) := by decide +kernel
theorem dX8_lost_50 : decode cX8_lost 50 = .ok (.ladd, 1) := by decide +kernel
theorem dX8_lost_51 : decode cX8_lost 51 = .ok (.lreturn, 1) := by decide +kernel
set_option maxRecDepth 20000 in
theorem ggX8_lostOf_X8_isHeap : GoodIn wsX8_lostOf wsX8_isHeap := goodIn_r _ [6, 7, 8, 9, 5, 10] (by decide +kernel) (by decide +kernel)
set_option maxRecDepth 20000 in
theorem gX8_lostOf_X8_isHeap : GoodIn wsX8_lostOf (va_wsS RX8 25 yX8_isHeap wsX8_isHeap) := goodIn_app (goodIn_of _ (by decide +kernel)) ggX8_lostOf_X8_isHeap
set_option maxRecDepth 20000 in
theorem ggX8_lostOf_X8_isWithin : GoodIn wsX8_lostOf wsX8_isWithin := goodIn_r _ [10] (by decide +kernel) (by decide +kernel)
set_option maxRecDepth 20000 in
theorem gX8_lostOf_X8_isWithin : GoodIn wsX8_lostOf (va_wsS RX8 56 yX8_isWithin wsX8_isWithin) := goodIn_app (goodIn_of _ (by decide +kernel)) ggX8_lostOf_X8_isWithin
set_option maxRecDepth 20000 in
theorem ggX8_lostOf_X1_indexOf : GoodIn wsX8_lostOf wsX1_indexOf := goodIn_r _ [15, 16, 17, 18, 19, 14, 20, 21, 22, 23, 24, 25, 26, 27, 28, 29, 30, 31, 32, 33, 34, 35, 36, 48, 49, 50] (by decide +kernel) (by decide +kernel)
set_option maxRecDepth 20000 in
theorem gX8_lostOf_X1_indexOf : GoodIn wsX8_lostOf (wsV RX8 80 RX1 yX1_indexOf wsX1_indexOf) := goodIn_app (goodIn_of _ (by decide +kernel)) ggX8_lostOf_X1_indexOf
set_option maxRecDepth 20000 in
theorem ggX8_lostOf_X1_isLesser : GoodIn wsX8_lostOf wsX1_isLesser := goodIn_r _ [20, 21, 22, 23, 14, 24, 25, 26, 27, 28, 29, 30, 31, 32, 33, 34, 35, 36, 48, 49, 50] (by decide +kernel) (by decide +kernel)
set_option maxRecDepth 20000 in
theorem gX8_lostOf_X1_isLesser : GoodIn wsX8_lostOf (wsV RX8 83 RX1 yX1_isLesser wsX1_isLesser) := goodIn_app (goodIn_of _ (by decide +kernel)) ggX8_lostOf_X1_isLesser
set_option maxRecDepth 20000 in
theorem ggX8_lostOf_X8_oneIf : GoodIn wsX8_lostOf wsX8_oneIf := goodIn_r _ [40] (by decide +kernel) (by decide +kernel)
set_option maxRecDepth 20000 in
theorem gX8_lostOf_X8_oneIf : GoodIn wsX8_lostOf (va_wsS RX8 39 yX8_oneIf wsX8_oneIf) := goodIn_app (goodIn_of _ (by decide +kernel)) ggX8_lostOf_X8_oneIf
theorem dX8_lostOf_0 : decode cX8_lostOf 0 = .ok (.lload_n 1, 1) := by decide +kernel
theorem dX8_lostOf_1 : decode cX8_lostOf 1 = .ok (.invokestatic 25, 3) := by decide +kernel
theorem dX8_lostOf_4 : decode cX8_lostOf 4 = .ok (.ifCond .eq 13, 3) := by decide +kernel
theorem dX8_lostOf_7 : decode cX8_lostOf 7 = .ok (.iload_n 3, 1) := by decide +kernel
theorem dX8_lostOf_8 : decode cX8_lostOf 8 = .ok (.i2l, 1) := by decide +kernel
theorem dX8_lostOf_9 : decode cX8_lostOf 9 = .ok (.lconst 0, 1) := by decide +kernel
theorem dX8_lostOf_10 : decode cX8_lostOf 10 = .ok (.lconst 1, 1) := by decide +kernel
theorem dX8_lostOf_11 : decode cX8_lostOf 11 = .ok (.invokestatic 56, 3) := by decide +kernel
theorem dX8_lostOf_14 : decode cX8_lostOf 14 = .ok (.ifCond .ne 7, 3) := by decide +kernel
theorem dX8_lostOf_17 : decode cX8_lostOf 17 = .ok (.ldc2_w 43, 3) := by decide +kernel
theorem dX8_lostOf_20 : decode cX8_lostOf 20 = .ok (.lreturn, 1) := by decide +kernel
theorem dX8_lostOf_21 : decode cX8_lostOf 21 = .ok (.iload_n 3, 1) := by decide +kernel
theorem dX8_lostOf_22 : decode cX8_lostOf 22 = .ok (.ifCond .ne 17, 3) := by decide +kernel
theorem dX8_lostOf_25 : decode cX8_lostOf 25 = .ok (.aload_n 0, 1) := by decide +kernel
theorem dX8_lostOf_26 : decode cX8_lostOf 26 = .ok (.getfield 10, 3) := by decide +kernel
theorem dX8_lostOf_29 : decode cX8_lostOf 29 = .ok (.getfield 70, 3) := by decide +kernel
theorem dX8_lostOf_32 : decode cX8_lostOf 32 = .ok (.lload_n 1, 1) := by decide +kernel
theorem dX8_lostOf_33 : decode cX8_lostOf 33 = .ok (.invokevirtual 80, 3) := by decide +kernel
theorem dX8_lostOf_36 : decode cX8_lostOf 36 = .ok (.goto 18, 3) := by decide +kernel
theorem dX8_lostOf_39 : decode cX8_lostOf 39 = .ok (.aload_n 0, 1) := by decide +kernel
theorem dX8_lostOf_40 : decode cX8_lostOf 40 = .ok (.getfield 10, 3) := by decide +kernel
theorem dX8_lostOf_43 : decode cX8_lostOf 43 = .ok (.getfield 70, 3) := by decide +kernel
theorem dX8_lostOf_46 : decode cX8_lostOf 46 = .ok (.lload_n 1, 1) := by decide +kernel
theorem dX8_lostOf_47 : decode cX8_lostOf 47 = .ok (.invokevirtual 83, 3) := by decide +kernel
theorem dX8_lostOf_50 : decode cX8_lostOf 50 = .ok (.invokestatic 39, 3) := by decide +kernel
theorem dX8_lostOf_53 : decode cX8_lostOf 53 = .ok (.i2l, 1) := by decide +kernel
theorem dX8_lostOf_54 : decode cX8_lostOf 54 = .ok (.lreturn, 1) := by decide +kernel
set_option maxRecDepth 20000 in
theorem ggX8_row_X8_isFactor : GoodIn wsX8_row wsX8_isFactor := goodIn_r _ [6, 7, 8, 9, 5, 10] (by decide +kernel) (by decide +kernel)
set_option maxRecDepth 20000 in
theorem gX8_row_X8_isFactor : GoodIn wsX8_row (va_wsS RX8 86 yX8_isFactor wsX8_isFactor) := goodIn_app (goodIn_of _ (by decide +kernel)) ggX8_row_X8_isFactor
set_option maxRecDepth 20000 in
theorem ggX8_row_X7_sumsBy : GoodIn wsX8_row wsX7_sumsBy := goodIn_r _ [15, 16, 17, 18, 19, 20, 21, 22, 23, 24, 25, 26, 27, 28, 29, 42, 43, 44] (by decide +kernel) (by decide +kernel)
set_option maxRecDepth 20000 in
theorem gX8_row_X7_sumsBy : GoodIn wsX8_row (wsV RX8 93 RX7 yX7_sumsBy wsX7_sumsBy) := goodIn_app (goodIn_of _ (by decide +kernel)) ggX8_row_X7_sumsBy
set_option maxRecDepth 20000 in
theorem ggX8_row_X6_numberAt : GoodIn wsX8_row wsX6_numberAt := goodIn_r _ [33, 29, 27, 28, 34, 43, 44] (by decide +kernel) (by decide +kernel)
set_option maxRecDepth 20000 in
theorem gX8_row_X6_numberAt : GoodIn wsX8_row (wsV RX8 99 RX6 yX6_numberAt wsX6_numberAt) := goodIn_app (goodIn_of _ (by decide +kernel)) ggX8_row_X6_numberAt
theorem dX8_row_0 : decode cX8_row 0 = .ok (.iload_n 1, 1) := by decide +kernel
theorem dX8_row_1 : decode cX8_row 1 = .ok (.i2l, 1) := by decide +kernel
theorem dX8_row_2 : decode cX8_row 2 = .ok (.invokestatic 86, 3) := by decide +kernel
theorem dX8_row_5 : decode cX8_row 5 = .ok (.ifCond .eq 7, 3) := by decide +kernel
theorem dX8_row_8 : decode cX8_row 8 = .ok (.iload_n 2, 1) := by decide +kernel
theorem dX8_row_9 : decode cX8_row 9 = .ok (.ifCond .ge 7, 3) := by decide +kernel
theorem dX8_row_12 : decode cX8_row 12 = .ok (.ldc2_w 43, 3) := by decide +kernel
theorem dX8_row_15 : decode cX8_row 15 = .ok (.lreturn, 1) := by decide +kernel
theorem dX8_row_16 : decode cX8_row 16 = .ok (.aload_n 0, 1) := by decide +kernel
theorem dX8_row_17 : decode cX8_row 17 = .ok (.getfield 10, 3) := by decide +kernel
theorem dX8_row_20 : decode cX8_row 20 = .ok (.getfield 89, 3) := by decide +kernel
theorem dX8_row_23 : decode cX8_row 23 = .ok (.iload_n 1, 1) := by decide +kernel
theorem dX8_row_24 : decode cX8_row 24 = .ok (.invokevirtual 93, 3) := by decide +kernel
theorem dX8_row_27 : decode cX8_row 27 = .ok (.iload_n 2, 1) := by decide +kernel
theorem dX8_row_28 : decode cX8_row 28 = .ok (.invokevirtual 99, 3) := by decide +kernel
theorem dX8_row_31 : decode cX8_row 31 = .ok (.lreturn, 1) := by decide +kernel
set_option maxRecDepth 20000 in
theorem ggX8_digits_X8_isFactor : GoodIn wsX8_digits wsX8_isFactor := goodIn_r _ [5, 6, 7, 8, 4, 9] (by decide +kernel) (by decide +kernel)
set_option maxRecDepth 20000 in
theorem gX8_digits_X8_isFactor : GoodIn wsX8_digits (va_wsS RX8 86 yX8_isFactor wsX8_isFactor) := goodIn_app (goodIn_of _ (by decide +kernel)) ggX8_digits_X8_isFactor
set_option maxRecDepth 20000 in
theorem ggX8_digits_X8_isHeap : GoodIn wsX8_digits wsX8_isHeap := goodIn_r _ [12, 13, 7, 8, 4, 9] (by decide +kernel) (by decide +kernel)
set_option maxRecDepth 20000 in
theorem gX8_digits_X8_isHeap : GoodIn wsX8_digits (va_wsS RX8 25 yX8_isHeap wsX8_isHeap) := goodIn_app (goodIn_of _ (by decide +kernel)) ggX8_digits_X8_isHeap
set_option maxRecDepth 20000 in
theorem ggX8_digits_X7_sumsBy : GoodIn wsX8_digits wsX7_sumsBy := goodIn_r _ [18, 19, 20, 21, 22, 23, 24, 25, 26, 27, 28, 29, 30, 31, 32, 44, 45, 46] (by decide +kernel) (by decide +kernel)
set_option maxRecDepth 20000 in
theorem gX8_digits_X7_sumsBy : GoodIn wsX8_digits (wsV RX8 93 RX7 yX7_sumsBy wsX7_sumsBy) := goodIn_app (goodIn_of _ (by decide +kernel)) ggX8_digits_X7_sumsBy
set_option maxRecDepth 20000 in
theorem ggX8_digits_X6_countOf : GoodIn wsX8_digits wsX6_countOf := goodIn_r _ [36, 32, 30, 45, 46] (by decide +kernel) (by decide +kernel)
set_option maxRecDepth 20000 in
theorem gX8_digits_X6_countOf : GoodIn wsX8_digits (wsV RX8 105 RX6 yX6_countOf wsX6_countOf) := goodIn_app (goodIn_of _ (by decide +kernel)) ggX8_digits_X6_countOf
theorem dX8_digits_0 : decode cX8_digits 0 = .ok (.iload_n 1, 1) := by decide +kernel
theorem dX8_digits_1 : decode cX8_digits 1 = .ok (.i2l, 1) := by decide +kernel
theorem dX8_digits_2 : decode cX8_digits 2 = .ok (.invokestatic 86, 3) := by decide +kernel
theorem dX8_digits_5 : decode cX8_digits 5 = .ok (.ifCond .eq 10, 3) := by decide +kernel
theorem dX8_digits_8 : decode cX8_digits 8 = .ok (.lload_n 2, 1) := by decide +kernel
theorem dX8_digits_9 : decode cX8_digits 9 = .ok (.invokestatic 25, 3) := by decide +kernel
theorem dX8_digits_12 : decode cX8_digits 12 = .ok (.ifCond .ne 6, 3) := by decide +kernel
theorem dX8_digits_15 : decode cX8_digits 15 = .ok (.bipush (-2), 2) := by decide +kernel
theorem dX8_digits_17 : decode cX8_digits 17 = .ok (.ireturn, 1) := by decide +kernel
theorem dX8_digits_18 : decode cX8_digits 18 = .ok (.aload_n 0, 1) := by decide +kernel
theorem dX8_digits_19 : decode cX8_digits 19 = .ok (.getfield 10, 3) := by decide +kernel
theorem dX8_digits_22 : decode cX8_digits 22 = .ok (.getfield 89, 3) := by decide +kernel
theorem dX8_digits_25 : decode cX8_digits 25 = .ok (.iload_n 1, 1) := by decide +kernel
theorem dX8_digits_26 : decode cX8_digits 26 = .ok (.invokevirtual 93, 3) := by decide +kernel
theorem dX8_digits_29 : decode cX8_digits 29 = .ok (.lload_n 2, 1) := by decide +kernel
theorem dX8_digits_30 : decode cX8_digits 30 = .ok (.invokevirtual 105, 3) := by decide +kernel
theorem dX8_digits_33 : decode cX8_digits 33 = .ok (.ireturn, 1) := by decide +kernel
set_option maxRecDepth 20000 in
theorem ggX8_last_X8_isFactor : GoodIn wsX8_last wsX8_isFactor := goodIn_r _ [7, 8, 9, 10, 6, 11] (by decide +kernel) (by decide +kernel)
set_option maxRecDepth 20000 in
theorem gX8_last_X8_isFactor : GoodIn wsX8_last (va_wsS RX8 86 yX8_isFactor wsX8_isFactor) := goodIn_app (goodIn_of _ (by decide +kernel)) ggX8_last_X8_isFactor
set_option maxRecDepth 20000 in
theorem ggX8_last_X8_isWithin : GoodIn wsX8_last wsX8_isWithin := goodIn_r _ [11] (by decide +kernel) (by decide +kernel)
set_option maxRecDepth 20000 in
theorem gX8_last_X8_isWithin : GoodIn wsX8_last (va_wsS RX8 56 yX8_isWithin wsX8_isWithin) := goodIn_app (goodIn_of _ (by decide +kernel)) ggX8_last_X8_isWithin
set_option maxRecDepth 20000 in
theorem ggX8_last_X7_sumsBy : GoodIn wsX8_last wsX7_sumsBy := goodIn_r _ [16, 17, 18, 19, 20, 21, 22, 23, 24, 25, 26, 27, 28, 29, 30, 42, 43, 44] (by decide +kernel) (by decide +kernel)
set_option maxRecDepth 20000 in
theorem gX8_last_X7_sumsBy : GoodIn wsX8_last (wsV RX8 93 RX7 yX7_sumsBy wsX7_sumsBy) := goodIn_app (goodIn_of _ (by decide +kernel)) ggX8_last_X7_sumsBy
set_option maxRecDepth 20000 in
theorem ggX8_last_X6_endOf : GoodIn wsX8_last wsX6_endOf := goodIn_r _ [34, 30, 28, 43, 44] (by decide +kernel) (by decide +kernel)
set_option maxRecDepth 20000 in
theorem gX8_last_X6_endOf : GoodIn wsX8_last (wsV RX8 111 RX6 yX6_endOf wsX6_endOf) := goodIn_app (goodIn_of _ (by decide +kernel)) ggX8_last_X6_endOf
theorem dX8_last_0 : decode cX8_last 0 = .ok (.iload_n 1, 1) := by decide +kernel
theorem dX8_last_1 : decode cX8_last 1 = .ok (.i2l, 1) := by decide +kernel
theorem dX8_last_2 : decode cX8_last 2 = .ok (.invokestatic 86, 3) := by decide +kernel
theorem dX8_last_5 : decode cX8_last 5 = .ok (.ifCond .eq 14, 3) := by decide +kernel
theorem dX8_last_8 : decode cX8_last 8 = .ok (.lload_n 2, 1) := by decide +kernel
theorem dX8_last_9 : decode cX8_last 9 = .ok (.lconst 1, 1) := by decide +kernel
theorem dX8_last_10 : decode cX8_last 10 = .ok (.ldc2_w 109, 3) := by decide +kernel
theorem dX8_last_13 : decode cX8_last 13 = .ok (.invokestatic 56, 3) := by decide +kernel
theorem dX8_last_16 : decode cX8_last 16 = .ok (.ifCond .ne 7, 3) := by decide +kernel
theorem dX8_last_19 : decode cX8_last 19 = .ok (.ldc2_w 43, 3) := by decide +kernel
theorem dX8_last_22 : decode cX8_last 22 = .ok (.lreturn, 1) := by decide +kernel
theorem dX8_last_23 : decode cX8_last 23 = .ok (.aload_n 0, 1) := by decide +kernel
theorem dX8_last_24 : decode cX8_last 24 = .ok (.getfield 10, 3) := by decide +kernel
theorem dX8_last_27 : decode cX8_last 27 = .ok (.getfield 89, 3) := by decide +kernel
theorem dX8_last_30 : decode cX8_last 30 = .ok (.iload_n 1, 1) := by decide +kernel
theorem dX8_last_31 : decode cX8_last 31 = .ok (.invokevirtual 93, 3) := by decide +kernel
theorem dX8_last_34 : decode cX8_last 34 = .ok (.lload_n 2, 1) := by decide +kernel
theorem dX8_last_35 : decode cX8_last 35 = .ok (.invokevirtual 111, 3) := by decide +kernel
theorem dX8_last_38 : decode cX8_last 38 = .ok (.lreturn, 1) := by decide +kernel
set_option maxRecDepth 20000 in
theorem ggX8_times_X8_isFactor : GoodIn wsX8_times wsX8_isFactor := goodIn_r _ [5, 6, 7, 8, 4, 9] (by decide +kernel) (by decide +kernel)
set_option maxRecDepth 20000 in
theorem gX8_times_X8_isFactor : GoodIn wsX8_times (va_wsS RX8 86 yX8_isFactor wsX8_isFactor) := goodIn_app (goodIn_of _ (by decide +kernel)) ggX8_times_X8_isFactor
set_option maxRecDepth 20000 in
theorem ggX8_times_X8_isHeap : GoodIn wsX8_times wsX8_isHeap := goodIn_r _ [12, 13, 7, 8, 4, 9] (by decide +kernel) (by decide +kernel)
set_option maxRecDepth 20000 in
theorem gX8_times_X8_isHeap : GoodIn wsX8_times (va_wsS RX8 25 yX8_isHeap wsX8_isHeap) := goodIn_app (goodIn_of _ (by decide +kernel)) ggX8_times_X8_isHeap
set_option maxRecDepth 20000 in
theorem ggX8_times_X7_isWon : GoodIn wsX8_times wsX7_isWon := goodIn_r _ [18, 19, 20, 21, 17, 22, 23, 24, 25, 26, 27, 28, 29, 30, 31, 32, 33, 34, 35, 36, 37, 38, 39, 40, 41, 42, 43, 44, 55, 56, 57] (by decide +kernel) (by decide +kernel)
set_option maxRecDepth 20000 in
theorem gX8_times_X7_isWon : GoodIn wsX8_times (wsV RX8 114 RX7 yX7_isWon wsX7_isWon) := goodIn_app (goodIn_of _ (by decide +kernel)) ggX8_times_X7_isWon
set_option maxRecDepth 20000 in
theorem ggX8_times_X8_oneIf : GoodIn wsX8_times wsX8_oneIf := goodIn_r _ [47] (by decide +kernel) (by decide +kernel)
set_option maxRecDepth 20000 in
theorem gX8_times_X8_oneIf : GoodIn wsX8_times (va_wsS RX8 39 yX8_oneIf wsX8_oneIf) := goodIn_app (goodIn_of _ (by decide +kernel)) ggX8_times_X8_oneIf
theorem dX8_times_0 : decode cX8_times 0 = .ok (.iload_n 1, 1) := by decide +kernel
theorem dX8_times_1 : decode cX8_times 1 = .ok (.i2l, 1) := by decide +kernel
theorem dX8_times_2 : decode cX8_times 2 = .ok (.invokestatic 86, 3) := by decide +kernel
theorem dX8_times_5 : decode cX8_times 5 = .ok (.ifCond .eq 18, 3) := by decide +kernel
theorem dX8_times_8 : decode cX8_times 8 = .ok (.lload_n 2, 1) := by decide +kernel
theorem dX8_times_9 : decode cX8_times 9 = .ok (.invokestatic 25, 3) := by decide +kernel
theorem dX8_times_12 : decode cX8_times 12 = .ok (.ifCond .eq 11, 3) := by decide +kernel
theorem dX8_times_15 : decode cX8_times 15 = .ok (.lload 4, 2) := by decide +kernel
theorem dX8_times_17 : decode cX8_times 17 = .ok (.invokestatic 25, 3) := by decide +kernel
theorem dX8_times_20 : decode cX8_times 20 = .ok (.ifCond .ne 6, 3) := by decide +kernel
theorem dX8_times_23 : decode cX8_times 23 = .ok (.bipush (-2), 2) := by decide +kernel
theorem dX8_times_25 : decode cX8_times 25 = .ok (.ireturn, 1) := by decide +kernel
theorem dX8_times_26 : decode cX8_times 26 = .ok (.aload_n 0, 1) := by decide +kernel
theorem dX8_times_27 : decode cX8_times 27 = .ok (.getfield 10, 3) := by decide +kernel
theorem dX8_times_30 : decode cX8_times 30 = .ok (.getfield 89, 3) := by decide +kernel
theorem dX8_times_33 : decode cX8_times 33 = .ok (.iload_n 1, 1) := by decide +kernel
theorem dX8_times_34 : decode cX8_times 34 = .ok (.lload_n 2, 1) := by decide +kernel
theorem dX8_times_35 : decode cX8_times 35 = .ok (.lload 4, 2) := by decide +kernel
theorem dX8_times_37 : decode cX8_times 37 = .ok (.invokevirtual 114, 3) := by decide +kernel
theorem dX8_times_40 : decode cX8_times 40 = .ok (.invokestatic 39, 3) := by decide +kernel
theorem dX8_times_43 : decode cX8_times 43 = .ok (.ireturn, 1) := by decide +kernel
set_option maxRecDepth 20000 in
theorem ggX8_timesMove_X8_isFactor : GoodIn wsX8_timesMove wsX8_isFactor := goodIn_r _ [6, 7, 8, 9, 5, 10] (by decide +kernel) (by decide +kernel)
set_option maxRecDepth 20000 in
theorem gX8_timesMove_X8_isFactor : GoodIn wsX8_timesMove (va_wsS RX8 86 yX8_isFactor wsX8_isFactor) := goodIn_app (goodIn_of _ (by decide +kernel)) ggX8_timesMove_X8_isFactor
set_option maxRecDepth 20000 in
theorem ggX8_timesMove_X8_isHeap : GoodIn wsX8_timesMove wsX8_isHeap := goodIn_r _ [13, 14, 8, 9, 5, 10] (by decide +kernel) (by decide +kernel)
set_option maxRecDepth 20000 in
theorem gX8_timesMove_X8_isHeap : GoodIn wsX8_timesMove (va_wsS RX8 25 yX8_isHeap wsX8_isHeap) := goodIn_app (goodIn_of _ (by decide +kernel)) ggX8_timesMove_X8_isHeap
set_option maxRecDepth 20000 in
theorem ggX8_timesMove_X7_leastTaken : GoodIn wsX8_timesMove wsX7_leastTaken := goodIn_r _ [19, 20, 21, 22, 18, 23, 24, 25, 26, 27, 28, 29, 30, 31, 32, 33, 34, 35, 36, 37, 38, 39, 40, 41, 49, 50, 51] (by decide +kernel) (by decide +kernel)
set_option maxRecDepth 20000 in
theorem gX8_timesMove_X7_leastTaken : GoodIn wsX8_timesMove (wsV RX8 117 RX7 yX7_leastTaken wsX7_leastTaken) := goodIn_app (goodIn_of _ (by decide +kernel)) ggX8_timesMove_X7_leastTaken
theorem dX8_timesMove_0 : decode cX8_timesMove 0 = .ok (.iload_n 1, 1) := by decide +kernel
theorem dX8_timesMove_1 : decode cX8_timesMove 1 = .ok (.i2l, 1) := by decide +kernel
theorem dX8_timesMove_2 : decode cX8_timesMove 2 = .ok (.invokestatic 86, 3) := by decide +kernel
theorem dX8_timesMove_5 : decode cX8_timesMove 5 = .ok (.ifCond .eq 18, 3) := by decide +kernel
theorem dX8_timesMove_8 : decode cX8_timesMove 8 = .ok (.lload_n 2, 1) := by decide +kernel
theorem dX8_timesMove_9 : decode cX8_timesMove 9 = .ok (.invokestatic 25, 3) := by decide +kernel
theorem dX8_timesMove_12 : decode cX8_timesMove 12 = .ok (.ifCond .eq 11, 3) := by decide +kernel
theorem dX8_timesMove_15 : decode cX8_timesMove 15 = .ok (.lload 4, 2) := by decide +kernel
theorem dX8_timesMove_17 : decode cX8_timesMove 17 = .ok (.invokestatic 25, 3) := by decide +kernel
theorem dX8_timesMove_20 : decode cX8_timesMove 20 = .ok (.ifCond .ne 7, 3) := by decide +kernel
theorem dX8_timesMove_23 : decode cX8_timesMove 23 = .ok (.ldc2_w 43, 3) := by decide +kernel
theorem dX8_timesMove_26 : decode cX8_timesMove 26 = .ok (.lreturn, 1) := by decide +kernel
theorem dX8_timesMove_27 : decode cX8_timesMove 27 = .ok (.aload_n 0, 1) := by decide +kernel
theorem dX8_timesMove_28 : decode cX8_timesMove 28 = .ok (.getfield 10, 3) := by decide +kernel
theorem dX8_timesMove_31 : decode cX8_timesMove 31 = .ok (.getfield 89, 3) := by decide +kernel
theorem dX8_timesMove_34 : decode cX8_timesMove 34 = .ok (.iload_n 1, 1) := by decide +kernel
theorem dX8_timesMove_35 : decode cX8_timesMove 35 = .ok (.lload_n 2, 1) := by decide +kernel
theorem dX8_timesMove_36 : decode cX8_timesMove 36 = .ok (.lload 4, 2) := by decide +kernel
theorem dX8_timesMove_38 : decode cX8_timesMove 38 = .ok (.invokevirtual 117, 3) := by decide +kernel
theorem dX8_timesMove_41 : decode cX8_timesMove 41 = .ok (.lreturn, 1) := by decide +kernel
set_option maxRecDepth 20000 in
theorem ggX8_byAll_X8_areHeapsOf : GoodIn wsX8_byAll wsX8_areHeapsOf := goodIn_r _ [5, 6, 7, 8, 9, 10, 4, 11, 12, 13, 14, 15, 16, 17, 18] (by decide +kernel) (by decide +kernel)
set_option maxRecDepth 20000 in
theorem gX8_byAll_X8_areHeapsOf : GoodIn wsX8_byAll (va_wsS RX8 121 yX8_areHeapsOf wsX8_areHeapsOf) := goodIn_app (goodIn_of _ (by decide +kernel)) ggX8_byAll_X8_areHeapsOf
set_option maxRecDepth 20000 in
theorem ggX8_byAll_X2_tableOf : GoodIn wsX8_byAll wsX2_tableOf := goodIn_r _ [23, 24, 25, 26, 27, 28, 10, 4, 11, 29, 30, 31, 32, 33, 34, 35, 36, 37, 38, 39, 40, 41, 42, 43, 44, 45, 46, 47, 48, 49, 50, 51, 52, 53, 54, 55, 56, 57, 58, 59, 60, 61, 62, 63, 64, 65, 73, 74, 75, 76, 77, 78, 79] (by decide +kernel) (by decide +kernel)
set_option maxRecDepth 20000 in
theorem gX8_byAll_X2_tableOf : GoodIn wsX8_byAll (wsV RX8 125 RX2 yX2_tableOf wsX2_tableOf) := goodIn_app (goodIn_of _ (by decide +kernel)) ggX8_byAll_X2_tableOf
set_option maxRecDepth 20000 in
theorem ggX8_byAll_X3_has : GoodIn wsX8_byAll wsX3_has := goodIn_r _ [69, 37, 39, 78, 79] (by decide +kernel) (by decide +kernel)
set_option maxRecDepth 20000 in
theorem gX8_byAll_X3_has : GoodIn wsX8_byAll (wsV RX8 129 RX3 yX3_has wsX3_has) := goodIn_app (goodIn_of _ (by decide +kernel)) ggX8_byAll_X3_has
set_option maxRecDepth 20000 in
theorem ggX8_byAll_X8_oneIf : GoodIn wsX8_byAll wsX8_oneIf := goodIn_r _ [30] (by decide +kernel) (by decide +kernel)
set_option maxRecDepth 20000 in
theorem gX8_byAll_X8_oneIf : GoodIn wsX8_byAll (va_wsS RX8 39 yX8_oneIf wsX8_oneIf) := goodIn_app (goodIn_of _ (by decide +kernel)) ggX8_byAll_X8_oneIf
theorem dX8_byAll_0 : decode cX8_byAll 0 = .ok (.iload_n 1, 1) := by decide +kernel
theorem dX8_byAll_1 : decode cX8_byAll 1 = .ok (.iconst 1, 1) := by decide +kernel
theorem dX8_byAll_2 : decode cX8_byAll 2 = .ok (.iload_n 3, 1) := by decide +kernel
theorem dX8_byAll_3 : decode cX8_byAll 3 = .ok (.i2l, 1) := by decide +kernel
theorem dX8_byAll_4 : decode cX8_byAll 4 = .ok (.iload 4, 2) := by decide +kernel
theorem dX8_byAll_6 : decode cX8_byAll 6 = .ok (.i2l, 1) := by decide +kernel
theorem dX8_byAll_7 : decode cX8_byAll 7 = .ok (.iload 5, 2) := by decide +kernel
theorem dX8_byAll_9 : decode cX8_byAll 9 = .ok (.i2l, 1) := by decide +kernel
theorem dX8_byAll_10 : decode cX8_byAll 10 = .ok (.invokestatic 121, 3) := by decide +kernel
theorem dX8_byAll_13 : decode cX8_byAll 13 = .ok (.ifCond .ne 6, 3) := by decide +kernel
theorem dX8_byAll_16 : decode cX8_byAll 16 = .ok (.bipush (-2), 2) := by decide +kernel
theorem dX8_byAll_18 : decode cX8_byAll 18 = .ok (.ireturn, 1) := by decide +kernel
theorem dX8_byAll_19 : decode cX8_byAll 19 = .ok (.aload_n 0, 1) := by decide +kernel
theorem dX8_byAll_20 : decode cX8_byAll 20 = .ok (.getfield 10, 3) := by decide +kernel
theorem dX8_byAll_23 : decode cX8_byAll 23 = .ok (.iload_n 1, 1) := by decide +kernel
theorem dX8_byAll_24 : decode cX8_byAll 24 = .ok (.iload_n 2, 1) := by decide +kernel
theorem dX8_byAll_25 : decode cX8_byAll 25 = .ok (.invokevirtual 125, 3) := by decide +kernel
theorem dX8_byAll_28 : decode cX8_byAll 28 = .ok (.iload_n 3, 1) := by decide +kernel
theorem dX8_byAll_29 : decode cX8_byAll 29 = .ok (.iload 4, 2) := by decide +kernel
theorem dX8_byAll_31 : decode cX8_byAll 31 = .ok (.iload 5, 2) := by decide +kernel
theorem dX8_byAll_33 : decode cX8_byAll 33 = .ok (.invokevirtual 129, 3) := by decide +kernel
theorem dX8_byAll_36 : decode cX8_byAll 36 = .ok (.ifCond .ne 7, 3) := by decide +kernel
theorem dX8_byAll_39 : decode cX8_byAll 39 = .ok (.iconst 1, 1) := by decide +kernel
theorem dX8_byAll_40 : decode cX8_byAll 40 = .ok (.goto 4, 3) := by decide +kernel
theorem dX8_byAll_43 : decode cX8_byAll 43 = .ok (.iconst 0, 1) := by decide +kernel
theorem dX8_byAll_44 : decode cX8_byAll 44 = .ok (.invokestatic 39, 3) := by decide +kernel
theorem dX8_byAll_47 : decode cX8_byAll 47 = .ok (.ireturn, 1) := by decide +kernel
set_option maxRecDepth 20000 in
theorem ggX8_lostUpTo_X8_mostByAll : GoodIn wsX8_lostUpTo wsX8_mostByAll := goodIn_r _ [5] (by decide +kernel) (by decide +kernel)
set_option maxRecDepth 20000 in
theorem gX8_lostUpTo_X8_mostByAll : GoodIn wsX8_lostUpTo (va_wsS RX8 135 yX8_mostByAll wsX8_mostByAll) := goodIn_app (goodIn_of _ (by decide +kernel)) ggX8_lostUpTo_X8_mostByAll
set_option maxRecDepth 20000 in
theorem ggX8_lostUpTo_X8_isWithin : GoodIn wsX8_lostUpTo wsX8_isWithin := goodIn_r _ [8] (by decide +kernel) (by decide +kernel)
set_option maxRecDepth 20000 in
theorem gX8_lostUpTo_X8_isWithin : GoodIn wsX8_lostUpTo (va_wsS RX8 56 yX8_isWithin wsX8_isWithin) := goodIn_app (goodIn_of _ (by decide +kernel)) ggX8_lostUpTo_X8_isWithin
set_option maxRecDepth 20000 in
theorem ggX8_lostUpTo_X2_tableOf : GoodIn wsX8_lostUpTo wsX2_tableOf := goodIn_r _ [13, 14, 15, 16, 17, 18, 7, 4, 8, 19, 20, 21, 22, 23, 24, 25, 26, 27, 28, 29, 30, 31, 32, 33, 34, 35, 36, 37, 38, 39, 40, 41, 42, 43, 44, 45, 46, 47, 48, 49, 50, 51, 52, 53, 54, 55, 69, 70, 71, 72, 73, 74, 75] (by decide +kernel) (by decide +kernel)
set_option maxRecDepth 20000 in
theorem gX8_lostUpTo_X2_tableOf : GoodIn wsX8_lostUpTo (wsV RX8 125 RX2 yX2_tableOf wsX2_tableOf) := goodIn_app (goodIn_of _ (by decide +kernel)) ggX8_lostUpTo_X2_tableOf
set_option maxRecDepth 20000 in
theorem ggX8_lostUpTo_X3_countUpTo : GoodIn wsX8_lostUpTo wsX3_countUpTo := goodIn_r _ [59, 29, 27, 60, 61, 62, 63, 64, 65, 66, 74, 75] (by decide +kernel) (by decide +kernel)
set_option maxRecDepth 20000 in
theorem gX8_lostUpTo_X3_countUpTo : GoodIn wsX8_lostUpTo (wsV RX8 139 RX3 yX3_countUpTo wsX3_countUpTo) := goodIn_app (goodIn_of _ (by decide +kernel)) ggX8_lostUpTo_X3_countUpTo
theorem dX8_lostUpTo_0 : decode cX8_lostUpTo 0 = .ok (.iload_n 3, 1) := by decide +kernel
theorem dX8_lostUpTo_1 : decode cX8_lostUpTo 1 = .ok (.i2l, 1) := by decide +kernel
theorem dX8_lostUpTo_2 : decode cX8_lostUpTo 2 = .ok (.lconst 1, 1) := by decide +kernel
theorem dX8_lostUpTo_3 : decode cX8_lostUpTo 3 = .ok (.iload_n 1, 1) := by decide +kernel
theorem dX8_lostUpTo_4 : decode cX8_lostUpTo 4 = .ok (.invokestatic 135, 3) := by decide +kernel
theorem dX8_lostUpTo_7 : decode cX8_lostUpTo 7 = .ok (.i2l, 1) := by decide +kernel
theorem dX8_lostUpTo_8 : decode cX8_lostUpTo 8 = .ok (.invokestatic 56, 3) := by decide +kernel
theorem dX8_lostUpTo_11 : decode cX8_lostUpTo 11 = .ok (.ifCond .ne 6, 3) := by decide +kernel
theorem dX8_lostUpTo_14 : decode cX8_lostUpTo 14 = .ok (.bipush (-2), 2) := by decide +kernel
theorem dX8_lostUpTo_16 : decode cX8_lostUpTo 16 = .ok (.ireturn, 1) := by decide +kernel
theorem dX8_lostUpTo_17 : decode cX8_lostUpTo 17 = .ok (.aload_n 0, 1) := by decide +kernel
theorem dX8_lostUpTo_18 : decode cX8_lostUpTo 18 = .ok (.getfield 10, 3) := by decide +kernel
theorem dX8_lostUpTo_21 : decode cX8_lostUpTo 21 = .ok (.iload_n 1, 1) := by decide +kernel
theorem dX8_lostUpTo_22 : decode cX8_lostUpTo 22 = .ok (.iload_n 2, 1) := by decide +kernel
theorem dX8_lostUpTo_23 : decode cX8_lostUpTo 23 = .ok (.invokevirtual 125, 3) := by decide +kernel
theorem dX8_lostUpTo_26 : decode cX8_lostUpTo 26 = .ok (.iload_n 3, 1) := by decide +kernel
theorem dX8_lostUpTo_27 : decode cX8_lostUpTo 27 = .ok (.invokevirtual 139, 3) := by decide +kernel
theorem dX8_lostUpTo_30 : decode cX8_lostUpTo 30 = .ok (.ireturn, 1) := by decide +kernel
set_option maxRecDepth 20000 in
theorem ggX8_timesByAll_X8_isFactor : GoodIn wsX8_timesByAll wsX8_isFactor := goodIn_r _ [5, 6, 7, 8, 4, 9] (by decide +kernel) (by decide +kernel)
set_option maxRecDepth 20000 in
theorem gX8_timesByAll_X8_isFactor : GoodIn wsX8_timesByAll (va_wsS RX8 86 yX8_isFactor wsX8_isFactor) := goodIn_app (goodIn_of _ (by decide +kernel)) ggX8_timesByAll_X8_isFactor
set_option maxRecDepth 20000 in
theorem ggX8_timesByAll_X8_isWithin : GoodIn wsX8_timesByAll wsX8_isWithin := goodIn_r _ [9] (by decide +kernel) (by decide +kernel)
set_option maxRecDepth 20000 in
theorem gX8_timesByAll_X8_isWithin : GoodIn wsX8_timesByAll (va_wsS RX8 56 yX8_isWithin wsX8_isWithin) := goodIn_app (goodIn_of _ (by decide +kernel)) ggX8_timesByAll_X8_isWithin
set_option maxRecDepth 20000 in
theorem ggX8_timesByAll_X7_isWonByAll : GoodIn wsX8_timesByAll wsX7_isWonByAll := goodIn_r _ [13, 14, 15, 8, 4, 9] (by decide +kernel) (by decide +kernel)
set_option maxRecDepth 20000 in
theorem gX8_timesByAll_X7_isWonByAll : GoodIn wsX8_timesByAll (va_wsS RX8 144 yX7_isWonByAll wsX7_isWonByAll) := goodIn_app (goodIn_of _ (by decide +kernel)) ggX8_timesByAll_X7_isWonByAll
set_option maxRecDepth 20000 in
theorem ggX8_timesByAll_X8_oneIf : GoodIn wsX8_timesByAll wsX8_oneIf := goodIn_r _ [18] (by decide +kernel) (by decide +kernel)
set_option maxRecDepth 20000 in
theorem gX8_timesByAll_X8_oneIf : GoodIn wsX8_timesByAll (va_wsS RX8 39 yX8_oneIf wsX8_oneIf) := goodIn_app (goodIn_of _ (by decide +kernel)) ggX8_timesByAll_X8_oneIf
theorem dX8_timesByAll_0 : decode cX8_timesByAll 0 = .ok (.iload_n 1, 1) := by decide +kernel
theorem dX8_timesByAll_1 : decode cX8_timesByAll 1 = .ok (.i2l, 1) := by decide +kernel
theorem dX8_timesByAll_2 : decode cX8_timesByAll 2 = .ok (.invokestatic 86, 3) := by decide +kernel
theorem dX8_timesByAll_5 : decode cX8_timesByAll 5 = .ok (.ifCond .eq 27, 3) := by decide +kernel
theorem dX8_timesByAll_8 : decode cX8_timesByAll 8 = .ok (.iload_n 2, 1) := by decide +kernel
theorem dX8_timesByAll_9 : decode cX8_timesByAll 9 = .ok (.i2l, 1) := by decide +kernel
theorem dX8_timesByAll_10 : decode cX8_timesByAll 10 = .ok (.lconst 0, 1) := by decide +kernel
theorem dX8_timesByAll_11 : decode cX8_timesByAll 11 = .ok (.ldc2_w 142, 3) := by decide +kernel
theorem dX8_timesByAll_14 : decode cX8_timesByAll 14 = .ok (.invokestatic 56, 3) := by decide +kernel
theorem dX8_timesByAll_17 : decode cX8_timesByAll 17 = .ok (.ifCond .eq 15, 3) := by decide +kernel
theorem dX8_timesByAll_20 : decode cX8_timesByAll 20 = .ok (.iload_n 3, 1) := by decide +kernel
theorem dX8_timesByAll_21 : decode cX8_timesByAll 21 = .ok (.i2l, 1) := by decide +kernel
theorem dX8_timesByAll_22 : decode cX8_timesByAll 22 = .ok (.lconst 0, 1) := by decide +kernel
theorem dX8_timesByAll_23 : decode cX8_timesByAll 23 = .ok (.ldc2_w 142, 3) := by decide +kernel
theorem dX8_timesByAll_26 : decode cX8_timesByAll 26 = .ok (.invokestatic 56, 3) := by decide +kernel
theorem dX8_timesByAll_29 : decode cX8_timesByAll 29 = .ok (.ifCond .ne 6, 3) := by decide +kernel
theorem dX8_timesByAll_32 : decode cX8_timesByAll 32 = .ok (.bipush (-2), 2) := by decide +kernel
theorem dX8_timesByAll_34 : decode cX8_timesByAll 34 = .ok (.ireturn, 1) := by decide +kernel
theorem dX8_timesByAll_35 : decode cX8_timesByAll 35 = .ok (.iload_n 1, 1) := by decide +kernel
theorem dX8_timesByAll_36 : decode cX8_timesByAll 36 = .ok (.iload_n 2, 1) := by decide +kernel
theorem dX8_timesByAll_37 : decode cX8_timesByAll 37 = .ok (.iload_n 3, 1) := by decide +kernel
theorem dX8_timesByAll_38 : decode cX8_timesByAll 38 = .ok (.invokestatic 144, 3) := by decide +kernel
theorem dX8_timesByAll_41 : decode cX8_timesByAll 41 = .ok (.invokestatic 39, 3) := by decide +kernel
theorem dX8_timesByAll_44 : decode cX8_timesByAll 44 = .ok (.ireturn, 1) := by decide +kernel
set_option maxRecDepth 20000 in
theorem ggX8_board_X8_areHeapsOf : GoodIn wsX8_board wsX8_areHeapsOf := goodIn_r _ [5, 6, 7, 8, 9, 10, 4, 11, 12, 13, 14, 15, 16, 17, 18] (by decide +kernel) (by decide +kernel)
set_option maxRecDepth 20000 in
theorem gX8_board_X8_areHeapsOf : GoodIn wsX8_board (va_wsS RX8 121 yX8_areHeapsOf wsX8_areHeapsOf) := goodIn_app (goodIn_of _ (by decide +kernel)) ggX8_board_X8_areHeapsOf
set_option maxRecDepth 20000 in
theorem ggX8_board_X4_begin : GoodIn wsX8_board wsX4_begin := goodIn_r _ [23, 24, 25, 26, 27, 28, 31, 32, 33, 34, 35, 36, 37, 38, 39] (by decide +kernel) (by decide +kernel)
set_option maxRecDepth 20000 in
theorem gX8_board_X4_begin : GoodIn wsX8_board (wsV RX8 147 RX4 yX4_begin wsX4_begin) := goodIn_app (goodIn_of _ (by decide +kernel)) ggX8_board_X4_begin
theorem dX8_board_0 : decode cX8_board 0 = .ok (.iload_n 1, 1) := by decide +kernel
theorem dX8_board_1 : decode cX8_board 1 = .ok (.iload_n 2, 1) := by decide +kernel
theorem dX8_board_2 : decode cX8_board 2 = .ok (.lload_n 3, 1) := by decide +kernel
theorem dX8_board_3 : decode cX8_board 3 = .ok (.lload 5, 2) := by decide +kernel
theorem dX8_board_5 : decode cX8_board 5 = .ok (.lload 7, 2) := by decide +kernel
theorem dX8_board_7 : decode cX8_board 7 = .ok (.invokestatic 121, 3) := by decide +kernel
theorem dX8_board_10 : decode cX8_board 10 = .ok (.ifCond .ne 6, 3) := by decide +kernel
theorem dX8_board_13 : decode cX8_board 13 = .ok (.bipush (-2), 2) := by decide +kernel
theorem dX8_board_15 : decode cX8_board 15 = .ok (.ireturn, 1) := by decide +kernel
theorem dX8_board_16 : decode cX8_board 16 = .ok (.aload_n 0, 1) := by decide +kernel
theorem dX8_board_17 : decode cX8_board 17 = .ok (.getfield 21, 3) := by decide +kernel
theorem dX8_board_20 : decode cX8_board 20 = .ok (.iload_n 1, 1) := by decide +kernel
theorem dX8_board_21 : decode cX8_board 21 = .ok (.iload_n 2, 1) := by decide +kernel
theorem dX8_board_22 : decode cX8_board 22 = .ok (.lload_n 3, 1) := by decide +kernel
theorem dX8_board_23 : decode cX8_board 23 = .ok (.lload 5, 2) := by decide +kernel
theorem dX8_board_25 : decode cX8_board 25 = .ok (.lload 7, 2) := by decide +kernel
theorem dX8_board_27 : decode cX8_board 27 = .ok (.invokevirtual 147, 3) := by decide +kernel
theorem dX8_board_30 : decode cX8_board 30 = .ok (.iconst 1, 1) := by decide +kernel
theorem dX8_board_31 : decode cX8_board 31 = .ok (.ireturn, 1) := by decide +kernel
set_option maxRecDepth 20000 in
theorem ggX8_move_X4_ways : GoodIn wsX8_move wsX4_ways := goodIn_r _ [6, 7, 8, 9, 10, 5, 11, 173, 174, 175, 176, 177, 178, 179, 180, 181] (by decide +kernel) (by decide +kernel)
set_option maxRecDepth 20000 in
theorem gX8_move_X4_ways : GoodIn wsX8_move (wsV RX8 151 RX4 yX4_ways wsX4_ways) := goodIn_app (goodIn_of _ (by decide +kernel)) ggX8_move_X4_ways
set_option maxRecDepth 20000 in
theorem ggX8_move_X8_isWithin : GoodIn wsX8_move wsX8_isWithin := goodIn_r _ [15] (by decide +kernel) (by decide +kernel)
set_option maxRecDepth 20000 in
theorem gX8_move_X8_isWithin : GoodIn wsX8_move (va_wsS RX8 56 yX8_isWithin wsX8_isWithin) := goodIn_app (goodIn_of _ (by decide +kernel)) ggX8_move_X8_isWithin
set_option maxRecDepth 20000 in
theorem ggX8_move_X4_mayTake : GoodIn wsX8_move wsX4_mayTake := goodIn_r _ [19, 20, 21, 7, 8, 9, 10, 5, 11, 22, 23, 24, 25, 26, 27, 28, 29, 30, 31, 32, 33, 34, 35, 36, 37, 38, 39, 173, 174, 175, 176, 177, 178, 179, 180, 181] (by decide +kernel) (by decide +kernel)
set_option maxRecDepth 20000 in
theorem gX8_move_X4_mayTake : GoodIn wsX8_move (wsV RX8 155 RX4 yX4_mayTake wsX4_mayTake) := goodIn_app (goodIn_of _ (by decide +kernel)) ggX8_move_X4_mayTake
set_option maxRecDepth 20000 in
theorem ggX8_move_X4_take : GoodIn wsX8_move wsX4_take := goodIn_r _ [43, 20, 44, 36, 45, 46, 47, 48, 5, 49, 7, 50, 35, 21, 51, 26, 27, 28, 29, 30, 31, 32, 33, 34, 37, 38, 39, 52, 53, 54, 55, 56, 57, 58, 59, 60, 61, 62, 63, 64, 65, 66, 67, 68, 69, 70, 71, 72, 73, 74, 75, 76, 77, 78, 79, 80, 81, 82, 83, 84, 85, 86, 87, 88, 89, 90, 91, 92, 13, 14, 15, 93, 94, 95, 96, 97, 98, 99, 100, 101, 102, 103, 104, 105, 106, 107, 108, 109, 110, 111, 112, 113, 114, 115, 116, 117, 118, 119, 120, 121, 122, 123, 124, 125, 126, 127, 128, 129, 130, 131, 132, 133, 134, 135, 136, 137, 138, 139, 140, 141, 142, 143, 144, 145, 146, 147, 148, 149, 150, 151, 152, 153, 154, 155, 156, 157, 158, 159, 160, 161, 162, 163, 164, 165, 166, 8, 9, 10, 11, 22, 23, 24, 25, 173, 174, 175, 176, 177, 178, 179, 180, 181, 182, 183, 184, 185, 186, 187, 188, 189, 190, 191, 192, 193, 194] (by decide +kernel) (by decide +kernel)
set_option maxRecDepth 20000 in
theorem gX8_move_X4_take : GoodIn wsX8_move (wsV RX8 159 RX4 yX4_take wsX4_take) := goodIn_app (goodIn_of _ (by decide +kernel)) ggX8_move_X4_take
set_option maxRecDepth 20000 in
theorem ggX8_move_X4_isOver : GoodIn wsX8_move wsX4_isOver := goodIn_r _ [170, 7, 21, 26, 27, 28, 5, 29, 20, 30, 31, 32, 33, 34, 35, 36, 37, 38, 39, 173, 174, 175, 176, 177, 178, 179, 180, 181] (by decide +kernel) (by decide +kernel)
set_option maxRecDepth 20000 in
theorem gX8_move_X4_isOver : GoodIn wsX8_move (wsV RX8 163 RX4 yX4_isOver wsX4_isOver) := goodIn_app (goodIn_of _ (by decide +kernel)) ggX8_move_X4_isOver
theorem dX8_move_0 : decode cX8_move 0 = .ok (.iload_n 1, 1) := by decide +kernel
theorem dX8_move_1 : decode cX8_move 1 = .ok (.i2l, 1) := by decide +kernel
theorem dX8_move_2 : decode cX8_move 2 = .ok (.lconst 0, 1) := by decide +kernel
theorem dX8_move_3 : decode cX8_move 3 = .ok (.aload_n 0, 1) := by decide +kernel
theorem dX8_move_4 : decode cX8_move 4 = .ok (.getfield 21, 3) := by decide +kernel
theorem dX8_move_7 : decode cX8_move 7 = .ok (.invokevirtual 151, 3) := by decide +kernel
theorem dX8_move_10 : decode cX8_move 10 = .ok (.iconst 1, 1) := by decide +kernel
theorem dX8_move_11 : decode cX8_move 11 = .ok (.isub, 1) := by decide +kernel
theorem dX8_move_12 : decode cX8_move 12 = .ok (.i2l, 1) := by decide +kernel
theorem dX8_move_13 : decode cX8_move 13 = .ok (.invokestatic 56, 3) := by decide +kernel
theorem dX8_move_16 : decode cX8_move 16 = .ok (.ifCond .ne 6, 3) := by decide +kernel
theorem dX8_move_19 : decode cX8_move 19 = .ok (.bipush (-2), 2) := by decide +kernel
theorem dX8_move_21 : decode cX8_move 21 = .ok (.ireturn, 1) := by decide +kernel
theorem dX8_move_22 : decode cX8_move 22 = .ok (.aload_n 0, 1) := by decide +kernel
theorem dX8_move_23 : decode cX8_move 23 = .ok (.getfield 21, 3) := by decide +kernel
theorem dX8_move_26 : decode cX8_move 26 = .ok (.iload_n 1, 1) := by decide +kernel
theorem dX8_move_27 : decode cX8_move 27 = .ok (.lload_n 2, 1) := by decide +kernel
theorem dX8_move_28 : decode cX8_move 28 = .ok (.invokevirtual 155, 3) := by decide +kernel
theorem dX8_move_31 : decode cX8_move 31 = .ok (.ifCond .ne 6, 3) := by decide +kernel
theorem dX8_move_34 : decode cX8_move 34 = .ok (.bipush (-3), 2) := by decide +kernel
theorem dX8_move_36 : decode cX8_move 36 = .ok (.ireturn, 1) := by decide +kernel
theorem dX8_move_37 : decode cX8_move 37 = .ok (.aload_n 0, 1) := by decide +kernel
theorem dX8_move_38 : decode cX8_move 38 = .ok (.getfield 21, 3) := by decide +kernel
theorem dX8_move_41 : decode cX8_move 41 = .ok (.iload_n 1, 1) := by decide +kernel
theorem dX8_move_42 : decode cX8_move 42 = .ok (.lload_n 2, 1) := by decide +kernel
theorem dX8_move_43 : decode cX8_move 43 = .ok (.invokevirtual 159, 3) := by decide +kernel
theorem dX8_move_46 : decode cX8_move 46 = .ok (.aload_n 0, 1) := by decide +kernel
theorem dX8_move_47 : decode cX8_move 47 = .ok (.getfield 21, 3) := by decide +kernel
theorem dX8_move_50 : decode cX8_move 50 = .ok (.invokevirtual 163, 3) := by decide +kernel
theorem dX8_move_53 : decode cX8_move 53 = .ok (.ifCond .eq 7, 3) := by decide +kernel
theorem dX8_move_56 : decode cX8_move 56 = .ok (.iconst 2, 1) := by decide +kernel
theorem dX8_move_57 : decode cX8_move 57 = .ok (.goto 4, 3) := by decide +kernel
theorem dX8_move_60 : decode cX8_move 60 = .ok (.iconst 1, 1) := by decide +kernel
theorem dX8_move_61 : decode cX8_move 61 = .ok (.ireturn, 1) := by decide +kernel
set_option maxRecDepth 20000 in
theorem ggX8_undo_X4_takeBack : GoodIn wsX8_undo wsX4_takeBack := goodIn_r _ [6, 7, 8, 9, 10, 11, 12, 5, 13, 14, 15, 16, 17, 18, 19, 20, 21, 22, 23, 30, 31, 32, 33, 34, 35, 36, 37, 38] (by decide +kernel) (by decide +kernel)
set_option maxRecDepth 20000 in
theorem gX8_undo_X4_takeBack : GoodIn wsX8_undo (wsV RX8 167 RX4 yX4_takeBack wsX4_takeBack) := goodIn_app (goodIn_of _ (by decide +kernel)) ggX8_undo_X4_takeBack
set_option maxRecDepth 20000 in
theorem ggX8_undo_X4_movesMade : GoodIn wsX8_undo wsX4_movesMade := goodIn_r _ [27, 7, 30, 31, 32, 33, 34, 35, 36, 37, 38] (by decide +kernel) (by decide +kernel)
set_option maxRecDepth 20000 in
theorem gX8_undo_X4_movesMade : GoodIn wsX8_undo (wsV RX8 170 RX4 yX4_movesMade wsX4_movesMade) := goodIn_app (goodIn_of _ (by decide +kernel)) ggX8_undo_X4_movesMade
theorem dX8_undo_0 : decode cX8_undo 0 = .ok (.aload_n 0, 1) := by decide +kernel
theorem dX8_undo_1 : decode cX8_undo 1 = .ok (.getfield 21, 3) := by decide +kernel
theorem dX8_undo_4 : decode cX8_undo 4 = .ok (.invokevirtual 167, 3) := by decide +kernel
theorem dX8_undo_7 : decode cX8_undo 7 = .ok (.ifCond .eq 13, 3) := by decide +kernel
theorem dX8_undo_10 : decode cX8_undo 10 = .ok (.aload_n 0, 1) := by decide +kernel
theorem dX8_undo_11 : decode cX8_undo 11 = .ok (.getfield 21, 3) := by decide +kernel
theorem dX8_undo_14 : decode cX8_undo 14 = .ok (.invokevirtual 170, 3) := by decide +kernel
theorem dX8_undo_17 : decode cX8_undo 17 = .ok (.goto 5, 3) := by decide +kernel
theorem dX8_undo_20 : decode cX8_undo 20 = .ok (.bipush (-3), 2) := by decide +kernel
theorem dX8_undo_22 : decode cX8_undo 22 = .ok (.ireturn, 1) := by decide +kernel
set_option maxRecDepth 20000 in
theorem ggX8_about_X4_tell : GoodIn wsX8_about wsX4_tell := goodIn_r _ [6, 7, 8, 9, 10, 11, 12, 13, 5, 14, 15, 16, 17, 18, 19, 20, 21, 22, 23, 24, 25, 26, 27, 28, 29, 30, 31, 32, 33, 34, 35, 36, 37, 38, 39, 40, 41, 42, 43, 44, 45, 46, 47, 48, 49, 50, 51, 52, 53, 54, 55, 56, 57, 58, 59, 60, 61, 62, 63, 64, 65, 66, 67, 68, 69, 70, 71, 72, 73, 74, 75, 76, 77, 78, 79, 80, 81, 82, 83, 84, 85, 86, 87, 88, 89, 90, 91, 92, 93, 94, 95, 96, 97, 98, 99, 100, 101, 102, 103, 104, 105, 106, 107, 108, 109, 110, 111, 112, 113, 114, 115, 116, 117, 118, 119, 120, 121, 122, 123, 124, 125, 126, 127, 128, 129, 130, 131, 132, 133, 134, 135, 136, 137, 138, 139, 140, 141, 142, 143, 144, 145, 146, 147, 148, 149, 152, 153, 154, 155, 156, 157, 158, 159, 160, 161, 162, 163, 164, 165, 166, 167, 168, 169, 170, 171, 172, 173] (by decide +kernel) (by decide +kernel)
set_option maxRecDepth 20000 in
theorem gX8_about_X4_tell : GoodIn wsX8_about (wsV RX8 173 RX4 yX4_tell wsX4_tell) := goodIn_app (goodIn_of _ (by decide +kernel)) ggX8_about_X4_tell
theorem dX8_about_0 : decode cX8_about 0 = .ok (.aload_n 0, 1) := by decide +kernel
theorem dX8_about_1 : decode cX8_about 1 = .ok (.getfield 21, 3) := by decide +kernel
theorem dX8_about_4 : decode cX8_about 4 = .ok (.iload_n 1, 1) := by decide +kernel
theorem dX8_about_5 : decode cX8_about 5 = .ok (.invokevirtual 173, 3) := by decide +kernel
theorem dX8_about_8 : decode cX8_about 8 = .ok (.lreturn, 1) := by decide +kernel
set_option maxRecDepth 20000 in
theorem ggX8_digest_X4_tell : GoodIn wsX8_digest wsX4_tell := goodIn_r _ [8, 9, 10, 11, 12, 13, 14, 15, 7, 16, 17, 18, 19, 20, 21, 22, 23, 24, 25, 26, 27, 28, 29, 30, 31, 32, 33, 34, 35, 36, 37, 38, 39, 40, 41, 42, 43, 44, 45, 46, 47, 48, 49, 50, 51, 52, 53, 54, 55, 56, 57, 58, 59, 60, 61, 62, 63, 64, 65, 66, 67, 68, 69, 70, 71, 72, 73, 74, 75, 76, 77, 78, 79, 80, 81, 82, 83, 84, 85, 86, 87, 88, 89, 90, 91, 92, 93, 94, 95, 96, 97, 98, 99, 100, 101, 102, 103, 104, 105, 106, 107, 108, 109, 110, 111, 112, 113, 114, 115, 116, 117, 118, 119, 120, 121, 122, 123, 124, 125, 126, 127, 128, 129, 130, 131, 132, 133, 134, 135, 136, 137, 138, 139, 140, 141, 142, 143, 144, 145, 146, 147, 148, 149, 150, 151, 154, 155, 156, 157, 158, 159, 160, 161, 162, 163, 164, 165, 166, 167, 168, 169, 170, 171, 172, 173, 174, 175] (by decide +kernel) (by decide +kernel)
set_option maxRecDepth 20000 in
theorem gX8_digest_X4_tell : GoodIn wsX8_digest (wsV RX8 173 RX4 yX4_tell wsX4_tell) := goodIn_app (goodIn_of _ (by decide +kernel)) ggX8_digest_X4_tell
theorem dX8_digest_0 : decode cX8_digest 0 = .ok (.ldc2_w 176, 3) := by decide +kernel
theorem dX8_digest_3 : decode cX8_digest 3 = .ok (.lstore_n 1, 1) := by decide +kernel
theorem dX8_digest_4 : decode cX8_digest 4 = .ok (.iconst 0, 1) := by decide +kernel
theorem dX8_digest_5 : decode cX8_digest 5 = .ok (.istore_n 3, 1) := by decide +kernel
theorem dX8_digest_6 : decode cX8_digest 6 = .ok (.iload_n 3, 1) := by decide +kernel
theorem dX8_digest_7 : decode cX8_digest 7 = .ok (.bipush 9, 2) := by decide +kernel
theorem dX8_digest_9 : decode cX8_digest 9 = .ok (.if_icmp .ge 24, 3) := by decide +kernel
theorem dX8_digest_12 : decode cX8_digest 12 = .ok (.ldc2_w 178, 3) := by decide +kernel
theorem dX8_digest_15 : decode cX8_digest 15 = .ok (.lload_n 1, 1) := by decide +kernel
theorem dX8_digest_16 : decode cX8_digest 16 = .ok (.lmul, 1) := by decide +kernel
theorem dX8_digest_17 : decode cX8_digest 17 = .ok (.aload_n 0, 1) := by decide +kernel
theorem dX8_digest_18 : decode cX8_digest 18 = .ok (.getfield 21, 3) := by decide +kernel
theorem dX8_digest_21 : decode cX8_digest 21 = .ok (.iload_n 3, 1) := by decide +kernel
theorem dX8_digest_22 : decode cX8_digest 22 = .ok (.invokevirtual 173, 3) := by decide +kernel
theorem dX8_digest_25 : decode cX8_digest 25 = .ok (.ladd, 1) := by decide +kernel
theorem dX8_digest_26 : decode cX8_digest 26 = .ok (.lstore_n 1, 1) := by decide +kernel
theorem dX8_digest_27 : decode cX8_digest 27 = .ok (.iinc 3 1, 3) := by decide +kernel
theorem dX8_digest_30 : decode cX8_digest 30 = .ok (.goto (-24), 3) := by decide +kernel
theorem dX8_digest_33 : decode cX8_digest 33 = .ok (.lload_n 1, 1) := by decide +kernel
theorem dX8_digest_34 : decode cX8_digest 34 = .ok (.lreturn, 1) := by decide +kernel
theorem dX8_isWithin_0 : decode cX8_isWithin 0 = .ok (.lload_n 0, 1) := by decide +kernel
theorem dX8_isWithin_1 : decode cX8_isWithin 1 = .ok (.lload_n 2, 1) := by decide +kernel
theorem dX8_isWithin_2 : decode cX8_isWithin 2 = .ok (.lcmp, 1) := by decide +kernel
theorem dX8_isWithin_3 : decode cX8_isWithin 3 = .ok (.ifCond .lt 14, 3) := by decide +kernel
theorem dX8_isWithin_6 : decode cX8_isWithin 6 = .ok (.lload_n 0, 1) := by decide +kernel
theorem dX8_isWithin_7 : decode cX8_isWithin 7 = .ok (.lload 4, 2) := by decide +kernel
theorem dX8_isWithin_9 : decode cX8_isWithin 9 = .ok (.lcmp, 1) := by decide +kernel
theorem dX8_isWithin_10 : decode cX8_isWithin 10 = .ok (.ifCond .gt 7, 3) := by decide +kernel
theorem dX8_isWithin_13 : decode cX8_isWithin 13 = .ok (.iconst 1, 1) := by decide +kernel
theorem dX8_isWithin_14 : decode cX8_isWithin 14 = .ok (.goto 4, 3) := by decide +kernel
theorem dX8_isWithin_17 : decode cX8_isWithin 17 = .ok (.iconst 0, 1) := by decide +kernel
theorem dX8_isWithin_18 : decode cX8_isWithin 18 = .ok (.ireturn, 1) := by decide +kernel
set_option maxRecDepth 20000 in
theorem ggX8_isHeap_X8_isWithin : GoodIn wsX8_isHeap wsX8_isWithin := goodIn_r _ [5] (by decide +kernel) (by decide +kernel)
set_option maxRecDepth 20000 in
theorem gX8_isHeap_X8_isWithin : GoodIn wsX8_isHeap (va_wsS RX8 56 yX8_isWithin wsX8_isWithin) := goodIn_app (goodIn_of _ (by decide +kernel)) ggX8_isHeap_X8_isWithin
theorem dX8_isHeap_0 : decode cX8_isHeap 0 = .ok (.lload_n 0, 1) := by decide +kernel
theorem dX8_isHeap_1 : decode cX8_isHeap 1 = .ok (.lconst 0, 1) := by decide +kernel
theorem dX8_isHeap_2 : decode cX8_isHeap 2 = .ok (.ldc2_w 109, 3) := by decide +kernel
theorem dX8_isHeap_5 : decode cX8_isHeap 5 = .ok (.invokestatic 56, 3) := by decide +kernel
theorem dX8_isHeap_8 : decode cX8_isHeap 8 = .ok (.ireturn, 1) := by decide +kernel
set_option maxRecDepth 20000 in
theorem ggX8_isFactor_X8_isWithin : GoodIn wsX8_isFactor wsX8_isWithin := goodIn_r _ [5] (by decide +kernel) (by decide +kernel)
set_option maxRecDepth 20000 in
theorem gX8_isFactor_X8_isWithin : GoodIn wsX8_isFactor (va_wsS RX8 56 yX8_isWithin wsX8_isWithin) := goodIn_app (goodIn_of _ (by decide +kernel)) ggX8_isFactor_X8_isWithin
theorem dX8_isFactor_0 : decode cX8_isFactor 0 = .ok (.lload_n 0, 1) := by decide +kernel
theorem dX8_isFactor_1 : decode cX8_isFactor 1 = .ok (.lconst 1, 1) := by decide +kernel
theorem dX8_isFactor_2 : decode cX8_isFactor 2 = .ok (.ldc2_w 180, 3) := by decide +kernel
theorem dX8_isFactor_5 : decode cX8_isFactor 5 = .ok (.invokestatic 56, 3) := by decide +kernel
theorem dX8_isFactor_8 : decode cX8_isFactor 8 = .ok (.ireturn, 1) := by decide +kernel
theorem dX8_mostByAll_0 : decode cX8_mostByAll 0 = .ok (.iload_n 0, 1) := by decide +kernel
theorem dX8_mostByAll_1 : decode cX8_mostByAll 1 = .ok (.ifCond .eq 8, 3) := by decide +kernel
theorem dX8_mostByAll_4 : decode cX8_mostByAll 4 = .ok (.iload_n 0, 1) := by decide +kernel
theorem dX8_mostByAll_5 : decode cX8_mostByAll 5 = .ok (.iconst 1, 1) := by decide +kernel
theorem dX8_mostByAll_6 : decode cX8_mostByAll 6 = .ok (.if_icmp .ne 6, 3) := by decide +kernel
theorem dX8_mostByAll_9 : decode cX8_mostByAll 9 = .ok (.bipush 60, 2) := by decide +kernel
theorem dX8_mostByAll_11 : decode cX8_mostByAll 11 = .ok (.ireturn, 1) := by decide +kernel
theorem dX8_mostByAll_12 : decode cX8_mostByAll 12 = .ok (.iload_n 0, 1) := by decide +kernel
theorem dX8_mostByAll_13 : decode cX8_mostByAll 13 = .ok (.iconst 3, 1) := by decide +kernel
theorem dX8_mostByAll_14 : decode cX8_mostByAll 14 = .ok (.if_icmp .ne 8, 3) := by decide +kernel
theorem dX8_mostByAll_17 : decode cX8_mostByAll 17 = .ok (.bipush 10, 2) := by decide +kernel
theorem dX8_mostByAll_19 : decode cX8_mostByAll 19 = .ok (.goto 4, 3) := by decide +kernel
theorem dX8_mostByAll_22 : decode cX8_mostByAll 22 = .ok (.iconst (-1), 1) := by decide +kernel
theorem dX8_mostByAll_23 : decode cX8_mostByAll 23 = .ok (.ireturn, 1) := by decide +kernel
set_option maxRecDepth 20000 in
theorem ggX8_areHeapsOf_X8_isWithin : GoodIn wsX8_areHeapsOf wsX8_isWithin := goodIn_r _ [7] (by decide +kernel) (by decide +kernel)
set_option maxRecDepth 20000 in
theorem gX8_areHeapsOf_X8_isWithin : GoodIn wsX8_areHeapsOf (va_wsS RX8 56 yX8_isWithin wsX8_isWithin) := goodIn_app (goodIn_of _ (by decide +kernel)) ggX8_areHeapsOf_X8_isWithin
set_option maxRecDepth 20000 in
theorem ggX8_areHeapsOf_X8_isHeap : GoodIn wsX8_areHeapsOf wsX8_isHeap := goodIn_r _ [10, 2, 4, 5, 6, 7] (by decide +kernel) (by decide +kernel)
set_option maxRecDepth 20000 in
theorem gX8_areHeapsOf_X8_isHeap : GoodIn wsX8_areHeapsOf (va_wsS RX8 25 yX8_isHeap wsX8_isHeap) := goodIn_app (goodIn_of _ (by decide +kernel)) ggX8_areHeapsOf_X8_isHeap
set_option maxRecDepth 20000 in
theorem ggX8_areHeapsOf_X8_isFactor : GoodIn wsX8_areHeapsOf wsX8_isFactor := goodIn_r _ [13, 14, 4, 5, 6, 7] (by decide +kernel) (by decide +kernel)
set_option maxRecDepth 20000 in
theorem gX8_areHeapsOf_X8_isFactor : GoodIn wsX8_areHeapsOf (va_wsS RX8 86 yX8_isFactor wsX8_isFactor) := goodIn_app (goodIn_of _ (by decide +kernel)) ggX8_areHeapsOf_X8_isFactor
theorem dX8_areHeapsOf_0 : decode cX8_areHeapsOf 0 = .ok (.iload_n 0, 1) := by decide +kernel
theorem dX8_areHeapsOf_1 : decode cX8_areHeapsOf 1 = .ok (.tableswitch 139 0 3 #[31, 31, 73, 98], 31) := by decide +kernel
theorem dX8_areHeapsOf_32 : decode cX8_areHeapsOf 32 = .ok (.iload_n 1, 1) := by decide +kernel
theorem dX8_areHeapsOf_33 : decode cX8_areHeapsOf 33 = .ok (.ifCond .eq 9, 3) := by decide +kernel
theorem dX8_areHeapsOf_36 : decode cX8_areHeapsOf 36 = .ok (.ldc2_w 142, 3) := by decide +kernel
theorem dX8_areHeapsOf_39 : decode cX8_areHeapsOf 39 = .ok (.goto 6, 3) := by decide +kernel
theorem dX8_areHeapsOf_42 : decode cX8_areHeapsOf 42 = .ok (.ldc2_w 109, 3) := by decide +kernel
theorem dX8_areHeapsOf_45 : decode cX8_areHeapsOf 45 = .ok (.lstore 8, 2) := by decide +kernel
theorem dX8_areHeapsOf_47 : decode cX8_areHeapsOf 47 = .ok (.lload_n 2, 1) := by decide +kernel
theorem dX8_areHeapsOf_48 : decode cX8_areHeapsOf 48 = .ok (.lconst 0, 1) := by decide +kernel
theorem dX8_areHeapsOf_49 : decode cX8_areHeapsOf 49 = .ok (.lload 8, 2) := by decide +kernel
theorem dX8_areHeapsOf_51 : decode cX8_areHeapsOf 51 = .ok (.invokestatic 56, 3) := by decide +kernel
theorem dX8_areHeapsOf_54 : decode cX8_areHeapsOf 54 = .ok (.ifCond .eq 18, 3) := by decide +kernel
theorem dX8_areHeapsOf_57 : decode cX8_areHeapsOf 57 = .ok (.lload 4, 2) := by decide +kernel
theorem dX8_areHeapsOf_59 : decode cX8_areHeapsOf 59 = .ok (.lconst 0, 1) := by decide +kernel
theorem dX8_areHeapsOf_60 : decode cX8_areHeapsOf 60 = .ok (.lload 8, 2) := by decide +kernel
theorem dX8_areHeapsOf_62 : decode cX8_areHeapsOf 62 = .ok (.invokestatic 56, 3) := by decide +kernel
theorem dX8_areHeapsOf_65 : decode cX8_areHeapsOf 65 = .ok (.ifCond .eq 7, 3) := by decide +kernel
theorem dX8_areHeapsOf_68 : decode cX8_areHeapsOf 68 = .ok (.iconst 1, 1) := by decide +kernel
theorem dX8_areHeapsOf_69 : decode cX8_areHeapsOf 69 = .ok (.goto 4, 3) := by decide +kernel
theorem dX8_areHeapsOf_72 : decode cX8_areHeapsOf 72 = .ok (.iconst 0, 1) := by decide +kernel
theorem dX8_areHeapsOf_73 : decode cX8_areHeapsOf 73 = .ok (.ireturn, 1) := by decide +kernel
theorem dX8_areHeapsOf_74 : decode cX8_areHeapsOf 74 = .ok (.iload_n 1, 1) := by decide +kernel
theorem dX8_areHeapsOf_75 : decode cX8_areHeapsOf 75 = .ok (.ifCond .ne 22, 3) := by decide +kernel
theorem dX8_areHeapsOf_78 : decode cX8_areHeapsOf 78 = .ok (.lload_n 2, 1) := by decide +kernel
theorem dX8_areHeapsOf_79 : decode cX8_areHeapsOf 79 = .ok (.invokestatic 25, 3) := by decide +kernel
theorem dX8_areHeapsOf_82 : decode cX8_areHeapsOf 82 = .ok (.ifCond .eq 15, 3) := by decide +kernel
theorem dX8_areHeapsOf_85 : decode cX8_areHeapsOf 85 = .ok (.lload 4, 2) := by decide +kernel
theorem dX8_areHeapsOf_87 : decode cX8_areHeapsOf 87 = .ok (.invokestatic 86, 3) := by decide +kernel
theorem dX8_areHeapsOf_90 : decode cX8_areHeapsOf 90 = .ok (.ifCond .eq 7, 3) := by decide +kernel
theorem dX8_areHeapsOf_93 : decode cX8_areHeapsOf 93 = .ok (.iconst 1, 1) := by decide +kernel
theorem dX8_areHeapsOf_94 : decode cX8_areHeapsOf 94 = .ok (.goto 4, 3) := by decide +kernel
theorem dX8_areHeapsOf_97 : decode cX8_areHeapsOf 97 = .ok (.iconst 0, 1) := by decide +kernel
theorem dX8_areHeapsOf_98 : decode cX8_areHeapsOf 98 = .ok (.ireturn, 1) := by decide +kernel
theorem dX8_areHeapsOf_99 : decode cX8_areHeapsOf 99 = .ok (.lload_n 2, 1) := by decide +kernel
theorem dX8_areHeapsOf_100 : decode cX8_areHeapsOf 100 = .ok (.lconst 0, 1) := by decide +kernel
theorem dX8_areHeapsOf_101 : decode cX8_areHeapsOf 101 = .ok (.ldc2_w 182, 3) := by decide +kernel
theorem dX8_areHeapsOf_104 : decode cX8_areHeapsOf 104 = .ok (.invokestatic 56, 3) := by decide +kernel
theorem dX8_areHeapsOf_107 : decode cX8_areHeapsOf 107 = .ok (.ifCond .eq 31, 3) := by decide +kernel
theorem dX8_areHeapsOf_110 : decode cX8_areHeapsOf 110 = .ok (.lload 4, 2) := by decide +kernel
theorem dX8_areHeapsOf_112 : decode cX8_areHeapsOf 112 = .ok (.lconst 0, 1) := by decide +kernel
theorem dX8_areHeapsOf_113 : decode cX8_areHeapsOf 113 = .ok (.ldc2_w 182, 3) := by decide +kernel
theorem dX8_areHeapsOf_116 : decode cX8_areHeapsOf 116 = .ok (.invokestatic 56, 3) := by decide +kernel
theorem dX8_areHeapsOf_119 : decode cX8_areHeapsOf 119 = .ok (.ifCond .eq 19, 3) := by decide +kernel
theorem dX8_areHeapsOf_122 : decode cX8_areHeapsOf 122 = .ok (.lload 6, 2) := by decide +kernel
theorem dX8_areHeapsOf_124 : decode cX8_areHeapsOf 124 = .ok (.lconst 0, 1) := by decide +kernel
theorem dX8_areHeapsOf_125 : decode cX8_areHeapsOf 125 = .ok (.ldc2_w 182, 3) := by decide +kernel
theorem dX8_areHeapsOf_128 : decode cX8_areHeapsOf 128 = .ok (.invokestatic 56, 3) := by decide +kernel
theorem dX8_areHeapsOf_131 : decode cX8_areHeapsOf 131 = .ok (.ifCond .eq 7, 3) := by decide +kernel
theorem dX8_areHeapsOf_134 : decode cX8_areHeapsOf 134 = .ok (.iconst 1, 1) := by decide +kernel
theorem dX8_areHeapsOf_135 : decode cX8_areHeapsOf 135 = .ok (.goto 4, 3) := by decide +kernel
theorem dX8_areHeapsOf_138 : decode cX8_areHeapsOf 138 = .ok (.iconst 0, 1) := by decide +kernel
theorem dX8_areHeapsOf_139 : decode cX8_areHeapsOf 139 = .ok (.ireturn, 1) := by decide +kernel
theorem dX8_areHeapsOf_140 : decode cX8_areHeapsOf 140 = .ok (.iconst 0, 1) := by decide +kernel
theorem dX8_areHeapsOf_141 : decode cX8_areHeapsOf 141 = .ok (.ireturn, 1) := by decide +kernel
theorem dX8_oneIf_0 : decode cX8_oneIf 0 = .ok (.iload_n 0, 1) := by decide +kernel
theorem dX8_oneIf_1 : decode cX8_oneIf 1 = .ok (.ifCond .eq 7, 3) := by decide +kernel
theorem dX8_oneIf_4 : decode cX8_oneIf 4 = .ok (.iconst 1, 1) := by decide +kernel
theorem dX8_oneIf_5 : decode cX8_oneIf 5 = .ok (.goto 4, 3) := by decide +kernel
theorem dX8_oneIf_8 : decode cX8_oneIf 8 = .ok (.iconst 0, 1) := by decide +kernel
theorem dX8_oneIf_9 : decode cX8_oneIf 9 = .ok (.ireturn, 1) := by decide +kernel
theorem dX9_init_0 : decode cX9_init 0 = .ok (.aload_n 0, 1) := by decide +kernel
theorem dX9_init_1 : decode cX9_init 1 = .ok (.invokespecial 1, 3) := by decide +kernel
theorem dX9_init_4 : decode cX9_init 4 = .ok (.aload_n 0, 1) := by decide +kernel
theorem dX9_init_5 : decode cX9_init 5 = .ok (.bipush 64, 2) := by decide +kernel
theorem dX9_init_7 : decode cX9_init 7 = .ok (.newarray .long, 2) := by decide +kernel
theorem dX9_init_9 : decode cX9_init 9 = .ok (.putfield 7, 3) := by decide +kernel
theorem dX9_init_12 : decode cX9_init 12 = .ok (.aload_n 0, 1) := by decide +kernel
theorem dX9_init_13 : decode cX9_init 13 = .ok (.sipush 500, 3) := by decide +kernel
theorem dX9_init_16 : decode cX9_init 16 = .ok (.newarray .long, 2) := by decide +kernel
theorem dX9_init_18 : decode cX9_init 18 = .ok (.putfield 13, 3) := by decide +kernel
theorem dX9_init_21 : decode cX9_init 21 = .ok (.aload_n 0, 1) := by decide +kernel
theorem dX9_init_22 : decode cX9_init 22 = .ok (.sipush 14884, 3) := by decide +kernel
theorem dX9_init_25 : decode cX9_init 25 = .ok (.newarray .boolean, 2) := by decide +kernel
theorem dX9_init_27 : decode cX9_init 27 = .ok (.putfield 16, 3) := by decide +kernel
theorem dX9_init_30 : decode cX9_init 30 = .ok (.aload_n 0, 1) := by decide +kernel
theorem dX9_init_31 : decode cX9_init 31 = .ok (.iconst 4, 1) := by decide +kernel
theorem dX9_init_32 : decode cX9_init 32 = .ok (.newarray .boolean, 2) := by decide +kernel
theorem dX9_init_34 : decode cX9_init 34 = .ok (.putfield 20, 3) := by decide +kernel
theorem dX9_init_37 : decode cX9_init 37 = .ok (.aload_n 0, 1) := by decide +kernel
theorem dX9_init_38 : decode cX9_init 38 = .ok (.sipush 2662, 3) := by decide +kernel
theorem dX9_init_41 : decode cX9_init 41 = .ok (.newarray .boolean, 2) := by decide +kernel
theorem dX9_init_43 : decode cX9_init 43 = .ok (.putfield 23, 3) := by decide +kernel
theorem dX9_init_46 : decode cX9_init 46 = .ok (.aload_n 0, 1) := by decide +kernel
theorem dX9_init_47 : decode cX9_init 47 = .ok (.iconst 2, 1) := by decide +kernel
theorem dX9_init_48 : decode cX9_init 48 = .ok (.newarray .boolean, 2) := by decide +kernel
theorem dX9_init_50 : decode cX9_init 50 = .ok (.putfield 26, 3) := by decide +kernel
theorem dX9_init_53 : decode cX9_init 53 = .ok (.aload_n 0, 1) := by decide +kernel
theorem dX9_init_54 : decode cX9_init 54 = .ok (.sipush 3721, 3) := by decide +kernel
theorem dX9_init_57 : decode cX9_init 57 = .ok (.newarray .boolean, 2) := by decide +kernel
theorem dX9_init_59 : decode cX9_init 59 = .ok (.putfield 29, 3) := by decide +kernel
theorem dX9_init_62 : decode cX9_init 62 = .ok (.aload_n 0, 1) := by decide +kernel
theorem dX9_init_63 : decode cX9_init 63 = .ok (.iconst 1, 1) := by decide +kernel
theorem dX9_init_64 : decode cX9_init 64 = .ok (.putfield 32, 3) := by decide +kernel
theorem dX9_init_67 : decode cX9_init 67 = .ok (.aload_n 0, 1) := by decide +kernel
theorem dX9_init_68 : decode cX9_init 68 = .ok (.sipush 603, 3) := by decide +kernel
theorem dX9_init_71 : decode cX9_init 71 = .ok (.newarray .long, 2) := by decide +kernel
theorem dX9_init_73 : decode cX9_init 73 = .ok (.putfield 36, 3) := by decide +kernel
theorem dX9_init_76 : decode cX9_init 76 = .ok (.aload_n 0, 1) := by decide +kernel
theorem dX9_init_77 : decode cX9_init 77 = .ok (.sipush 201, 3) := by decide +kernel
theorem dX9_init_80 : decode cX9_init 80 = .ok (.newarray .long, 2) := by decide +kernel
theorem dX9_init_82 : decode cX9_init 82 = .ok (.putfield 39, 3) := by decide +kernel
theorem dX9_init_85 : decode cX9_init 85 = .ok (.aload_n 0, 1) := by decide +kernel
theorem dX9_init_86 : decode cX9_init 86 = .ok (.sipush 201, 3) := by decide +kernel
theorem dX9_init_89 : decode cX9_init 89 = .ok (.newarray .int, 2) := by decide +kernel
theorem dX9_init_91 : decode cX9_init 91 = .ok (.putfield 42, 3) := by decide +kernel
theorem dX9_init_94 : decode cX9_init 94 = .ok (.aload_n 0, 1) := by decide +kernel
theorem dX9_init_95 : decode cX9_init 95 = .ok (.getfield 7, 3) := by decide +kernel
theorem dX9_init_98 : decode cX9_init 98 = .ok (.iconst 0, 1) := by decide +kernel
theorem dX9_init_99 : decode cX9_init 99 = .ok (.lconst 1, 1) := by decide +kernel
theorem dX9_init_100 : decode cX9_init 100 = .ok (.lastore, 1) := by decide +kernel
theorem dX9_init_101 : decode cX9_init 101 = .ok (.aload_n 0, 1) := by decide +kernel
theorem dX9_init_102 : decode cX9_init 102 = .ok (.getfield 7, 3) := by decide +kernel
theorem dX9_init_105 : decode cX9_init 105 = .ok (.iconst 1, 1) := by decide +kernel
theorem dX9_init_106 : decode cX9_init 106 = .ok (.ldc2_w 46, 3) := by decide +kernel
theorem dX9_init_109 : decode cX9_init 109 = .ok (.lastore, 1) := by decide +kernel
theorem dX9_init_110 : decode cX9_init 110 = .ok (.iconst 2, 1) := by decide +kernel
theorem dX9_init_111 : decode cX9_init 111 = .ok (.istore_n 1, 1) := by decide +kernel
theorem dX9_init_112 : decode cX9_init 112 = .ok (.iload_n 1, 1) := by decide +kernel
theorem dX9_init_113 : decode cX9_init 113 = .ok (.bipush 64, 2) := by decide +kernel
theorem dX9_init_115 : decode cX9_init 115 = .ok (.if_icmp .ge 32, 3) := by decide +kernel
theorem dX9_init_118 : decode cX9_init 118 = .ok (.aload_n 0, 1) := by decide +kernel
theorem dX9_init_119 : decode cX9_init 119 = .ok (.getfield 7, 3) := by decide +kernel
theorem dX9_init_122 : decode cX9_init 122 = .ok (.iload_n 1, 1) := by decide +kernel
theorem dX9_init_123 : decode cX9_init 123 = .ok (.aload_n 0, 1) := by decide +kernel
theorem dX9_init_124 : decode cX9_init 124 = .ok (.getfield 7, 3) := by decide +kernel
theorem dX9_init_127 : decode cX9_init 127 = .ok (.iload_n 1, 1) := by decide +kernel
theorem dX9_init_128 : decode cX9_init 128 = .ok (.iconst 1, 1) := by decide +kernel
theorem dX9_init_129 : decode cX9_init 129 = .ok (.isub, 1) := by decide +kernel
theorem dX9_init_130 : decode cX9_init 130 = .ok (.laload, 1) := by decide +kernel
theorem dX9_init_131 : decode cX9_init 131 = .ok (.aload_n 0, 1) := by decide +kernel
theorem dX9_init_132 : decode cX9_init 132 = .ok (.getfield 7, 3) := by decide +kernel
theorem dX9_init_135 : decode cX9_init 135 = .ok (.iload_n 1, 1) := by decide +kernel
theorem dX9_init_136 : decode cX9_init 136 = .ok (.iconst 2, 1) := by decide +kernel
theorem dX9_init_137 : decode cX9_init 137 = .ok (.isub, 1) := by decide +kernel
theorem dX9_init_138 : decode cX9_init 138 = .ok (.laload, 1) := by decide +kernel
theorem dX9_init_139 : decode cX9_init 139 = .ok (.ladd, 1) := by decide +kernel
theorem dX9_init_140 : decode cX9_init 140 = .ok (.lastore, 1) := by decide +kernel
theorem dX9_init_141 : decode cX9_init 141 = .ok (.iinc 1 1, 3) := by decide +kernel
theorem dX9_init_144 : decode cX9_init 144 = .ok (.goto (-32), 3) := by decide +kernel
theorem dX9_init_147 : decode cX9_init 147 = .ok (.return_, 1) := by decide +kernel
theorem dX9_in_0 : decode cX9_in 0 = .ok (.lload_n 0, 1) := by decide +kernel
theorem dX9_in_1 : decode cX9_in 1 = .ok (.lload_n 2, 1) := by decide +kernel
theorem dX9_in_2 : decode cX9_in 2 = .ok (.lcmp, 1) := by decide +kernel
theorem dX9_in_3 : decode cX9_in 3 = .ok (.ifCond .lt 14, 3) := by decide +kernel
theorem dX9_in_6 : decode cX9_in 6 = .ok (.lload_n 0, 1) := by decide +kernel
theorem dX9_in_7 : decode cX9_in 7 = .ok (.lload 4, 2) := by decide +kernel
theorem dX9_in_9 : decode cX9_in 9 = .ok (.lcmp, 1) := by decide +kernel
theorem dX9_in_10 : decode cX9_in 10 = .ok (.ifCond .gt 7, 3) := by decide +kernel
theorem dX9_in_13 : decode cX9_in 13 = .ok (.iconst 1, 1) := by decide +kernel
theorem dX9_in_14 : decode cX9_in 14 = .ok (.goto 4, 3) := by decide +kernel
theorem dX9_in_17 : decode cX9_in 17 = .ok (.iconst 0, 1) := by decide +kernel
theorem dX9_in_18 : decode cX9_in 18 = .ok (.ireturn, 1) := by decide +kernel
set_option maxRecDepth 20000 in
theorem ggX9_isHeap_X9_in : GoodIn wsX9_isHeap wsX9_in := goodIn_r _ [5] (by decide +kernel) (by decide +kernel)
set_option maxRecDepth 20000 in
theorem gX9_isHeap_X9_in : GoodIn wsX9_isHeap (va_wsS RX9 50 yX9_in wsX9_in) := goodIn_app (goodIn_of _ (by decide +kernel)) ggX9_isHeap_X9_in
theorem dX9_isHeap_0 : decode cX9_isHeap 0 = .ok (.lload_n 0, 1) := by decide +kernel
theorem dX9_isHeap_1 : decode cX9_isHeap 1 = .ok (.lconst 0, 1) := by decide +kernel
theorem dX9_isHeap_2 : decode cX9_isHeap 2 = .ok (.ldc2_w 48, 3) := by decide +kernel
theorem dX9_isHeap_5 : decode cX9_isHeap 5 = .ok (.invokestatic 50, 3) := by decide +kernel
theorem dX9_isHeap_8 : decode cX9_isHeap 8 = .ok (.ireturn, 1) := by decide +kernel
theorem dX9_isShares_0 : decode cX9_isShares 0 = .ok (.lload_n 0, 1) := by decide +kernel
theorem dX9_isShares_1 : decode cX9_isShares 1 = .ok (.lload_n 2, 1) := by decide +kernel
theorem dX9_isShares_2 : decode cX9_isShares 2 = .ok (.lcmp, 1) := by decide +kernel
theorem dX9_isShares_3 : decode cX9_isShares 3 = .ok (.ifCond .le 7, 3) := by decide +kernel
theorem dX9_isShares_6 : decode cX9_isShares 6 = .ok (.lload_n 0, 1) := by decide +kernel
theorem dX9_isShares_7 : decode cX9_isShares 7 = .ok (.goto 4, 3) := by decide +kernel
theorem dX9_isShares_10 : decode cX9_isShares 10 = .ok (.lload_n 2, 1) := by decide +kernel
theorem dX9_isShares_11 : decode cX9_isShares 11 = .ok (.lstore 4, 2) := by decide +kernel
theorem dX9_isShares_13 : decode cX9_isShares 13 = .ok (.lload_n 0, 1) := by decide +kernel
theorem dX9_isShares_14 : decode cX9_isShares 14 = .ok (.lload_n 2, 1) := by decide +kernel
theorem dX9_isShares_15 : decode cX9_isShares 15 = .ok (.lcmp, 1) := by decide +kernel
theorem dX9_isShares_16 : decode cX9_isShares 16 = .ok (.ifCond .le 7, 3) := by decide +kernel
theorem dX9_isShares_19 : decode cX9_isShares 19 = .ok (.lload_n 2, 1) := by decide +kernel
theorem dX9_isShares_20 : decode cX9_isShares 20 = .ok (.goto 4, 3) := by decide +kernel
theorem dX9_isShares_23 : decode cX9_isShares 23 = .ok (.lload_n 0, 1) := by decide +kernel
theorem dX9_isShares_24 : decode cX9_isShares 24 = .ok (.lstore 6, 2) := by decide +kernel
theorem dX9_isShares_26 : decode cX9_isShares 26 = .ok (.iconst 0, 1) := by decide +kernel
theorem dX9_isShares_27 : decode cX9_isShares 27 = .ok (.istore 8, 2) := by decide +kernel
theorem dX9_isShares_29 : decode cX9_isShares 29 = .ok (.lload 6, 2) := by decide +kernel
theorem dX9_isShares_31 : decode cX9_isShares 31 = .ok (.lconst 0, 1) := by decide +kernel
theorem dX9_isShares_32 : decode cX9_isShares 32 = .ok (.lcmp, 1) := by decide +kernel
theorem dX9_isShares_33 : decode cX9_isShares 33 = .ok (.ifCond .eq 64, 3) := by decide +kernel
theorem dX9_isShares_36 : decode cX9_isShares 36 = .ok (.lload 4, 2) := by decide +kernel
theorem dX9_isShares_38 : decode cX9_isShares 38 = .ok (.lload 6, 2) := by decide +kernel
theorem dX9_isShares_40 : decode cX9_isShares 40 = .ok (.lcmp, 1) := by decide +kernel
theorem dX9_isShares_41 : decode cX9_isShares 41 = .ok (.ifCond .eq 15, 3) := by decide +kernel
theorem dX9_isShares_44 : decode cX9_isShares 44 = .ok (.lload 4, 2) := by decide +kernel
theorem dX9_isShares_46 : decode cX9_isShares 46 = .ok (.ldc2_w 46, 3) := by decide +kernel
theorem dX9_isShares_49 : decode cX9_isShares 49 = .ok (.lload 6, 2) := by decide +kernel
theorem dX9_isShares_51 : decode cX9_isShares 51 = .ok (.lmul, 1) := by decide +kernel
theorem dX9_isShares_52 : decode cX9_isShares 52 = .ok (.lcmp, 1) := by decide +kernel
theorem dX9_isShares_53 : decode cX9_isShares 53 = .ok (.ifCond .lt 14, 3) := by decide +kernel
theorem dX9_isShares_56 : decode cX9_isShares 56 = .ok (.iload 8, 2) := by decide +kernel
theorem dX9_isShares_58 : decode cX9_isShares 58 = .ok (.ifCond .ne 7, 3) := by decide +kernel
theorem dX9_isShares_61 : decode cX9_isShares 61 = .ok (.iconst 1, 1) := by decide +kernel
theorem dX9_isShares_62 : decode cX9_isShares 62 = .ok (.goto 4, 3) := by decide +kernel
theorem dX9_isShares_65 : decode cX9_isShares 65 = .ok (.iconst 0, 1) := by decide +kernel
theorem dX9_isShares_66 : decode cX9_isShares 66 = .ok (.ireturn, 1) := by decide +kernel
theorem dX9_isShares_67 : decode cX9_isShares 67 = .ok (.lload 4, 2) := by decide +kernel
theorem dX9_isShares_69 : decode cX9_isShares 69 = .ok (.lload 6, 2) := by decide +kernel
theorem dX9_isShares_71 : decode cX9_isShares 71 = .ok (.lsub, 1) := by decide +kernel
theorem dX9_isShares_72 : decode cX9_isShares 72 = .ok (.lstore 9, 2) := by decide +kernel
theorem dX9_isShares_74 : decode cX9_isShares 74 = .ok (.lload 6, 2) := by decide +kernel
theorem dX9_isShares_76 : decode cX9_isShares 76 = .ok (.lstore 4, 2) := by decide +kernel
theorem dX9_isShares_78 : decode cX9_isShares 78 = .ok (.lload 9, 2) := by decide +kernel
theorem dX9_isShares_80 : decode cX9_isShares 80 = .ok (.lstore 6, 2) := by decide +kernel
theorem dX9_isShares_82 : decode cX9_isShares 82 = .ok (.iload 8, 2) := by decide +kernel
theorem dX9_isShares_84 : decode cX9_isShares 84 = .ok (.ifCond .ne 7, 3) := by decide +kernel
theorem dX9_isShares_87 : decode cX9_isShares 87 = .ok (.iconst 1, 1) := by decide +kernel
theorem dX9_isShares_88 : decode cX9_isShares 88 = .ok (.goto 4, 3) := by decide +kernel
theorem dX9_isShares_91 : decode cX9_isShares 91 = .ok (.iconst 0, 1) := by decide +kernel
theorem dX9_isShares_92 : decode cX9_isShares 92 = .ok (.istore 8, 2) := by decide +kernel
theorem dX9_isShares_94 : decode cX9_isShares 94 = .ok (.goto (-65), 3) := by decide +kernel
theorem dX9_isShares_97 : decode cX9_isShares 97 = .ok (.iload 8, 2) := by decide +kernel
theorem dX9_isShares_99 : decode cX9_isShares 99 = .ok (.ireturn, 1) := by decide +kernel
set_option maxRecDepth 20000 in
theorem ggX9_shares_X9_isHeap : GoodIn wsX9_shares wsX9_isHeap := goodIn_r _ [4, 5, 6, 7, 3, 8] (by decide +kernel) (by decide +kernel)
set_option maxRecDepth 20000 in
theorem gX9_shares_X9_isHeap : GoodIn wsX9_shares (va_wsS RX9 54 yX9_isHeap wsX9_isHeap) := goodIn_app (goodIn_of _ (by decide +kernel)) ggX9_shares_X9_isHeap
set_option maxRecDepth 20000 in
theorem ggX9_shares_X9_isShares : GoodIn wsX9_shares wsX9_isShares := goodIn_r _ [11, 12] (by decide +kernel) (by decide +kernel)
set_option maxRecDepth 20000 in
theorem gX9_shares_X9_isShares : GoodIn wsX9_shares (va_wsS RX9 58 yX9_isShares wsX9_isShares) := goodIn_app (goodIn_of _ (by decide +kernel)) ggX9_shares_X9_isShares
theorem dX9_shares_0 : decode cX9_shares 0 = .ok (.lload_n 1, 1) := by decide +kernel
theorem dX9_shares_1 : decode cX9_shares 1 = .ok (.invokestatic 54, 3) := by decide +kernel
theorem dX9_shares_4 : decode cX9_shares 4 = .ok (.ifCond .eq 10, 3) := by decide +kernel
theorem dX9_shares_7 : decode cX9_shares 7 = .ok (.lload_n 3, 1) := by decide +kernel
theorem dX9_shares_8 : decode cX9_shares 8 = .ok (.invokestatic 54, 3) := by decide +kernel
theorem dX9_shares_11 : decode cX9_shares 11 = .ok (.ifCond .ne 8, 3) := by decide +kernel
theorem dX9_shares_14 : decode cX9_shares 14 = .ok (.bipush (-2), 2) := by decide +kernel
theorem dX9_shares_16 : decode cX9_shares 16 = .ok (.goto 16, 3) := by decide +kernel
theorem dX9_shares_19 : decode cX9_shares 19 = .ok (.lload_n 1, 1) := by decide +kernel
theorem dX9_shares_20 : decode cX9_shares 20 = .ok (.lload_n 3, 1) := by decide +kernel
theorem dX9_shares_21 : decode cX9_shares 21 = .ok (.invokestatic 58, 3) := by decide +kernel
theorem dX9_shares_24 : decode cX9_shares 24 = .ok (.ifCond .eq 7, 3) := by decide +kernel
theorem dX9_shares_27 : decode cX9_shares 27 = .ok (.iconst 1, 1) := by decide +kernel
theorem dX9_shares_28 : decode cX9_shares 28 = .ok (.goto 4, 3) := by decide +kernel
theorem dX9_shares_31 : decode cX9_shares 31 = .ok (.iconst 0, 1) := by decide +kernel
theorem dX9_shares_32 : decode cX9_shares 32 = .ok (.ireturn, 1) := by decide +kernel
set_option maxRecDepth 20000 in
theorem ggX9_sharesMove_X9_isHeap : GoodIn wsX9_sharesMove wsX9_isHeap := goodIn_r _ [5, 6, 7, 8, 4, 9] (by decide +kernel) (by decide +kernel)
set_option maxRecDepth 20000 in
theorem gX9_sharesMove_X9_isHeap : GoodIn wsX9_sharesMove (va_wsS RX9 54 yX9_isHeap wsX9_isHeap) := goodIn_app (goodIn_of _ (by decide +kernel)) ggX9_sharesMove_X9_isHeap
set_option maxRecDepth 20000 in
theorem ggX9_sharesMove_X9_isShares : GoodIn wsX9_sharesMove wsX9_isShares := goodIn_r _ [12, 13] (by decide +kernel) (by decide +kernel)
set_option maxRecDepth 20000 in
theorem gX9_sharesMove_X9_isShares : GoodIn wsX9_sharesMove (va_wsS RX9 58 yX9_isShares wsX9_isShares) := goodIn_app (goodIn_of _ (by decide +kernel)) ggX9_sharesMove_X9_isShares
theorem dX9_sharesMove_0 : decode cX9_sharesMove 0 = .ok (.lload_n 1, 1) := by decide +kernel
theorem dX9_sharesMove_1 : decode cX9_sharesMove 1 = .ok (.invokestatic 54, 3) := by decide +kernel
theorem dX9_sharesMove_4 : decode cX9_sharesMove 4 = .ok (.ifCond .eq 10, 3) := by decide +kernel
theorem dX9_sharesMove_7 : decode cX9_sharesMove 7 = .ok (.lload_n 3, 1) := by decide +kernel
theorem dX9_sharesMove_8 : decode cX9_sharesMove 8 = .ok (.invokestatic 54, 3) := by decide +kernel
theorem dX9_sharesMove_11 : decode cX9_sharesMove 11 = .ok (.ifCond .ne 7, 3) := by decide +kernel
theorem dX9_sharesMove_14 : decode cX9_sharesMove 14 = .ok (.ldc2_w 62, 3) := by decide +kernel
theorem dX9_sharesMove_17 : decode cX9_sharesMove 17 = .ok (.lreturn, 1) := by decide +kernel
theorem dX9_sharesMove_18 : decode cX9_sharesMove 18 = .ok (.lload_n 1, 1) := by decide +kernel
theorem dX9_sharesMove_19 : decode cX9_sharesMove 19 = .ok (.lload_n 3, 1) := by decide +kernel
theorem dX9_sharesMove_20 : decode cX9_sharesMove 20 = .ok (.lcmp, 1) := by decide +kernel
theorem dX9_sharesMove_21 : decode cX9_sharesMove 21 = .ok (.ifCond .le 7, 3) := by decide +kernel
theorem dX9_sharesMove_24 : decode cX9_sharesMove 24 = .ok (.lload_n 1, 1) := by decide +kernel
theorem dX9_sharesMove_25 : decode cX9_sharesMove 25 = .ok (.goto 4, 3) := by decide +kernel
theorem dX9_sharesMove_28 : decode cX9_sharesMove 28 = .ok (.lload_n 3, 1) := by decide +kernel
theorem dX9_sharesMove_29 : decode cX9_sharesMove 29 = .ok (.lstore 5, 2) := by decide +kernel
theorem dX9_sharesMove_31 : decode cX9_sharesMove 31 = .ok (.lload_n 1, 1) := by decide +kernel
theorem dX9_sharesMove_32 : decode cX9_sharesMove 32 = .ok (.lload_n 3, 1) := by decide +kernel
theorem dX9_sharesMove_33 : decode cX9_sharesMove 33 = .ok (.lcmp, 1) := by decide +kernel
theorem dX9_sharesMove_34 : decode cX9_sharesMove 34 = .ok (.ifCond .le 7, 3) := by decide +kernel
theorem dX9_sharesMove_37 : decode cX9_sharesMove 37 = .ok (.lload_n 3, 1) := by decide +kernel
theorem dX9_sharesMove_38 : decode cX9_sharesMove 38 = .ok (.goto 4, 3) := by decide +kernel
theorem dX9_sharesMove_41 : decode cX9_sharesMove 41 = .ok (.lload_n 1, 1) := by decide +kernel
theorem dX9_sharesMove_42 : decode cX9_sharesMove 42 = .ok (.lstore 7, 2) := by decide +kernel
theorem dX9_sharesMove_44 : decode cX9_sharesMove 44 = .ok (.lload 5, 2) := by decide +kernel
theorem dX9_sharesMove_46 : decode cX9_sharesMove 46 = .ok (.lload 7, 2) := by decide +kernel
theorem dX9_sharesMove_48 : decode cX9_sharesMove 48 = .ok (.invokestatic 58, 3) := by decide +kernel
theorem dX9_sharesMove_51 : decode cX9_sharesMove 51 = .ok (.ifCond .ne 5, 3) := by decide +kernel
theorem dX9_sharesMove_54 : decode cX9_sharesMove 54 = .ok (.lconst 0, 1) := by decide +kernel
theorem dX9_sharesMove_55 : decode cX9_sharesMove 55 = .ok (.lreturn, 1) := by decide +kernel
theorem dX9_sharesMove_56 : decode cX9_sharesMove 56 = .ok (.lload 5, 2) := by decide +kernel
theorem dX9_sharesMove_58 : decode cX9_sharesMove 58 = .ok (.lload 7, 2) := by decide +kernel
theorem dX9_sharesMove_60 : decode cX9_sharesMove 60 = .ok (.ldiv, 1) := by decide +kernel
theorem dX9_sharesMove_61 : decode cX9_sharesMove 61 = .ok (.lstore 9, 2) := by decide +kernel
theorem dX9_sharesMove_63 : decode cX9_sharesMove 63 = .ok (.lload 9, 2) := by decide +kernel
theorem dX9_sharesMove_65 : decode cX9_sharesMove 65 = .ok (.lconst 1, 1) := by decide +kernel
theorem dX9_sharesMove_66 : decode cX9_sharesMove 66 = .ok (.lcmp, 1) := by decide +kernel
theorem dX9_sharesMove_67 : decode cX9_sharesMove 67 = .ok (.ifCond .le 28, 3) := by decide +kernel
theorem dX9_sharesMove_70 : decode cX9_sharesMove 70 = .ok (.lload 5, 2) := by decide +kernel
theorem dX9_sharesMove_72 : decode cX9_sharesMove 72 = .ok (.lload 9, 2) := by decide +kernel
theorem dX9_sharesMove_74 : decode cX9_sharesMove 74 = .ok (.lconst 1, 1) := by decide +kernel
theorem dX9_sharesMove_75 : decode cX9_sharesMove 75 = .ok (.lsub, 1) := by decide +kernel
theorem dX9_sharesMove_76 : decode cX9_sharesMove 76 = .ok (.lload 7, 2) := by decide +kernel
theorem dX9_sharesMove_78 : decode cX9_sharesMove 78 = .ok (.lmul, 1) := by decide +kernel
theorem dX9_sharesMove_79 : decode cX9_sharesMove 79 = .ok (.lsub, 1) := by decide +kernel
theorem dX9_sharesMove_80 : decode cX9_sharesMove 80 = .ok (.lload 7, 2) := by decide +kernel
theorem dX9_sharesMove_82 : decode cX9_sharesMove 82 = .ok (.invokestatic 58, 3) := by decide +kernel
theorem dX9_sharesMove_85 : decode cX9_sharesMove 85 = .ok (.ifCond .ne 10, 3) := by decide +kernel
theorem dX9_sharesMove_88 : decode cX9_sharesMove 88 = .ok (.lload 9, 2) := by decide +kernel
theorem dX9_sharesMove_90 : decode cX9_sharesMove 90 = .ok (.lconst 1, 1) := by decide +kernel
theorem dX9_sharesMove_91 : decode cX9_sharesMove 91 = .ok (.lsub, 1) := by decide +kernel
theorem dX9_sharesMove_92 : decode cX9_sharesMove 92 = .ok (.goto 5, 3) := by decide +kernel
theorem dX9_sharesMove_95 : decode cX9_sharesMove 95 = .ok (.lload 9, 2) := by decide +kernel
theorem dX9_sharesMove_97 : decode cX9_sharesMove 97 = .ok (.lreturn, 1) := by decide +kernel
theorem dX9_lesser_0 : decode cX9_lesser 0 = .ok (.lload_n 1, 1) := by decide +kernel
theorem dX9_lesser_1 : decode cX9_lesser 1 = .ok (.lconst 0, 1) := by decide +kernel
theorem dX9_lesser_2 : decode cX9_lesser 2 = .ok (.lcmp, 1) := by decide +kernel
theorem dX9_lesser_3 : decode cX9_lesser 3 = .ok (.ifCond .ne 5, 3) := by decide +kernel
theorem dX9_lesser_6 : decode cX9_lesser 6 = .ok (.lconst 0, 1) := by decide +kernel
theorem dX9_lesser_7 : decode cX9_lesser 7 = .ok (.lreturn, 1) := by decide +kernel
theorem dX9_lesser_8 : decode cX9_lesser 8 = .ok (.lload_n 1, 1) := by decide +kernel
theorem dX9_lesser_9 : decode cX9_lesser 9 = .ok (.lconst 1, 1) := by decide +kernel
theorem dX9_lesser_10 : decode cX9_lesser 10 = .ok (.lsub, 1) := by decide +kernel
theorem dX9_lesser_11 : decode cX9_lesser 11 = .ok (.lstore_n 3, 1) := by decide +kernel
theorem dX9_lesser_12 : decode cX9_lesser 12 = .ok (.lconst 1, 1) := by decide +kernel
theorem dX9_lesser_13 : decode cX9_lesser 13 = .ok (.lstore 5, 2) := by decide +kernel
theorem dX9_lesser_15 : decode cX9_lesser 15 = .ok (.bipush 62, 2) := by decide +kernel
theorem dX9_lesser_17 : decode cX9_lesser 17 = .ok (.istore 7, 2) := by decide +kernel
theorem dX9_lesser_19 : decode cX9_lesser 19 = .ok (.iload 7, 2) := by decide +kernel
theorem dX9_lesser_21 : decode cX9_lesser 21 = .ok (.ifCond .lt 45, 3) := by decide +kernel
theorem dX9_lesser_24 : decode cX9_lesser 24 = .ok (.aload_n 0, 1) := by decide +kernel
theorem dX9_lesser_25 : decode cX9_lesser 25 = .ok (.getfield 7, 3) := by decide +kernel
theorem dX9_lesser_28 : decode cX9_lesser 28 = .ok (.iload 7, 2) := by decide +kernel
theorem dX9_lesser_30 : decode cX9_lesser 30 = .ok (.laload, 1) := by decide +kernel
theorem dX9_lesser_31 : decode cX9_lesser 31 = .ok (.lload_n 3, 1) := by decide +kernel
theorem dX9_lesser_32 : decode cX9_lesser 32 = .ok (.lcmp, 1) := by decide +kernel
theorem dX9_lesser_33 : decode cX9_lesser 33 = .ok (.ifCond .gt 27, 3) := by decide +kernel
theorem dX9_lesser_36 : decode cX9_lesser 36 = .ok (.lload_n 3, 1) := by decide +kernel
theorem dX9_lesser_37 : decode cX9_lesser 37 = .ok (.aload_n 0, 1) := by decide +kernel
theorem dX9_lesser_38 : decode cX9_lesser 38 = .ok (.getfield 7, 3) := by decide +kernel
theorem dX9_lesser_41 : decode cX9_lesser 41 = .ok (.iload 7, 2) := by decide +kernel
theorem dX9_lesser_43 : decode cX9_lesser 43 = .ok (.laload, 1) := by decide +kernel
theorem dX9_lesser_44 : decode cX9_lesser 44 = .ok (.lsub, 1) := by decide +kernel
theorem dX9_lesser_45 : decode cX9_lesser 45 = .ok (.lstore_n 3, 1) := by decide +kernel
theorem dX9_lesser_46 : decode cX9_lesser 46 = .ok (.lload 5, 2) := by decide +kernel
theorem dX9_lesser_48 : decode cX9_lesser 48 = .ok (.aload_n 0, 1) := by decide +kernel
theorem dX9_lesser_49 : decode cX9_lesser 49 = .ok (.getfield 7, 3) := by decide +kernel
theorem dX9_lesser_52 : decode cX9_lesser 52 = .ok (.iload 7, 2) := by decide +kernel
theorem dX9_lesser_54 : decode cX9_lesser 54 = .ok (.iconst 1, 1) := by decide +kernel
theorem dX9_lesser_55 : decode cX9_lesser 55 = .ok (.iadd, 1) := by decide +kernel
theorem dX9_lesser_56 : decode cX9_lesser 56 = .ok (.laload, 1) := by decide +kernel
theorem dX9_lesser_57 : decode cX9_lesser 57 = .ok (.ladd, 1) := by decide +kernel
theorem dX9_lesser_58 : decode cX9_lesser 58 = .ok (.lstore 5, 2) := by decide +kernel
theorem dX9_lesser_60 : decode cX9_lesser 60 = .ok (.iinc 7 (-1), 3) := by decide +kernel
theorem dX9_lesser_63 : decode cX9_lesser 63 = .ok (.goto (-44), 3) := by decide +kernel
theorem dX9_lesser_66 : decode cX9_lesser 66 = .ok (.lload 5, 2) := by decide +kernel
theorem dX9_lesser_68 : decode cX9_lesser 68 = .ok (.lreturn, 1) := by decide +kernel
set_option maxRecDepth 20000 in
theorem ggX9_isBoth_X9_lesser : GoodIn wsX9_isBoth wsX9_lesser := goodIn_r _ [5, 6, 7, 8, 9, 10, 11, 12, 13, 14, 15, 16, 17, 18, 19, 20, 21, 22, 23, 24] (by decide +kernel) (by decide +kernel)
set_option maxRecDepth 20000 in
theorem gX9_isBoth_X9_lesser : GoodIn wsX9_isBoth (wsV RX9 64 RX9 yX9_lesser wsX9_lesser) := goodIn_app (goodIn_of _ (by decide +kernel)) ggX9_isBoth_X9_lesser
theorem dX9_isBoth_0 : decode cX9_isBoth 0 = .ok (.lload_n 1, 1) := by decide +kernel
theorem dX9_isBoth_1 : decode cX9_isBoth 1 = .ok (.lload_n 3, 1) := by decide +kernel
theorem dX9_isBoth_2 : decode cX9_isBoth 2 = .ok (.lcmp, 1) := by decide +kernel
theorem dX9_isBoth_3 : decode cX9_isBoth 3 = .ok (.ifCond .ge 23, 3) := by decide +kernel
theorem dX9_isBoth_6 : decode cX9_isBoth 6 = .ok (.lload_n 1, 1) := by decide +kernel
theorem dX9_isBoth_7 : decode cX9_isBoth 7 = .ok (.aload_n 0, 1) := by decide +kernel
theorem dX9_isBoth_8 : decode cX9_isBoth 8 = .ok (.lload_n 3, 1) := by decide +kernel
theorem dX9_isBoth_9 : decode cX9_isBoth 9 = .ok (.lload_n 1, 1) := by decide +kernel
theorem dX9_isBoth_10 : decode cX9_isBoth 10 = .ok (.lsub, 1) := by decide +kernel
theorem dX9_isBoth_11 : decode cX9_isBoth 11 = .ok (.invokevirtual 64, 3) := by decide +kernel
theorem dX9_isBoth_14 : decode cX9_isBoth 14 = .ok (.lcmp, 1) := by decide +kernel
theorem dX9_isBoth_15 : decode cX9_isBoth 15 = .ok (.ifCond .eq 7, 3) := by decide +kernel
theorem dX9_isBoth_18 : decode cX9_isBoth 18 = .ok (.iconst 1, 1) := by decide +kernel
theorem dX9_isBoth_19 : decode cX9_isBoth 19 = .ok (.goto 24, 3) := by decide +kernel
theorem dX9_isBoth_22 : decode cX9_isBoth 22 = .ok (.iconst 0, 1) := by decide +kernel
theorem dX9_isBoth_23 : decode cX9_isBoth 23 = .ok (.goto 20, 3) := by decide +kernel
theorem dX9_isBoth_26 : decode cX9_isBoth 26 = .ok (.lload_n 3, 1) := by decide +kernel
theorem dX9_isBoth_27 : decode cX9_isBoth 27 = .ok (.aload_n 0, 1) := by decide +kernel
theorem dX9_isBoth_28 : decode cX9_isBoth 28 = .ok (.lload_n 1, 1) := by decide +kernel
theorem dX9_isBoth_29 : decode cX9_isBoth 29 = .ok (.lload_n 3, 1) := by decide +kernel
theorem dX9_isBoth_30 : decode cX9_isBoth 30 = .ok (.lsub, 1) := by decide +kernel
theorem dX9_isBoth_31 : decode cX9_isBoth 31 = .ok (.invokevirtual 64, 3) := by decide +kernel
theorem dX9_isBoth_34 : decode cX9_isBoth 34 = .ok (.lcmp, 1) := by decide +kernel
theorem dX9_isBoth_35 : decode cX9_isBoth 35 = .ok (.ifCond .eq 7, 3) := by decide +kernel
theorem dX9_isBoth_38 : decode cX9_isBoth 38 = .ok (.iconst 1, 1) := by decide +kernel
theorem dX9_isBoth_39 : decode cX9_isBoth 39 = .ok (.goto 4, 3) := by decide +kernel
theorem dX9_isBoth_42 : decode cX9_isBoth 42 = .ok (.iconst 0, 1) := by decide +kernel
theorem dX9_isBoth_43 : decode cX9_isBoth 43 = .ok (.ireturn, 1) := by decide +kernel
set_option maxRecDepth 20000 in
theorem ggX9_both_X9_isHeap : GoodIn wsX9_both wsX9_isHeap := goodIn_r _ [4, 5, 6, 7, 3, 8] (by decide +kernel) (by decide +kernel)
set_option maxRecDepth 20000 in
theorem gX9_both_X9_isHeap : GoodIn wsX9_both (va_wsS RX9 54 yX9_isHeap wsX9_isHeap) := goodIn_app (goodIn_of _ (by decide +kernel)) ggX9_both_X9_isHeap
set_option maxRecDepth 20000 in
theorem ggX9_both_X9_isBoth : GoodIn wsX9_both wsX9_isBoth := goodIn_r _ [12, 13, 14, 15, 3, 16, 17, 18, 19, 20, 21, 22, 23, 24, 25, 26, 27, 28, 29, 30, 31, 32, 33, 34, 35] (by decide +kernel) (by decide +kernel)
set_option maxRecDepth 20000 in
theorem gX9_both_X9_isBoth : GoodIn wsX9_both (wsV RX9 68 RX9 yX9_isBoth wsX9_isBoth) := goodIn_app (goodIn_of _ (by decide +kernel)) ggX9_both_X9_isBoth
theorem dX9_both_0 : decode cX9_both 0 = .ok (.lload_n 1, 1) := by decide +kernel
theorem dX9_both_1 : decode cX9_both 1 = .ok (.invokestatic 54, 3) := by decide +kernel
theorem dX9_both_4 : decode cX9_both 4 = .ok (.ifCond .eq 10, 3) := by decide +kernel
theorem dX9_both_7 : decode cX9_both 7 = .ok (.lload_n 3, 1) := by decide +kernel
theorem dX9_both_8 : decode cX9_both 8 = .ok (.invokestatic 54, 3) := by decide +kernel
theorem dX9_both_11 : decode cX9_both 11 = .ok (.ifCond .ne 8, 3) := by decide +kernel
theorem dX9_both_14 : decode cX9_both 14 = .ok (.bipush (-2), 2) := by decide +kernel
theorem dX9_both_16 : decode cX9_both 16 = .ok (.goto 17, 3) := by decide +kernel
theorem dX9_both_19 : decode cX9_both 19 = .ok (.aload_n 0, 1) := by decide +kernel
theorem dX9_both_20 : decode cX9_both 20 = .ok (.lload_n 1, 1) := by decide +kernel
theorem dX9_both_21 : decode cX9_both 21 = .ok (.lload_n 3, 1) := by decide +kernel
theorem dX9_both_22 : decode cX9_both 22 = .ok (.invokevirtual 68, 3) := by decide +kernel
theorem dX9_both_25 : decode cX9_both 25 = .ok (.ifCond .eq 7, 3) := by decide +kernel
theorem dX9_both_28 : decode cX9_both 28 = .ok (.iconst 1, 1) := by decide +kernel
theorem dX9_both_29 : decode cX9_both 29 = .ok (.goto 4, 3) := by decide +kernel
theorem dX9_both_32 : decode cX9_both 32 = .ok (.iconst 0, 1) := by decide +kernel
theorem dX9_both_33 : decode cX9_both 33 = .ok (.ireturn, 1) := by decide +kernel
set_option maxRecDepth 20000 in
theorem ggX9_find_X9_lesser : GoodIn wsX9_find wsX9_lesser := goodIn_r _ [8, 9, 10, 11, 12, 13, 14, 15, 16, 17, 18, 19, 20, 21, 22, 23, 24, 25, 26, 27] (by decide +kernel) (by decide +kernel)
set_option maxRecDepth 20000 in
theorem gX9_find_X9_lesser : GoodIn wsX9_find (wsV RX9 64 RX9 yX9_lesser wsX9_lesser) := goodIn_app (goodIn_of _ (by decide +kernel)) ggX9_find_X9_lesser
theorem dX9_find_0 : decode cX9_find 0 = .ok (.lconst 0, 1) := by decide +kernel
theorem dX9_find_1 : decode cX9_find 1 = .ok (.lstore_n 3, 1) := by decide +kernel
theorem dX9_find_2 : decode cX9_find 2 = .ok (.lload_n 1, 1) := by decide +kernel
theorem dX9_find_3 : decode cX9_find 3 = .ok (.lstore 5, 2) := by decide +kernel
theorem dX9_find_5 : decode cX9_find 5 = .ok (.lload_n 3, 1) := by decide +kernel
theorem dX9_find_6 : decode cX9_find 6 = .ok (.lload 5, 2) := by decide +kernel
theorem dX9_find_8 : decode cX9_find 8 = .ok (.lcmp, 1) := by decide +kernel
theorem dX9_find_9 : decode cX9_find 9 = .ok (.ifCond .ge 41, 3) := by decide +kernel
theorem dX9_find_12 : decode cX9_find 12 = .ok (.lload_n 3, 1) := by decide +kernel
theorem dX9_find_13 : decode cX9_find 13 = .ok (.lload 5, 2) := by decide +kernel
theorem dX9_find_15 : decode cX9_find 15 = .ok (.lload_n 3, 1) := by decide +kernel
theorem dX9_find_16 : decode cX9_find 16 = .ok (.lsub, 1) := by decide +kernel
theorem dX9_find_17 : decode cX9_find 17 = .ok (.ldc2_w 46, 3) := by decide +kernel
theorem dX9_find_20 : decode cX9_find 20 = .ok (.ldiv, 1) := by decide +kernel
theorem dX9_find_21 : decode cX9_find 21 = .ok (.ladd, 1) := by decide +kernel
theorem dX9_find_22 : decode cX9_find 22 = .ok (.lstore 7, 2) := by decide +kernel
theorem dX9_find_24 : decode cX9_find 24 = .ok (.aload_n 0, 1) := by decide +kernel
theorem dX9_find_25 : decode cX9_find 25 = .ok (.lload 7, 2) := by decide +kernel
theorem dX9_find_27 : decode cX9_find 27 = .ok (.invokevirtual 64, 3) := by decide +kernel
theorem dX9_find_30 : decode cX9_find 30 = .ok (.lload_n 1, 1) := by decide +kernel
theorem dX9_find_31 : decode cX9_find 31 = .ok (.lcmp, 1) := by decide +kernel
theorem dX9_find_32 : decode cX9_find 32 = .ok (.ifCond .ge 11, 3) := by decide +kernel
theorem dX9_find_35 : decode cX9_find 35 = .ok (.lload 7, 2) := by decide +kernel
theorem dX9_find_37 : decode cX9_find 37 = .ok (.lconst 1, 1) := by decide +kernel
theorem dX9_find_38 : decode cX9_find 38 = .ok (.ladd, 1) := by decide +kernel
theorem dX9_find_39 : decode cX9_find 39 = .ok (.lstore_n 3, 1) := by decide +kernel
theorem dX9_find_40 : decode cX9_find 40 = .ok (.goto 7, 3) := by decide +kernel
theorem dX9_find_43 : decode cX9_find 43 = .ok (.lload 7, 2) := by decide +kernel
theorem dX9_find_45 : decode cX9_find 45 = .ok (.lstore 5, 2) := by decide +kernel
theorem dX9_find_47 : decode cX9_find 47 = .ok (.goto (-42), 3) := by decide +kernel
theorem dX9_find_50 : decode cX9_find 50 = .ok (.aload_n 0, 1) := by decide +kernel
theorem dX9_find_51 : decode cX9_find 51 = .ok (.lload_n 3, 1) := by decide +kernel
theorem dX9_find_52 : decode cX9_find 52 = .ok (.putfield 71, 3) := by decide +kernel
theorem dX9_find_55 : decode cX9_find 55 = .ok (.aload_n 0, 1) := by decide +kernel
theorem dX9_find_56 : decode cX9_find 56 = .ok (.aload_n 0, 1) := by decide +kernel
theorem dX9_find_57 : decode cX9_find 57 = .ok (.lload_n 3, 1) := by decide +kernel
theorem dX9_find_58 : decode cX9_find 58 = .ok (.invokevirtual 64, 3) := by decide +kernel
theorem dX9_find_61 : decode cX9_find 61 = .ok (.lload_n 1, 1) := by decide +kernel
theorem dX9_find_62 : decode cX9_find 62 = .ok (.lcmp, 1) := by decide +kernel
theorem dX9_find_63 : decode cX9_find 63 = .ok (.ifCond .ne 7, 3) := by decide +kernel
theorem dX9_find_66 : decode cX9_find 66 = .ok (.iconst 1, 1) := by decide +kernel
theorem dX9_find_67 : decode cX9_find 67 = .ok (.goto 4, 3) := by decide +kernel
theorem dX9_find_70 : decode cX9_find 70 = .ok (.iconst 0, 1) := by decide +kernel
theorem dX9_find_71 : decode cX9_find 71 = .ok (.putfield 75, 3) := by decide +kernel
theorem dX9_find_74 : decode cX9_find 74 = .ok (.aload_n 0, 1) := by decide +kernel
theorem dX9_find_75 : decode cX9_find 75 = .ok (.getfield 75, 3) := by decide +kernel
theorem dX9_find_78 : decode cX9_find 78 = .ok (.ifCond .eq 4, 3) := by decide +kernel
theorem dX9_find_81 : decode cX9_find 81 = .ok (.return_, 1) := by decide +kernel
theorem dX9_find_82 : decode cX9_find 82 = .ok (.lconst 0, 1) := by decide +kernel
theorem dX9_find_83 : decode cX9_find 83 = .ok (.lstore_n 3, 1) := by decide +kernel
theorem dX9_find_84 : decode cX9_find 84 = .ok (.lload_n 1, 1) := by decide +kernel
theorem dX9_find_85 : decode cX9_find 85 = .ok (.lstore 5, 2) := by decide +kernel
theorem dX9_find_87 : decode cX9_find 87 = .ok (.lload_n 3, 1) := by decide +kernel
theorem dX9_find_88 : decode cX9_find 88 = .ok (.lload 5, 2) := by decide +kernel
theorem dX9_find_90 : decode cX9_find 90 = .ok (.lcmp, 1) := by decide +kernel
theorem dX9_find_91 : decode cX9_find 91 = .ok (.ifCond .ge 44, 3) := by decide +kernel
theorem dX9_find_94 : decode cX9_find 94 = .ok (.lload_n 3, 1) := by decide +kernel
theorem dX9_find_95 : decode cX9_find 95 = .ok (.lload 5, 2) := by decide +kernel
theorem dX9_find_97 : decode cX9_find 97 = .ok (.lload_n 3, 1) := by decide +kernel
theorem dX9_find_98 : decode cX9_find 98 = .ok (.lsub, 1) := by decide +kernel
theorem dX9_find_99 : decode cX9_find 99 = .ok (.ldc2_w 46, 3) := by decide +kernel
theorem dX9_find_102 : decode cX9_find 102 = .ok (.ldiv, 1) := by decide +kernel
theorem dX9_find_103 : decode cX9_find 103 = .ok (.ladd, 1) := by decide +kernel
theorem dX9_find_104 : decode cX9_find 104 = .ok (.lstore 7, 2) := by decide +kernel
theorem dX9_find_106 : decode cX9_find 106 = .ok (.aload_n 0, 1) := by decide +kernel
theorem dX9_find_107 : decode cX9_find 107 = .ok (.lload 7, 2) := by decide +kernel
theorem dX9_find_109 : decode cX9_find 109 = .ok (.invokevirtual 64, 3) := by decide +kernel
theorem dX9_find_112 : decode cX9_find 112 = .ok (.lload 7, 2) := by decide +kernel
theorem dX9_find_114 : decode cX9_find 114 = .ok (.ladd, 1) := by decide +kernel
theorem dX9_find_115 : decode cX9_find 115 = .ok (.lload_n 1, 1) := by decide +kernel
theorem dX9_find_116 : decode cX9_find 116 = .ok (.lcmp, 1) := by decide +kernel
theorem dX9_find_117 : decode cX9_find 117 = .ok (.ifCond .ge 11, 3) := by decide +kernel
theorem dX9_find_120 : decode cX9_find 120 = .ok (.lload 7, 2) := by decide +kernel
theorem dX9_find_122 : decode cX9_find 122 = .ok (.lconst 1, 1) := by decide +kernel
theorem dX9_find_123 : decode cX9_find 123 = .ok (.ladd, 1) := by decide +kernel
theorem dX9_find_124 : decode cX9_find 124 = .ok (.lstore_n 3, 1) := by decide +kernel
theorem dX9_find_125 : decode cX9_find 125 = .ok (.goto 7, 3) := by decide +kernel
theorem dX9_find_128 : decode cX9_find 128 = .ok (.lload 7, 2) := by decide +kernel
theorem dX9_find_130 : decode cX9_find 130 = .ok (.lstore 5, 2) := by decide +kernel
theorem dX9_find_132 : decode cX9_find 132 = .ok (.goto (-45), 3) := by decide +kernel
theorem dX9_find_135 : decode cX9_find 135 = .ok (.aload_n 0, 1) := by decide +kernel
theorem dX9_find_136 : decode cX9_find 136 = .ok (.lload_n 3, 1) := by decide +kernel
theorem dX9_find_137 : decode cX9_find 137 = .ok (.putfield 71, 3) := by decide +kernel
theorem dX9_find_140 : decode cX9_find 140 = .ok (.return_, 1) := by decide +kernel
set_option maxRecDepth 20000 in
theorem ggX9_partner_X9_find : GoodIn wsX9_partner wsX9_find := goodIn_r _ [7, 8, 2, 1, 9, 10, 11, 6, 12, 13, 14, 15, 16, 17, 18, 19, 20, 21, 22, 23, 24, 25, 26, 27, 28, 29, 30, 31] (by decide +kernel) (by decide +kernel)
set_option maxRecDepth 20000 in
theorem gX9_partner_X9_find : GoodIn wsX9_partner (wsV RX9 79 RX9 yX9_find wsX9_find) := goodIn_app (goodIn_of _ (by decide +kernel)) ggX9_partner_X9_find
theorem dX9_partner_0 : decode cX9_partner 0 = .ok (.aload_n 0, 1) := by decide +kernel
theorem dX9_partner_1 : decode cX9_partner 1 = .ok (.lload_n 1, 1) := by decide +kernel
theorem dX9_partner_2 : decode cX9_partner 2 = .ok (.invokevirtual 79, 3) := by decide +kernel
theorem dX9_partner_5 : decode cX9_partner 5 = .ok (.aload_n 0, 1) := by decide +kernel
theorem dX9_partner_6 : decode cX9_partner 6 = .ok (.getfield 75, 3) := by decide +kernel
theorem dX9_partner_9 : decode cX9_partner 9 = .ok (.ifCond .eq 12, 3) := by decide +kernel
theorem dX9_partner_12 : decode cX9_partner 12 = .ok (.lload_n 1, 1) := by decide +kernel
theorem dX9_partner_13 : decode cX9_partner 13 = .ok (.aload_n 0, 1) := by decide +kernel
theorem dX9_partner_14 : decode cX9_partner 14 = .ok (.getfield 71, 3) := by decide +kernel
theorem dX9_partner_17 : decode cX9_partner 17 = .ok (.ladd, 1) := by decide +kernel
theorem dX9_partner_18 : decode cX9_partner 18 = .ok (.goto 9, 3) := by decide +kernel
theorem dX9_partner_21 : decode cX9_partner 21 = .ok (.lload_n 1, 1) := by decide +kernel
theorem dX9_partner_22 : decode cX9_partner 22 = .ok (.aload_n 0, 1) := by decide +kernel
theorem dX9_partner_23 : decode cX9_partner 23 = .ok (.getfield 71, 3) := by decide +kernel
theorem dX9_partner_26 : decode cX9_partner 26 = .ok (.lsub, 1) := by decide +kernel
theorem dX9_partner_27 : decode cX9_partner 27 = .ok (.lreturn, 1) := by decide +kernel
set_option maxRecDepth 20000 in
theorem ggX9_bothMove_X9_isHeap : GoodIn wsX9_bothMove wsX9_isHeap := goodIn_r _ [7, 8, 9, 10, 6, 11] (by decide +kernel) (by decide +kernel)
set_option maxRecDepth 20000 in
theorem gX9_bothMove_X9_isHeap : GoodIn wsX9_bothMove (va_wsS RX9 54 yX9_isHeap wsX9_isHeap) := goodIn_app (goodIn_of _ (by decide +kernel)) ggX9_bothMove_X9_isHeap
set_option maxRecDepth 20000 in
theorem ggX9_bothMove_X9_in : GoodIn wsX9_bothMove wsX9_in := goodIn_r _ [11] (by decide +kernel) (by decide +kernel)
set_option maxRecDepth 20000 in
theorem gX9_bothMove_X9_in : GoodIn wsX9_bothMove (va_wsS RX9 50 yX9_in wsX9_in) := goodIn_app (goodIn_of _ (by decide +kernel)) ggX9_bothMove_X9_in
set_option maxRecDepth 20000 in
theorem ggX9_bothMove_X9_partner : GoodIn wsX9_bothMove wsX9_partner := goodIn_r _ [15, 16, 17, 18, 19, 20, 6, 21, 2, 22, 23, 24, 25, 26, 27, 28, 29, 30, 31, 32, 33, 34, 35, 36, 37, 38, 39, 40, 41, 42, 43, 44] (by decide +kernel) (by decide +kernel)
set_option maxRecDepth 20000 in
theorem gX9_bothMove_X9_partner : GoodIn wsX9_bothMove (wsV RX9 83 RX9 yX9_partner wsX9_partner) := goodIn_app (goodIn_of _ (by decide +kernel)) ggX9_bothMove_X9_partner
set_option maxRecDepth 20000 in
theorem ggX9_bothMove_X9_lesser : GoodIn wsX9_bothMove wsX9_lesser := goodIn_r _ [25, 26, 27, 28, 29, 30, 31, 32, 33, 34, 35, 36, 37, 38, 39, 40, 41, 42, 43, 44] (by decide +kernel) (by decide +kernel)
set_option maxRecDepth 20000 in
theorem gX9_bothMove_X9_lesser : GoodIn wsX9_bothMove (wsV RX9 64 RX9 yX9_lesser wsX9_lesser) := goodIn_app (goodIn_of _ (by decide +kernel)) ggX9_bothMove_X9_lesser
theorem dX9_bothMove_0 : decode cX9_bothMove 0 = .ok (.lload_n 1, 1) := by decide +kernel
theorem dX9_bothMove_1 : decode cX9_bothMove 1 = .ok (.invokestatic 54, 3) := by decide +kernel
theorem dX9_bothMove_4 : decode cX9_bothMove 4 = .ok (.ifCond .eq 21, 3) := by decide +kernel
theorem dX9_bothMove_7 : decode cX9_bothMove 7 = .ok (.lload_n 3, 1) := by decide +kernel
theorem dX9_bothMove_8 : decode cX9_bothMove 8 = .ok (.invokestatic 54, 3) := by decide +kernel
theorem dX9_bothMove_11 : decode cX9_bothMove 11 = .ok (.ifCond .eq 14, 3) := by decide +kernel
theorem dX9_bothMove_14 : decode cX9_bothMove 14 = .ok (.iload 5, 2) := by decide +kernel
theorem dX9_bothMove_16 : decode cX9_bothMove 16 = .ok (.i2l, 1) := by decide +kernel
theorem dX9_bothMove_17 : decode cX9_bothMove 17 = .ok (.lconst 0, 1) := by decide +kernel
theorem dX9_bothMove_18 : decode cX9_bothMove 18 = .ok (.lconst 1, 1) := by decide +kernel
theorem dX9_bothMove_19 : decode cX9_bothMove 19 = .ok (.invokestatic 50, 3) := by decide +kernel
theorem dX9_bothMove_22 : decode cX9_bothMove 22 = .ok (.ifCond .ne 7, 3) := by decide +kernel
theorem dX9_bothMove_25 : decode cX9_bothMove 25 = .ok (.ldc2_w 62, 3) := by decide +kernel
theorem dX9_bothMove_28 : decode cX9_bothMove 28 = .ok (.lreturn, 1) := by decide +kernel
theorem dX9_bothMove_29 : decode cX9_bothMove 29 = .ok (.aload_n 0, 1) := by decide +kernel
theorem dX9_bothMove_30 : decode cX9_bothMove 30 = .ok (.lload_n 3, 1) := by decide +kernel
theorem dX9_bothMove_31 : decode cX9_bothMove 31 = .ok (.invokevirtual 83, 3) := by decide +kernel
theorem dX9_bothMove_34 : decode cX9_bothMove 34 = .ok (.lstore 6, 2) := by decide +kernel
theorem dX9_bothMove_36 : decode cX9_bothMove 36 = .ok (.lload 6, 2) := by decide +kernel
theorem dX9_bothMove_38 : decode cX9_bothMove 38 = .ok (.lload_n 1, 1) := by decide +kernel
theorem dX9_bothMove_39 : decode cX9_bothMove 39 = .ok (.lcmp, 1) := by decide +kernel
theorem dX9_bothMove_40 : decode cX9_bothMove 40 = .ok (.ifCond .ge 17, 3) := by decide +kernel
theorem dX9_bothMove_43 : decode cX9_bothMove 43 = .ok (.iload 5, 2) := by decide +kernel
theorem dX9_bothMove_45 : decode cX9_bothMove 45 = .ok (.ifCond .ne 7, 3) := by decide +kernel
theorem dX9_bothMove_48 : decode cX9_bothMove 48 = .ok (.lconst 0, 1) := by decide +kernel
theorem dX9_bothMove_49 : decode cX9_bothMove 49 = .ok (.goto 7, 3) := by decide +kernel
theorem dX9_bothMove_52 : decode cX9_bothMove 52 = .ok (.lload_n 1, 1) := by decide +kernel
theorem dX9_bothMove_53 : decode cX9_bothMove 53 = .ok (.lload 6, 2) := by decide +kernel
theorem dX9_bothMove_55 : decode cX9_bothMove 55 = .ok (.lsub, 1) := by decide +kernel
theorem dX9_bothMove_56 : decode cX9_bothMove 56 = .ok (.lreturn, 1) := by decide +kernel
theorem dX9_bothMove_57 : decode cX9_bothMove 57 = .ok (.aload_n 0, 1) := by decide +kernel
theorem dX9_bothMove_58 : decode cX9_bothMove 58 = .ok (.lload_n 1, 1) := by decide +kernel
theorem dX9_bothMove_59 : decode cX9_bothMove 59 = .ok (.invokevirtual 83, 3) := by decide +kernel
theorem dX9_bothMove_62 : decode cX9_bothMove 62 = .ok (.lstore 6, 2) := by decide +kernel
theorem dX9_bothMove_64 : decode cX9_bothMove 64 = .ok (.lload 6, 2) := by decide +kernel
theorem dX9_bothMove_66 : decode cX9_bothMove 66 = .ok (.lload_n 3, 1) := by decide +kernel
theorem dX9_bothMove_67 : decode cX9_bothMove 67 = .ok (.lcmp, 1) := by decide +kernel
theorem dX9_bothMove_68 : decode cX9_bothMove 68 = .ok (.ifCond .ge 17, 3) := by decide +kernel
theorem dX9_bothMove_71 : decode cX9_bothMove 71 = .ok (.iload 5, 2) := by decide +kernel
theorem dX9_bothMove_73 : decode cX9_bothMove 73 = .ok (.ifCond .ne 7, 3) := by decide +kernel
theorem dX9_bothMove_76 : decode cX9_bothMove 76 = .ok (.lconst 1, 1) := by decide +kernel
theorem dX9_bothMove_77 : decode cX9_bothMove 77 = .ok (.goto 7, 3) := by decide +kernel
theorem dX9_bothMove_80 : decode cX9_bothMove 80 = .ok (.lload_n 3, 1) := by decide +kernel
theorem dX9_bothMove_81 : decode cX9_bothMove 81 = .ok (.lload 6, 2) := by decide +kernel
theorem dX9_bothMove_83 : decode cX9_bothMove 83 = .ok (.lsub, 1) := by decide +kernel
theorem dX9_bothMove_84 : decode cX9_bothMove 84 = .ok (.lreturn, 1) := by decide +kernel
theorem dX9_bothMove_85 : decode cX9_bothMove 85 = .ok (.lload_n 1, 1) := by decide +kernel
theorem dX9_bothMove_86 : decode cX9_bothMove 86 = .ok (.lload_n 3, 1) := by decide +kernel
theorem dX9_bothMove_87 : decode cX9_bothMove 87 = .ok (.lcmp, 1) := by decide +kernel
theorem dX9_bothMove_88 : decode cX9_bothMove 88 = .ok (.ifCond .ge 7, 3) := by decide +kernel
theorem dX9_bothMove_91 : decode cX9_bothMove 91 = .ok (.lload_n 1, 1) := by decide +kernel
theorem dX9_bothMove_92 : decode cX9_bothMove 92 = .ok (.goto 4, 3) := by decide +kernel
theorem dX9_bothMove_95 : decode cX9_bothMove 95 = .ok (.lload_n 3, 1) := by decide +kernel
theorem dX9_bothMove_96 : decode cX9_bothMove 96 = .ok (.lstore 8, 2) := by decide +kernel
theorem dX9_bothMove_98 : decode cX9_bothMove 98 = .ok (.lload_n 1, 1) := by decide +kernel
theorem dX9_bothMove_99 : decode cX9_bothMove 99 = .ok (.lload_n 3, 1) := by decide +kernel
theorem dX9_bothMove_100 : decode cX9_bothMove 100 = .ok (.lcmp, 1) := by decide +kernel
theorem dX9_bothMove_101 : decode cX9_bothMove 101 = .ok (.ifCond .ge 9, 3) := by decide +kernel
theorem dX9_bothMove_104 : decode cX9_bothMove 104 = .ok (.lload_n 3, 1) := by decide +kernel
theorem dX9_bothMove_105 : decode cX9_bothMove 105 = .ok (.lload_n 1, 1) := by decide +kernel
theorem dX9_bothMove_106 : decode cX9_bothMove 106 = .ok (.lsub, 1) := by decide +kernel
theorem dX9_bothMove_107 : decode cX9_bothMove 107 = .ok (.goto 6, 3) := by decide +kernel
theorem dX9_bothMove_110 : decode cX9_bothMove 110 = .ok (.lload_n 1, 1) := by decide +kernel
theorem dX9_bothMove_111 : decode cX9_bothMove 111 = .ok (.lload_n 3, 1) := by decide +kernel
theorem dX9_bothMove_112 : decode cX9_bothMove 112 = .ok (.lsub, 1) := by decide +kernel
theorem dX9_bothMove_113 : decode cX9_bothMove 113 = .ok (.lstore 10, 2) := by decide +kernel
theorem dX9_bothMove_115 : decode cX9_bothMove 115 = .ok (.aload_n 0, 1) := by decide +kernel
theorem dX9_bothMove_116 : decode cX9_bothMove 116 = .ok (.lload 10, 2) := by decide +kernel
theorem dX9_bothMove_118 : decode cX9_bothMove 118 = .ok (.invokevirtual 64, 3) := by decide +kernel
theorem dX9_bothMove_121 : decode cX9_bothMove 121 = .ok (.lload 8, 2) := by decide +kernel
theorem dX9_bothMove_123 : decode cX9_bothMove 123 = .ok (.lcmp, 1) := by decide +kernel
theorem dX9_bothMove_124 : decode cX9_bothMove 124 = .ok (.ifCond .ge 24, 3) := by decide +kernel
theorem dX9_bothMove_127 : decode cX9_bothMove 127 = .ok (.iload 5, 2) := by decide +kernel
theorem dX9_bothMove_129 : decode cX9_bothMove 129 = .ok (.ifCond .ne 9, 3) := by decide +kernel
theorem dX9_bothMove_132 : decode cX9_bothMove 132 = .ok (.ldc2_w 46, 3) := by decide +kernel
theorem dX9_bothMove_135 : decode cX9_bothMove 135 = .ok (.goto 12, 3) := by decide +kernel
theorem dX9_bothMove_138 : decode cX9_bothMove 138 = .ok (.lload 8, 2) := by decide +kernel
theorem dX9_bothMove_140 : decode cX9_bothMove 140 = .ok (.aload_n 0, 1) := by decide +kernel
theorem dX9_bothMove_141 : decode cX9_bothMove 141 = .ok (.lload 10, 2) := by decide +kernel
theorem dX9_bothMove_143 : decode cX9_bothMove 143 = .ok (.invokevirtual 64, 3) := by decide +kernel
theorem dX9_bothMove_146 : decode cX9_bothMove 146 = .ok (.lsub, 1) := by decide +kernel
theorem dX9_bothMove_147 : decode cX9_bothMove 147 = .ok (.lreturn, 1) := by decide +kernel
theorem dX9_bothMove_148 : decode cX9_bothMove 148 = .ok (.iload 5, 2) := by decide +kernel
theorem dX9_bothMove_150 : decode cX9_bothMove 150 = .ok (.ifCond .ne 9, 3) := by decide +kernel
theorem dX9_bothMove_153 : decode cX9_bothMove 153 = .ok (.ldc2_w 86, 3) := by decide +kernel
theorem dX9_bothMove_156 : decode cX9_bothMove 156 = .ok (.goto 4, 3) := by decide +kernel
theorem dX9_bothMove_159 : decode cX9_bothMove 159 = .ok (.lconst 0, 1) := by decide +kernel
theorem dX9_bothMove_160 : decode cX9_bothMove 160 = .ok (.lreturn, 1) := by decide +kernel
set_option maxRecDepth 20000 in
theorem ggX9_lost_X9_in : GoodIn wsX9_lost wsX9_in := goodIn_r _ [6] (by decide +kernel) (by decide +kernel)
set_option maxRecDepth 20000 in
theorem gX9_lost_X9_in : GoodIn wsX9_lost (va_wsS RX9 50 yX9_in wsX9_in) := goodIn_app (goodIn_of _ (by decide +kernel)) ggX9_lost_X9_in
set_option maxRecDepth 20000 in
theorem ggX9_lost_X9_lesser : GoodIn wsX9_lost wsX9_lesser := goodIn_r _ [10, 11, 12, 13, 14, 15, 16, 17, 18, 19, 20, 21, 22, 23, 24, 25, 26, 27, 28, 29] (by decide +kernel) (by decide +kernel)
set_option maxRecDepth 20000 in
theorem gX9_lost_X9_lesser : GoodIn wsX9_lost (wsV RX9 64 RX9 yX9_lesser wsX9_lesser) := goodIn_app (goodIn_of _ (by decide +kernel)) ggX9_lost_X9_lesser
theorem dX9_lost_0 : decode cX9_lost 0 = .ok (.lload_n 1, 1) := by decide +kernel
theorem dX9_lost_1 : decode cX9_lost 1 = .ok (.lconst 0, 1) := by decide +kernel
theorem dX9_lost_2 : decode cX9_lost 2 = .ok (.ldc2_w 88, 3) := by decide +kernel
theorem dX9_lost_5 : decode cX9_lost 5 = .ok (.invokestatic 50, 3) := by decide +kernel
theorem dX9_lost_8 : decode cX9_lost 8 = .ok (.ifCond .eq 13, 3) := by decide +kernel
theorem dX9_lost_11 : decode cX9_lost 11 = .ok (.iload_n 3, 1) := by decide +kernel
theorem dX9_lost_12 : decode cX9_lost 12 = .ok (.i2l, 1) := by decide +kernel
theorem dX9_lost_13 : decode cX9_lost 13 = .ok (.lconst 0, 1) := by decide +kernel
theorem dX9_lost_14 : decode cX9_lost 14 = .ok (.lconst 1, 1) := by decide +kernel
theorem dX9_lost_15 : decode cX9_lost 15 = .ok (.invokestatic 50, 3) := by decide +kernel
theorem dX9_lost_18 : decode cX9_lost 18 = .ok (.ifCond .ne 7, 3) := by decide +kernel
theorem dX9_lost_21 : decode cX9_lost 21 = .ok (.ldc2_w 62, 3) := by decide +kernel
theorem dX9_lost_24 : decode cX9_lost 24 = .ok (.lreturn, 1) := by decide +kernel
theorem dX9_lost_25 : decode cX9_lost 25 = .ok (.iload_n 3, 1) := by decide +kernel
theorem dX9_lost_26 : decode cX9_lost 26 = .ok (.ifCond .ne 11, 3) := by decide +kernel
theorem dX9_lost_29 : decode cX9_lost 29 = .ok (.aload_n 0, 1) := by decide +kernel
theorem dX9_lost_30 : decode cX9_lost 30 = .ok (.lload_n 1, 1) := by decide +kernel
theorem dX9_lost_31 : decode cX9_lost 31 = .ok (.invokevirtual 64, 3) := by decide +kernel
theorem dX9_lost_34 : decode cX9_lost 34 = .ok (.goto 10, 3) := by decide +kernel
theorem dX9_lost_37 : decode cX9_lost 37 = .ok (.aload_n 0, 1) := by decide +kernel
theorem dX9_lost_38 : decode cX9_lost 38 = .ok (.lload_n 1, 1) := by decide +kernel
theorem dX9_lost_39 : decode cX9_lost 39 = .ok (.invokevirtual 64, 3) := by decide +kernel
theorem dX9_lost_42 : decode cX9_lost 42 = .ok (.lload_n 1, 1) := by decide +kernel
theorem dX9_lost_43 : decode cX9_lost 43 = .ok (.ladd, 1) := by decide +kernel
theorem dX9_lost_44 : decode cX9_lost 44 = .ok (.lreturn, 1) := by decide +kernel
set_option maxRecDepth 20000 in
theorem ggX9_lostOf_X9_isHeap : GoodIn wsX9_lostOf wsX9_isHeap := goodIn_r _ [7, 8, 9, 10, 6, 11] (by decide +kernel) (by decide +kernel)
set_option maxRecDepth 20000 in
theorem gX9_lostOf_X9_isHeap : GoodIn wsX9_lostOf (va_wsS RX9 54 yX9_isHeap wsX9_isHeap) := goodIn_app (goodIn_of _ (by decide +kernel)) ggX9_lostOf_X9_isHeap
set_option maxRecDepth 20000 in
theorem ggX9_lostOf_X9_in : GoodIn wsX9_lostOf wsX9_in := goodIn_r _ [11] (by decide +kernel) (by decide +kernel)
set_option maxRecDepth 20000 in
theorem gX9_lostOf_X9_in : GoodIn wsX9_lostOf (va_wsS RX9 50 yX9_in wsX9_in) := goodIn_app (goodIn_of _ (by decide +kernel)) ggX9_lostOf_X9_in
set_option maxRecDepth 20000 in
theorem ggX9_lostOf_X9_find : GoodIn wsX9_lostOf wsX9_find := goodIn_r _ [15, 16, 2, 3, 17, 18, 19, 6, 20, 21, 22, 23, 24, 25, 26, 27, 28, 29, 30, 31, 32, 33, 34, 35, 36, 37, 38, 39] (by decide +kernel) (by decide +kernel)
set_option maxRecDepth 20000 in
theorem gX9_lostOf_X9_find : GoodIn wsX9_lostOf (wsV RX9 79 RX9 yX9_find wsX9_find) := goodIn_app (goodIn_of _ (by decide +kernel)) ggX9_lostOf_X9_find
theorem dX9_lostOf_0 : decode cX9_lostOf 0 = .ok (.lload_n 1, 1) := by decide +kernel
theorem dX9_lostOf_1 : decode cX9_lostOf 1 = .ok (.invokestatic 54, 3) := by decide +kernel
theorem dX9_lostOf_4 : decode cX9_lostOf 4 = .ok (.ifCond .eq 13, 3) := by decide +kernel
theorem dX9_lostOf_7 : decode cX9_lostOf 7 = .ok (.iload_n 3, 1) := by decide +kernel
theorem dX9_lostOf_8 : decode cX9_lostOf 8 = .ok (.i2l, 1) := by decide +kernel
theorem dX9_lostOf_9 : decode cX9_lostOf 9 = .ok (.lconst 0, 1) := by decide +kernel
theorem dX9_lostOf_10 : decode cX9_lostOf 10 = .ok (.lconst 1, 1) := by decide +kernel
theorem dX9_lostOf_11 : decode cX9_lostOf 11 = .ok (.invokestatic 50, 3) := by decide +kernel
theorem dX9_lostOf_14 : decode cX9_lostOf 14 = .ok (.ifCond .ne 7, 3) := by decide +kernel
theorem dX9_lostOf_17 : decode cX9_lostOf 17 = .ok (.ldc2_w 62, 3) := by decide +kernel
theorem dX9_lostOf_20 : decode cX9_lostOf 20 = .ok (.lreturn, 1) := by decide +kernel
theorem dX9_lostOf_21 : decode cX9_lostOf 21 = .ok (.aload_n 0, 1) := by decide +kernel
theorem dX9_lostOf_22 : decode cX9_lostOf 22 = .ok (.lload_n 1, 1) := by decide +kernel
theorem dX9_lostOf_23 : decode cX9_lostOf 23 = .ok (.invokevirtual 79, 3) := by decide +kernel
theorem dX9_lostOf_26 : decode cX9_lostOf 26 = .ok (.iload_n 3, 1) := by decide +kernel
theorem dX9_lostOf_27 : decode cX9_lostOf 27 = .ok (.ifCond .ne 10, 3) := by decide +kernel
theorem dX9_lostOf_30 : decode cX9_lostOf 30 = .ok (.aload_n 0, 1) := by decide +kernel
theorem dX9_lostOf_31 : decode cX9_lostOf 31 = .ok (.getfield 71, 3) := by decide +kernel
theorem dX9_lostOf_34 : decode cX9_lostOf 34 = .ok (.goto 15, 3) := by decide +kernel
theorem dX9_lostOf_37 : decode cX9_lostOf 37 = .ok (.aload_n 0, 1) := by decide +kernel
theorem dX9_lostOf_38 : decode cX9_lostOf 38 = .ok (.getfield 75, 3) := by decide +kernel
theorem dX9_lostOf_41 : decode cX9_lostOf 41 = .ok (.ifCond .eq 7, 3) := by decide +kernel
theorem dX9_lostOf_44 : decode cX9_lostOf 44 = .ok (.lconst 1, 1) := by decide +kernel
theorem dX9_lostOf_45 : decode cX9_lostOf 45 = .ok (.goto 4, 3) := by decide +kernel
theorem dX9_lostOf_48 : decode cX9_lostOf 48 = .ok (.lconst 0, 1) := by decide +kernel
theorem dX9_lostOf_49 : decode cX9_lostOf 49 = .ok (.lreturn, 1) := by decide +kernel
theorem dX9_findRow_0 : decode cX9_findRow 0 = .ok (.aload_n 0, 1) := by decide +kernel
theorem dX9_findRow_1 : decode cX9_findRow 1 = .ok (.getfield 13, 3) := by decide +kernel
theorem dX9_findRow_4 : decode cX9_findRow 4 = .ok (.iconst 0, 1) := by decide +kernel
theorem dX9_findRow_5 : decode cX9_findRow 5 = .ok (.lconst 1, 1) := by decide +kernel
theorem dX9_findRow_6 : decode cX9_findRow 6 = .ok (.lastore, 1) := by decide +kernel
theorem dX9_findRow_7 : decode cX9_findRow 7 = .ok (.aload_n 0, 1) := by decide +kernel
theorem dX9_findRow_8 : decode cX9_findRow 8 = .ok (.iconst 1, 1) := by decide +kernel
theorem dX9_findRow_9 : decode cX9_findRow 9 = .ok (.putfield 90, 3) := by decide +kernel
theorem dX9_findRow_12 : decode cX9_findRow 12 = .ok (.iconst 0, 1) := by decide +kernel
theorem dX9_findRow_13 : decode cX9_findRow 13 = .ok (.istore_n 2, 1) := by decide +kernel
theorem dX9_findRow_14 : decode cX9_findRow 14 = .ok (.lconst 1, 1) := by decide +kernel
theorem dX9_findRow_15 : decode cX9_findRow 15 = .ok (.lstore_n 3, 1) := by decide +kernel
theorem dX9_findRow_16 : decode cX9_findRow 16 = .ok (.iload_n 1, 1) := by decide +kernel
theorem dX9_findRow_17 : decode cX9_findRow 17 = .ok (.i2l, 1) := by decide +kernel
theorem dX9_findRow_18 : decode cX9_findRow 18 = .ok (.aload_n 0, 1) := by decide +kernel
theorem dX9_findRow_19 : decode cX9_findRow 19 = .ok (.getfield 13, 3) := by decide +kernel
theorem dX9_findRow_22 : decode cX9_findRow 22 = .ok (.iload_n 2, 1) := by decide +kernel
theorem dX9_findRow_23 : decode cX9_findRow 23 = .ok (.laload, 1) := by decide +kernel
theorem dX9_findRow_24 : decode cX9_findRow 24 = .ok (.lmul, 1) := by decide +kernel
theorem dX9_findRow_25 : decode cX9_findRow 25 = .ok (.lload_n 3, 1) := by decide +kernel
theorem dX9_findRow_26 : decode cX9_findRow 26 = .ok (.lcmp, 1) := by decide +kernel
theorem dX9_findRow_27 : decode cX9_findRow 27 = .ok (.ifCond .ge 9, 3) := by decide +kernel
theorem dX9_findRow_30 : decode cX9_findRow 30 = .ok (.iinc 2 1, 3) := by decide +kernel
theorem dX9_findRow_33 : decode cX9_findRow 33 = .ok (.goto (-17), 3) := by decide +kernel
theorem dX9_findRow_36 : decode cX9_findRow 36 = .ok (.lload_n 3, 1) := by decide +kernel
theorem dX9_findRow_37 : decode cX9_findRow 37 = .ok (.aload_n 0, 1) := by decide +kernel
theorem dX9_findRow_38 : decode cX9_findRow 38 = .ok (.getfield 13, 3) := by decide +kernel
theorem dX9_findRow_41 : decode cX9_findRow 41 = .ok (.iload_n 2, 1) := by decide +kernel
theorem dX9_findRow_42 : decode cX9_findRow 42 = .ok (.laload, 1) := by decide +kernel
theorem dX9_findRow_43 : decode cX9_findRow 43 = .ok (.ladd, 1) := by decide +kernel
theorem dX9_findRow_44 : decode cX9_findRow 44 = .ok (.lstore_n 3, 1) := by decide +kernel
theorem dX9_findRow_45 : decode cX9_findRow 45 = .ok (.lload_n 3, 1) := by decide +kernel
theorem dX9_findRow_46 : decode cX9_findRow 46 = .ok (.ldc2_w 48, 3) := by decide +kernel
theorem dX9_findRow_49 : decode cX9_findRow 49 = .ok (.lcmp, 1) := by decide +kernel
theorem dX9_findRow_50 : decode cX9_findRow 50 = .ok (.ifCond .le 4, 3) := by decide +kernel
theorem dX9_findRow_53 : decode cX9_findRow 53 = .ok (.return_, 1) := by decide +kernel
theorem dX9_findRow_54 : decode cX9_findRow 54 = .ok (.aload_n 0, 1) := by decide +kernel
theorem dX9_findRow_55 : decode cX9_findRow 55 = .ok (.getfield 13, 3) := by decide +kernel
theorem dX9_findRow_58 : decode cX9_findRow 58 = .ok (.aload_n 0, 1) := by decide +kernel
theorem dX9_findRow_59 : decode cX9_findRow 59 = .ok (.getfield 90, 3) := by decide +kernel
theorem dX9_findRow_62 : decode cX9_findRow 62 = .ok (.lload_n 3, 1) := by decide +kernel
theorem dX9_findRow_63 : decode cX9_findRow 63 = .ok (.lastore, 1) := by decide +kernel
theorem dX9_findRow_64 : decode cX9_findRow 64 = .ok (.aload_n 0, 1) := by decide +kernel
theorem dX9_findRow_65 : decode cX9_findRow 65 = .ok (.dup, 1) := by decide +kernel
theorem dX9_findRow_66 : decode cX9_findRow 66 = .ok (.getfield 90, 3) := by decide +kernel
theorem dX9_findRow_69 : decode cX9_findRow 69 = .ok (.iconst 1, 1) := by decide +kernel
theorem dX9_findRow_70 : decode cX9_findRow 70 = .ok (.iadd, 1) := by decide +kernel
theorem dX9_findRow_71 : decode cX9_findRow 71 = .ok (.putfield 90, 3) := by decide +kernel
theorem dX9_findRow_74 : decode cX9_findRow 74 = .ok (.goto (-58), 3) := by decide +kernel
set_option maxRecDepth 20000 in
theorem ggX9_isBy_X9_in : GoodIn wsX9_isBy wsX9_in := goodIn_r _ [5] (by decide +kernel) (by decide +kernel)
set_option maxRecDepth 20000 in
theorem gX9_isBy_X9_in : GoodIn wsX9_isBy (va_wsS RX9 50 yX9_in wsX9_in) := goodIn_app (goodIn_of _ (by decide +kernel)) ggX9_isBy_X9_in
theorem dX9_isBy_0 : decode cX9_isBy 0 = .ok (.iload_n 0, 1) := by decide +kernel
theorem dX9_isBy_1 : decode cX9_isBy 1 = .ok (.i2l, 1) := by decide +kernel
theorem dX9_isBy_2 : decode cX9_isBy 2 = .ok (.lconst 1, 1) := by decide +kernel
theorem dX9_isBy_3 : decode cX9_isBy 3 = .ok (.ldc2_w 93, 3) := by decide +kernel
theorem dX9_isBy_6 : decode cX9_isBy 6 = .ok (.invokestatic 50, 3) := by decide +kernel
theorem dX9_isBy_9 : decode cX9_isBy 9 = .ok (.ireturn, 1) := by decide +kernel
set_option maxRecDepth 20000 in
theorem ggX9_row_X9_isBy : GoodIn wsX9_row wsX9_isBy := goodIn_r _ [8, 9, 10, 11, 7, 12] (by decide +kernel) (by decide +kernel)
set_option maxRecDepth 20000 in
theorem gX9_row_X9_isBy : GoodIn wsX9_row (va_wsS RX9 95 yX9_isBy wsX9_isBy) := goodIn_app (goodIn_of _ (by decide +kernel)) ggX9_row_X9_isBy
set_option maxRecDepth 20000 in
theorem ggX9_row_X9_findRow : GoodIn wsX9_row wsX9_findRow := goodIn_r _ [16, 3, 2, 17, 18, 19, 20, 21, 22, 23, 24, 25, 26, 27, 28, 29, 30, 31, 32, 33, 34, 35] (by decide +kernel) (by decide +kernel)
set_option maxRecDepth 20000 in
theorem gX9_row_X9_findRow : GoodIn wsX9_row (wsV RX9 99 RX9 yX9_findRow wsX9_findRow) := goodIn_app (goodIn_of _ (by decide +kernel)) ggX9_row_X9_findRow
theorem dX9_row_0 : decode cX9_row 0 = .ok (.iload_n 1, 1) := by decide +kernel
theorem dX9_row_1 : decode cX9_row 1 = .ok (.invokestatic 95, 3) := by decide +kernel
theorem dX9_row_4 : decode cX9_row 4 = .ok (.ifCond .eq 7, 3) := by decide +kernel
theorem dX9_row_7 : decode cX9_row 7 = .ok (.iload_n 2, 1) := by decide +kernel
theorem dX9_row_8 : decode cX9_row 8 = .ok (.ifCond .ge 7, 3) := by decide +kernel
theorem dX9_row_11 : decode cX9_row 11 = .ok (.ldc2_w 62, 3) := by decide +kernel
theorem dX9_row_14 : decode cX9_row 14 = .ok (.lreturn, 1) := by decide +kernel
theorem dX9_row_15 : decode cX9_row 15 = .ok (.aload_n 0, 1) := by decide +kernel
theorem dX9_row_16 : decode cX9_row 16 = .ok (.iload_n 1, 1) := by decide +kernel
theorem dX9_row_17 : decode cX9_row 17 = .ok (.invokevirtual 99, 3) := by decide +kernel
theorem dX9_row_20 : decode cX9_row 20 = .ok (.iload_n 2, 1) := by decide +kernel
theorem dX9_row_21 : decode cX9_row 21 = .ok (.aload_n 0, 1) := by decide +kernel
theorem dX9_row_22 : decode cX9_row 22 = .ok (.getfield 90, 3) := by decide +kernel
theorem dX9_row_25 : decode cX9_row 25 = .ok (.if_icmp .ge 12, 3) := by decide +kernel
theorem dX9_row_28 : decode cX9_row 28 = .ok (.aload_n 0, 1) := by decide +kernel
theorem dX9_row_29 : decode cX9_row 29 = .ok (.getfield 13, 3) := by decide +kernel
theorem dX9_row_32 : decode cX9_row 32 = .ok (.iload_n 2, 1) := by decide +kernel
theorem dX9_row_33 : decode cX9_row 33 = .ok (.laload, 1) := by decide +kernel
theorem dX9_row_34 : decode cX9_row 34 = .ok (.goto 6, 3) := by decide +kernel
theorem dX9_row_37 : decode cX9_row 37 = .ok (.ldc2_w 86, 3) := by decide +kernel
theorem dX9_row_40 : decode cX9_row 40 = .ok (.lreturn, 1) := by decide +kernel
set_option maxRecDepth 20000 in
theorem ggX9_lastOf_X9_findRow : GoodIn wsX9_lastOf wsX9_findRow := goodIn_r _ [8, 3, 2, 9, 10, 11, 12, 13, 14, 15, 16, 17, 18, 19, 20, 21, 22, 23, 24, 25, 26, 27] (by decide +kernel) (by decide +kernel)
set_option maxRecDepth 20000 in
theorem gX9_lastOf_X9_findRow : GoodIn wsX9_lastOf (wsV RX9 99 RX9 yX9_findRow wsX9_findRow) := goodIn_app (goodIn_of _ (by decide +kernel)) ggX9_lastOf_X9_findRow
theorem dX9_lastOf_0 : decode cX9_lastOf 0 = .ok (.aload_n 0, 1) := by decide +kernel
theorem dX9_lastOf_1 : decode cX9_lastOf 1 = .ok (.iload_n 1, 1) := by decide +kernel
theorem dX9_lastOf_2 : decode cX9_lastOf 2 = .ok (.invokevirtual 99, 3) := by decide +kernel
theorem dX9_lastOf_5 : decode cX9_lastOf 5 = .ok (.lload_n 2, 1) := by decide +kernel
theorem dX9_lastOf_6 : decode cX9_lastOf 6 = .ok (.lstore 4, 2) := by decide +kernel
theorem dX9_lastOf_8 : decode cX9_lastOf 8 = .ok (.lconst 0, 1) := by decide +kernel
theorem dX9_lastOf_9 : decode cX9_lastOf 9 = .ok (.lstore 6, 2) := by decide +kernel
theorem dX9_lastOf_11 : decode cX9_lastOf 11 = .ok (.aload_n 0, 1) := by decide +kernel
theorem dX9_lastOf_12 : decode cX9_lastOf 12 = .ok (.iconst 0, 1) := by decide +kernel
theorem dX9_lastOf_13 : decode cX9_lastOf 13 = .ok (.putfield 103, 3) := by decide +kernel
theorem dX9_lastOf_16 : decode cX9_lastOf 16 = .ok (.aload_n 0, 1) := by decide +kernel
theorem dX9_lastOf_17 : decode cX9_lastOf 17 = .ok (.getfield 90, 3) := by decide +kernel
theorem dX9_lastOf_20 : decode cX9_lastOf 20 = .ok (.iconst 1, 1) := by decide +kernel
theorem dX9_lastOf_21 : decode cX9_lastOf 21 = .ok (.isub, 1) := by decide +kernel
theorem dX9_lastOf_22 : decode cX9_lastOf 22 = .ok (.istore 8, 2) := by decide +kernel
theorem dX9_lastOf_24 : decode cX9_lastOf 24 = .ok (.iload 8, 2) := by decide +kernel
theorem dX9_lastOf_26 : decode cX9_lastOf 26 = .ok (.ifCond .lt 60, 3) := by decide +kernel
theorem dX9_lastOf_29 : decode cX9_lastOf 29 = .ok (.lload 4, 2) := by decide +kernel
theorem dX9_lastOf_31 : decode cX9_lastOf 31 = .ok (.lconst 0, 1) := by decide +kernel
theorem dX9_lastOf_32 : decode cX9_lastOf 32 = .ok (.lcmp, 1) := by decide +kernel
theorem dX9_lastOf_33 : decode cX9_lastOf 33 = .ok (.ifCond .le 53, 3) := by decide +kernel
theorem dX9_lastOf_36 : decode cX9_lastOf 36 = .ok (.aload_n 0, 1) := by decide +kernel
theorem dX9_lastOf_37 : decode cX9_lastOf 37 = .ok (.getfield 13, 3) := by decide +kernel
theorem dX9_lastOf_40 : decode cX9_lastOf 40 = .ok (.iload 8, 2) := by decide +kernel
theorem dX9_lastOf_42 : decode cX9_lastOf 42 = .ok (.laload, 1) := by decide +kernel
theorem dX9_lastOf_43 : decode cX9_lastOf 43 = .ok (.lload 4, 2) := by decide +kernel
theorem dX9_lastOf_45 : decode cX9_lastOf 45 = .ok (.lcmp, 1) := by decide +kernel
theorem dX9_lastOf_46 : decode cX9_lastOf 46 = .ok (.ifCond .gt 34, 3) := by decide +kernel
theorem dX9_lastOf_49 : decode cX9_lastOf 49 = .ok (.lload 4, 2) := by decide +kernel
theorem dX9_lastOf_51 : decode cX9_lastOf 51 = .ok (.aload_n 0, 1) := by decide +kernel
theorem dX9_lastOf_52 : decode cX9_lastOf 52 = .ok (.getfield 13, 3) := by decide +kernel
theorem dX9_lastOf_55 : decode cX9_lastOf 55 = .ok (.iload 8, 2) := by decide +kernel
theorem dX9_lastOf_57 : decode cX9_lastOf 57 = .ok (.laload, 1) := by decide +kernel
theorem dX9_lastOf_58 : decode cX9_lastOf 58 = .ok (.lsub, 1) := by decide +kernel
theorem dX9_lastOf_59 : decode cX9_lastOf 59 = .ok (.lstore 4, 2) := by decide +kernel
theorem dX9_lastOf_61 : decode cX9_lastOf 61 = .ok (.aload_n 0, 1) := by decide +kernel
theorem dX9_lastOf_62 : decode cX9_lastOf 62 = .ok (.getfield 13, 3) := by decide +kernel
theorem dX9_lastOf_65 : decode cX9_lastOf 65 = .ok (.iload 8, 2) := by decide +kernel
theorem dX9_lastOf_67 : decode cX9_lastOf 67 = .ok (.laload, 1) := by decide +kernel
theorem dX9_lastOf_68 : decode cX9_lastOf 68 = .ok (.lstore 6, 2) := by decide +kernel
theorem dX9_lastOf_70 : decode cX9_lastOf 70 = .ok (.aload_n 0, 1) := by decide +kernel
theorem dX9_lastOf_71 : decode cX9_lastOf 71 = .ok (.dup, 1) := by decide +kernel
theorem dX9_lastOf_72 : decode cX9_lastOf 72 = .ok (.getfield 103, 3) := by decide +kernel
theorem dX9_lastOf_75 : decode cX9_lastOf 75 = .ok (.iconst 1, 1) := by decide +kernel
theorem dX9_lastOf_76 : decode cX9_lastOf 76 = .ok (.iadd, 1) := by decide +kernel
theorem dX9_lastOf_77 : decode cX9_lastOf 77 = .ok (.putfield 103, 3) := by decide +kernel
theorem dX9_lastOf_80 : decode cX9_lastOf 80 = .ok (.iinc 8 (-1), 3) := by decide +kernel
theorem dX9_lastOf_83 : decode cX9_lastOf 83 = .ok (.goto (-59), 3) := by decide +kernel
theorem dX9_lastOf_86 : decode cX9_lastOf 86 = .ok (.lload 6, 2) := by decide +kernel
theorem dX9_lastOf_88 : decode cX9_lastOf 88 = .ok (.lreturn, 1) := by decide +kernel
set_option maxRecDepth 20000 in
theorem ggX9_digits_X9_isBy : GoodIn wsX9_digits wsX9_isBy := goodIn_r _ [5, 6, 7, 8, 4, 9] (by decide +kernel) (by decide +kernel)
set_option maxRecDepth 20000 in
theorem gX9_digits_X9_isBy : GoodIn wsX9_digits (va_wsS RX9 95 yX9_isBy wsX9_isBy) := goodIn_app (goodIn_of _ (by decide +kernel)) ggX9_digits_X9_isBy
set_option maxRecDepth 20000 in
theorem ggX9_digits_X9_isHeap : GoodIn wsX9_digits wsX9_isHeap := goodIn_r _ [12, 13, 7, 8, 4, 9] (by decide +kernel) (by decide +kernel)
set_option maxRecDepth 20000 in
theorem gX9_digits_X9_isHeap : GoodIn wsX9_digits (va_wsS RX9 54 yX9_isHeap wsX9_isHeap) := goodIn_app (goodIn_of _ (by decide +kernel)) ggX9_digits_X9_isHeap
set_option maxRecDepth 20000 in
theorem ggX9_digits_X9_lastOf : GoodIn wsX9_digits wsX9_lastOf := goodIn_r _ [17, 1, 18, 19, 20, 21, 22, 4, 23, 13, 24, 25, 26, 27, 28, 29, 30, 31, 32, 33, 34, 35, 36, 37, 38, 39, 40, 41] (by decide +kernel) (by decide +kernel)
set_option maxRecDepth 20000 in
theorem gX9_digits_X9_lastOf : GoodIn wsX9_digits (wsV RX9 106 RX9 yX9_lastOf wsX9_lastOf) := goodIn_app (goodIn_of _ (by decide +kernel)) ggX9_digits_X9_lastOf
theorem dX9_digits_0 : decode cX9_digits 0 = .ok (.iload_n 1, 1) := by decide +kernel
theorem dX9_digits_1 : decode cX9_digits 1 = .ok (.invokestatic 95, 3) := by decide +kernel
theorem dX9_digits_4 : decode cX9_digits 4 = .ok (.ifCond .eq 10, 3) := by decide +kernel
theorem dX9_digits_7 : decode cX9_digits 7 = .ok (.lload_n 2, 1) := by decide +kernel
theorem dX9_digits_8 : decode cX9_digits 8 = .ok (.invokestatic 54, 3) := by decide +kernel
theorem dX9_digits_11 : decode cX9_digits 11 = .ok (.ifCond .ne 6, 3) := by decide +kernel
theorem dX9_digits_14 : decode cX9_digits 14 = .ok (.bipush (-2), 2) := by decide +kernel
theorem dX9_digits_16 : decode cX9_digits 16 = .ok (.ireturn, 1) := by decide +kernel
theorem dX9_digits_17 : decode cX9_digits 17 = .ok (.aload_n 0, 1) := by decide +kernel
theorem dX9_digits_18 : decode cX9_digits 18 = .ok (.iload_n 1, 1) := by decide +kernel
theorem dX9_digits_19 : decode cX9_digits 19 = .ok (.lload_n 2, 1) := by decide +kernel
theorem dX9_digits_20 : decode cX9_digits 20 = .ok (.invokevirtual 106, 3) := by decide +kernel
theorem dX9_digits_23 : decode cX9_digits 23 = .ok (.lstore 4, 2) := by decide +kernel
theorem dX9_digits_25 : decode cX9_digits 25 = .ok (.aload_n 0, 1) := by decide +kernel
theorem dX9_digits_26 : decode cX9_digits 26 = .ok (.getfield 103, 3) := by decide +kernel
theorem dX9_digits_29 : decode cX9_digits 29 = .ok (.ireturn, 1) := by decide +kernel
set_option maxRecDepth 20000 in
theorem ggX9_last_X9_isBy : GoodIn wsX9_last wsX9_isBy := goodIn_r _ [6, 7, 8, 9, 5, 10] (by decide +kernel) (by decide +kernel)
set_option maxRecDepth 20000 in
theorem gX9_last_X9_isBy : GoodIn wsX9_last (va_wsS RX9 95 yX9_isBy wsX9_isBy) := goodIn_app (goodIn_of _ (by decide +kernel)) ggX9_last_X9_isBy
set_option maxRecDepth 20000 in
theorem ggX9_last_X9_in : GoodIn wsX9_last wsX9_in := goodIn_r _ [10] (by decide +kernel) (by decide +kernel)
set_option maxRecDepth 20000 in
theorem gX9_last_X9_in : GoodIn wsX9_last (va_wsS RX9 50 yX9_in wsX9_in) := goodIn_app (goodIn_of _ (by decide +kernel)) ggX9_last_X9_in
set_option maxRecDepth 20000 in
theorem ggX9_last_X9_lastOf : GoodIn wsX9_last wsX9_lastOf := goodIn_r _ [14, 15, 16, 17, 18, 19, 20, 5, 21, 1, 22, 23, 24, 25, 26, 27, 28, 29, 30, 31, 32, 33, 34, 35, 36, 37, 38, 39] (by decide +kernel) (by decide +kernel)
set_option maxRecDepth 20000 in
theorem gX9_last_X9_lastOf : GoodIn wsX9_last (wsV RX9 106 RX9 yX9_lastOf wsX9_lastOf) := goodIn_app (goodIn_of _ (by decide +kernel)) ggX9_last_X9_lastOf
theorem dX9_last_0 : decode cX9_last 0 = .ok (.iload_n 1, 1) := by decide +kernel
theorem dX9_last_1 : decode cX9_last 1 = .ok (.invokestatic 95, 3) := by decide +kernel
theorem dX9_last_4 : decode cX9_last 4 = .ok (.ifCond .eq 23, 3) := by decide +kernel
theorem dX9_last_7 : decode cX9_last 7 = .ok (.lload_n 2, 1) := by decide +kernel
theorem dX9_last_8 : decode cX9_last 8 = .ok (.lconst 1, 1) := by decide +kernel
theorem dX9_last_9 : decode cX9_last 9 = .ok (.ldc2_w 48, 3) := by decide +kernel
theorem dX9_last_12 : decode cX9_last 12 = .ok (.invokestatic 50, 3) := by decide +kernel
theorem dX9_last_15 : decode cX9_last 15 = .ok (.ifCond .eq 12, 3) := by decide +kernel
theorem dX9_last_18 : decode cX9_last 18 = .ok (.aload_n 0, 1) := by decide +kernel
theorem dX9_last_19 : decode cX9_last 19 = .ok (.iload_n 1, 1) := by decide +kernel
theorem dX9_last_20 : decode cX9_last 20 = .ok (.lload_n 2, 1) := by decide +kernel
theorem dX9_last_21 : decode cX9_last 21 = .ok (.invokevirtual 106, 3) := by decide +kernel
theorem dX9_last_24 : decode cX9_last 24 = .ok (.goto 6, 3) := by decide +kernel
theorem dX9_last_27 : decode cX9_last 27 = .ok (.ldc2_w 62, 3) := by decide +kernel
theorem dX9_last_30 : decode cX9_last 30 = .ok (.lreturn, 1) := by decide +kernel
set_option maxRecDepth 20000 in
theorem ggX9_isTimes_X9_lastOf : GoodIn wsX9_isTimes wsX9_lastOf := goodIn_r _ [5, 6, 7, 8, 9, 10, 11, 4, 12, 13, 14, 15, 16, 17, 18, 19, 20, 21, 22, 23, 24, 25, 26, 27, 28, 29, 30, 31] (by decide +kernel) (by decide +kernel)
set_option maxRecDepth 20000 in
theorem gX9_isTimes_X9_lastOf : GoodIn wsX9_isTimes (wsV RX9 106 RX9 yX9_lastOf wsX9_lastOf) := goodIn_app (goodIn_of _ (by decide +kernel)) ggX9_isTimes_X9_lastOf
theorem dX9_isTimes_0 : decode cX9_isTimes 0 = .ok (.lload_n 2, 1) := by decide +kernel
theorem dX9_isTimes_1 : decode cX9_isTimes 1 = .ok (.lconst 0, 1) := by decide +kernel
theorem dX9_isTimes_2 : decode cX9_isTimes 2 = .ok (.lcmp, 1) := by decide +kernel
theorem dX9_isTimes_3 : decode cX9_isTimes 3 = .ok (.ifCond .le 19, 3) := by decide +kernel
theorem dX9_isTimes_6 : decode cX9_isTimes 6 = .ok (.lload 4, 2) := by decide +kernel
theorem dX9_isTimes_8 : decode cX9_isTimes 8 = .ok (.aload_n 0, 1) := by decide +kernel
theorem dX9_isTimes_9 : decode cX9_isTimes 9 = .ok (.iload_n 1, 1) := by decide +kernel
theorem dX9_isTimes_10 : decode cX9_isTimes 10 = .ok (.lload_n 2, 1) := by decide +kernel
theorem dX9_isTimes_11 : decode cX9_isTimes 11 = .ok (.invokevirtual 106, 3) := by decide +kernel
theorem dX9_isTimes_14 : decode cX9_isTimes 14 = .ok (.lcmp, 1) := by decide +kernel
theorem dX9_isTimes_15 : decode cX9_isTimes 15 = .ok (.ifCond .lt 7, 3) := by decide +kernel
theorem dX9_isTimes_18 : decode cX9_isTimes 18 = .ok (.iconst 1, 1) := by decide +kernel
theorem dX9_isTimes_19 : decode cX9_isTimes 19 = .ok (.goto 4, 3) := by decide +kernel
theorem dX9_isTimes_22 : decode cX9_isTimes 22 = .ok (.iconst 0, 1) := by decide +kernel
theorem dX9_isTimes_23 : decode cX9_isTimes 23 = .ok (.ireturn, 1) := by decide +kernel
set_option maxRecDepth 20000 in
theorem ggX9_times_X9_isBy : GoodIn wsX9_times wsX9_isBy := goodIn_r _ [4, 5, 6, 7, 3, 8] (by decide +kernel) (by decide +kernel)
set_option maxRecDepth 20000 in
theorem gX9_times_X9_isBy : GoodIn wsX9_times (va_wsS RX9 95 yX9_isBy wsX9_isBy) := goodIn_app (goodIn_of _ (by decide +kernel)) ggX9_times_X9_isBy
set_option maxRecDepth 20000 in
theorem ggX9_times_X9_isHeap : GoodIn wsX9_times wsX9_isHeap := goodIn_r _ [11, 12, 6, 7, 3, 8] (by decide +kernel) (by decide +kernel)
set_option maxRecDepth 20000 in
theorem gX9_times_X9_isHeap : GoodIn wsX9_times (va_wsS RX9 54 yX9_isHeap wsX9_isHeap) := goodIn_app (goodIn_of _ (by decide +kernel)) ggX9_times_X9_isHeap
set_option maxRecDepth 20000 in
theorem ggX9_times_X9_isTimes : GoodIn wsX9_times wsX9_isTimes := goodIn_r _ [16, 17, 18, 19, 3, 20, 21, 22, 23, 24, 25, 26, 27, 12, 28, 29, 30, 31, 32, 33, 34, 35, 36, 37, 38, 39, 40, 41, 42, 43, 44, 45] (by decide +kernel) (by decide +kernel)
set_option maxRecDepth 20000 in
theorem gX9_times_X9_isTimes : GoodIn wsX9_times (wsV RX9 110 RX9 yX9_isTimes wsX9_isTimes) := goodIn_app (goodIn_of _ (by decide +kernel)) ggX9_times_X9_isTimes
theorem dX9_times_0 : decode cX9_times 0 = .ok (.iload_n 1, 1) := by decide +kernel
theorem dX9_times_1 : decode cX9_times 1 = .ok (.invokestatic 95, 3) := by decide +kernel
theorem dX9_times_4 : decode cX9_times 4 = .ok (.ifCond .eq 18, 3) := by decide +kernel
theorem dX9_times_7 : decode cX9_times 7 = .ok (.lload_n 2, 1) := by decide +kernel
theorem dX9_times_8 : decode cX9_times 8 = .ok (.invokestatic 54, 3) := by decide +kernel
theorem dX9_times_11 : decode cX9_times 11 = .ok (.ifCond .eq 11, 3) := by decide +kernel
theorem dX9_times_14 : decode cX9_times 14 = .ok (.lload 4, 2) := by decide +kernel
theorem dX9_times_16 : decode cX9_times 16 = .ok (.invokestatic 54, 3) := by decide +kernel
theorem dX9_times_19 : decode cX9_times 19 = .ok (.ifCond .ne 8, 3) := by decide +kernel
theorem dX9_times_22 : decode cX9_times 22 = .ok (.bipush (-2), 2) := by decide +kernel
theorem dX9_times_24 : decode cX9_times 24 = .ok (.goto 19, 3) := by decide +kernel
theorem dX9_times_27 : decode cX9_times 27 = .ok (.aload_n 0, 1) := by decide +kernel
theorem dX9_times_28 : decode cX9_times 28 = .ok (.iload_n 1, 1) := by decide +kernel
theorem dX9_times_29 : decode cX9_times 29 = .ok (.lload_n 2, 1) := by decide +kernel
theorem dX9_times_30 : decode cX9_times 30 = .ok (.lload 4, 2) := by decide +kernel
theorem dX9_times_32 : decode cX9_times 32 = .ok (.invokevirtual 110, 3) := by decide +kernel
theorem dX9_times_35 : decode cX9_times 35 = .ok (.ifCond .eq 7, 3) := by decide +kernel
theorem dX9_times_38 : decode cX9_times 38 = .ok (.iconst 1, 1) := by decide +kernel
theorem dX9_times_39 : decode cX9_times 39 = .ok (.goto 4, 3) := by decide +kernel
theorem dX9_times_42 : decode cX9_times 42 = .ok (.iconst 0, 1) := by decide +kernel
theorem dX9_times_43 : decode cX9_times 43 = .ok (.ireturn, 1) := by decide +kernel
set_option maxRecDepth 20000 in
theorem ggX9_timesMove_X9_isBy : GoodIn wsX9_timesMove wsX9_isBy := goodIn_r _ [5, 6, 7, 8, 4, 9] (by decide +kernel) (by decide +kernel)
set_option maxRecDepth 20000 in
theorem gX9_timesMove_X9_isBy : GoodIn wsX9_timesMove (va_wsS RX9 95 yX9_isBy wsX9_isBy) := goodIn_app (goodIn_of _ (by decide +kernel)) ggX9_timesMove_X9_isBy
set_option maxRecDepth 20000 in
theorem ggX9_timesMove_X9_isHeap : GoodIn wsX9_timesMove wsX9_isHeap := goodIn_r _ [12, 13, 7, 8, 4, 9] (by decide +kernel) (by decide +kernel)
set_option maxRecDepth 20000 in
theorem gX9_timesMove_X9_isHeap : GoodIn wsX9_timesMove (va_wsS RX9 54 yX9_isHeap wsX9_isHeap) := goodIn_app (goodIn_of _ (by decide +kernel)) ggX9_timesMove_X9_isHeap
set_option maxRecDepth 20000 in
theorem ggX9_timesMove_X9_isTimes : GoodIn wsX9_timesMove wsX9_isTimes := goodIn_r _ [17, 18, 19, 20, 4, 21, 22, 23, 24, 25, 26, 27, 28, 13, 29, 30, 31, 32, 33, 34, 35, 36, 37, 38, 39, 40, 41, 42, 43, 44, 45, 46] (by decide +kernel) (by decide +kernel)
set_option maxRecDepth 20000 in
theorem gX9_timesMove_X9_isTimes : GoodIn wsX9_timesMove (wsV RX9 110 RX9 yX9_isTimes wsX9_isTimes) := goodIn_app (goodIn_of _ (by decide +kernel)) ggX9_timesMove_X9_isTimes
set_option maxRecDepth 20000 in
theorem ggX9_timesMove_X9_lastOf : GoodIn wsX9_timesMove wsX9_lastOf := goodIn_r _ [21, 22, 23, 24, 25, 26, 27, 4, 28, 13, 29, 30, 31, 32, 33, 34, 35, 36, 37, 38, 39, 40, 41, 42, 43, 44, 45, 46] (by decide +kernel) (by decide +kernel)
set_option maxRecDepth 20000 in
theorem gX9_timesMove_X9_lastOf : GoodIn wsX9_timesMove (wsV RX9 106 RX9 yX9_lastOf wsX9_lastOf) := goodIn_app (goodIn_of _ (by decide +kernel)) ggX9_timesMove_X9_lastOf
theorem dX9_timesMove_0 : decode cX9_timesMove 0 = .ok (.iload_n 1, 1) := by decide +kernel
theorem dX9_timesMove_1 : decode cX9_timesMove 1 = .ok (.invokestatic 95, 3) := by decide +kernel
theorem dX9_timesMove_4 : decode cX9_timesMove 4 = .ok (.ifCond .eq 18, 3) := by decide +kernel
theorem dX9_timesMove_7 : decode cX9_timesMove 7 = .ok (.lload_n 2, 1) := by decide +kernel
theorem dX9_timesMove_8 : decode cX9_timesMove 8 = .ok (.invokestatic 54, 3) := by decide +kernel
theorem dX9_timesMove_11 : decode cX9_timesMove 11 = .ok (.ifCond .eq 11, 3) := by decide +kernel
theorem dX9_timesMove_14 : decode cX9_timesMove 14 = .ok (.lload 4, 2) := by decide +kernel
theorem dX9_timesMove_16 : decode cX9_timesMove 16 = .ok (.invokestatic 54, 3) := by decide +kernel
theorem dX9_timesMove_19 : decode cX9_timesMove 19 = .ok (.ifCond .ne 7, 3) := by decide +kernel
theorem dX9_timesMove_22 : decode cX9_timesMove 22 = .ok (.ldc2_w 62, 3) := by decide +kernel
theorem dX9_timesMove_25 : decode cX9_timesMove 25 = .ok (.lreturn, 1) := by decide +kernel
theorem dX9_timesMove_26 : decode cX9_timesMove 26 = .ok (.aload_n 0, 1) := by decide +kernel
theorem dX9_timesMove_27 : decode cX9_timesMove 27 = .ok (.iload_n 1, 1) := by decide +kernel
theorem dX9_timesMove_28 : decode cX9_timesMove 28 = .ok (.lload_n 2, 1) := by decide +kernel
theorem dX9_timesMove_29 : decode cX9_timesMove 29 = .ok (.lload 4, 2) := by decide +kernel
theorem dX9_timesMove_31 : decode cX9_timesMove 31 = .ok (.invokevirtual 110, 3) := by decide +kernel
theorem dX9_timesMove_34 : decode cX9_timesMove 34 = .ok (.ifCond .eq 12, 3) := by decide +kernel
theorem dX9_timesMove_37 : decode cX9_timesMove 37 = .ok (.aload_n 0, 1) := by decide +kernel
theorem dX9_timesMove_38 : decode cX9_timesMove 38 = .ok (.iload_n 1, 1) := by decide +kernel
theorem dX9_timesMove_39 : decode cX9_timesMove 39 = .ok (.lload_n 2, 1) := by decide +kernel
theorem dX9_timesMove_40 : decode cX9_timesMove 40 = .ok (.invokevirtual 106, 3) := by decide +kernel
theorem dX9_timesMove_43 : decode cX9_timesMove 43 = .ok (.goto 4, 3) := by decide +kernel
theorem dX9_timesMove_46 : decode cX9_timesMove 46 = .ok (.lconst 0, 1) := by decide +kernel
theorem dX9_timesMove_47 : decode cX9_timesMove 47 = .ok (.lreturn, 1) := by decide +kernel
set_option maxRecDepth 20000 in
theorem ggX9_wonAt_X9_goShares : GoodIn wsX9_wonAt wsX9_goShares := goodIn_r _ [7, 2, 12, 13, 14, 15, 16, 17, 18, 19, 20, 21, 22, 23, 24, 25, 26, 27, 28, 29] (by decide +kernel) (by decide +kernel)
set_option maxRecDepth 20000 in
theorem gX9_wonAt_X9_goShares : GoodIn wsX9_wonAt (wsV RX9 114 RX9 yX9_goShares wsX9_goShares) := goodIn_app (goodIn_of _ (by decide +kernel)) ggX9_wonAt_X9_goShares
set_option maxRecDepth 20000 in
theorem ggX9_wonAt_X9_goBoth : GoodIn wsX9_wonAt wsX9_goBoth := goodIn_r _ [11, 2, 12, 13, 14, 15, 16, 17, 18, 19, 20, 21, 22, 23, 24, 25, 26, 27, 28, 29] (by decide +kernel) (by decide +kernel)
set_option maxRecDepth 20000 in
theorem gX9_wonAt_X9_goBoth : GoodIn wsX9_wonAt (wsV RX9 118 RX9 yX9_goBoth wsX9_goBoth) := goodIn_app (goodIn_of _ (by decide +kernel)) ggX9_wonAt_X9_goBoth
theorem dX9_wonAt_0 : decode cX9_wonAt 0 = .ok (.iconst 2, 1) := by decide +kernel
theorem dX9_wonAt_1 : decode cX9_wonAt 1 = .ok (.iload_n 1, 1) := by decide +kernel
theorem dX9_wonAt_2 : decode cX9_wonAt 2 = .ok (.imul, 1) := by decide +kernel
theorem dX9_wonAt_3 : decode cX9_wonAt 3 = .ok (.iload_n 2, 1) := by decide +kernel
theorem dX9_wonAt_4 : decode cX9_wonAt 4 = .ok (.ifCond .eq 7, 3) := by decide +kernel
theorem dX9_wonAt_7 : decode cX9_wonAt 7 = .ok (.iconst 1, 1) := by decide +kernel
theorem dX9_wonAt_8 : decode cX9_wonAt 8 = .ok (.goto 4, 3) := by decide +kernel
theorem dX9_wonAt_11 : decode cX9_wonAt 11 = .ok (.iconst 0, 1) := by decide +kernel
theorem dX9_wonAt_12 : decode cX9_wonAt 12 = .ok (.iadd, 1) := by decide +kernel
theorem dX9_wonAt_13 : decode cX9_wonAt 13 = .ok (.istore 5, 2) := by decide +kernel
theorem dX9_wonAt_15 : decode cX9_wonAt 15 = .ok (.aload_n 0, 1) := by decide +kernel
theorem dX9_wonAt_16 : decode cX9_wonAt 16 = .ok (.getfield 20, 3) := by decide +kernel
theorem dX9_wonAt_19 : decode cX9_wonAt 19 = .ok (.iload 5, 2) := by decide +kernel
theorem dX9_wonAt_21 : decode cX9_wonAt 21 = .ok (.baload, 1) := by decide +kernel
theorem dX9_wonAt_22 : decode cX9_wonAt 22 = .ok (.ifCond .ne 92, 3) := by decide +kernel
theorem dX9_wonAt_25 : decode cX9_wonAt 25 = .ok (.aload_n 0, 1) := by decide +kernel
theorem dX9_wonAt_26 : decode cX9_wonAt 26 = .ok (.getfield 20, 3) := by decide +kernel
theorem dX9_wonAt_29 : decode cX9_wonAt 29 = .ok (.iload 5, 2) := by decide +kernel
theorem dX9_wonAt_31 : decode cX9_wonAt 31 = .ok (.iconst 1, 1) := by decide +kernel
theorem dX9_wonAt_32 : decode cX9_wonAt 32 = .ok (.bastore, 1) := by decide +kernel
theorem dX9_wonAt_33 : decode cX9_wonAt 33 = .ok (.iconst 0, 1) := by decide +kernel
theorem dX9_wonAt_34 : decode cX9_wonAt 34 = .ok (.istore 6, 2) := by decide +kernel
theorem dX9_wonAt_36 : decode cX9_wonAt 36 = .ok (.iload 6, 2) := by decide +kernel
theorem dX9_wonAt_38 : decode cX9_wonAt 38 = .ok (.bipush 60, 2) := by decide +kernel
theorem dX9_wonAt_40 : decode cX9_wonAt 40 = .ok (.if_icmp .gt 74, 3) := by decide +kernel
theorem dX9_wonAt_43 : decode cX9_wonAt 43 = .ok (.iconst 0, 1) := by decide +kernel
theorem dX9_wonAt_44 : decode cX9_wonAt 44 = .ok (.istore 7, 2) := by decide +kernel
theorem dX9_wonAt_46 : decode cX9_wonAt 46 = .ok (.iload 7, 2) := by decide +kernel
theorem dX9_wonAt_48 : decode cX9_wonAt 48 = .ok (.bipush 60, 2) := by decide +kernel
theorem dX9_wonAt_50 : decode cX9_wonAt 50 = .ok (.if_icmp .gt 58, 3) := by decide +kernel
theorem dX9_wonAt_53 : decode cX9_wonAt 53 = .ok (.aload_n 0, 1) := by decide +kernel
theorem dX9_wonAt_54 : decode cX9_wonAt 54 = .ok (.getfield 16, 3) := by decide +kernel
theorem dX9_wonAt_57 : decode cX9_wonAt 57 = .ok (.sipush 3721, 3) := by decide +kernel
theorem dX9_wonAt_60 : decode cX9_wonAt 60 = .ok (.iload 5, 2) := by decide +kernel
theorem dX9_wonAt_62 : decode cX9_wonAt 62 = .ok (.imul, 1) := by decide +kernel
theorem dX9_wonAt_63 : decode cX9_wonAt 63 = .ok (.bipush 61, 2) := by decide +kernel
theorem dX9_wonAt_65 : decode cX9_wonAt 65 = .ok (.iload 6, 2) := by decide +kernel
