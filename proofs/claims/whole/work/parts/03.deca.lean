theorem dX0_init_0 : decode cX0_init 0 = .ok (.aload_n 0, 1) := by decide +kernel
theorem dX0_init_1 : decode cX0_init 1 = .ok (.invokespecial 3, 3) := by decide +kernel
theorem dX0_init_4 : decode cX0_init 4 = .ok (.aload_n 0, 1) := by decide +kernel
theorem dX0_init_5 : decode cX0_init 5 = .ok (.aload_n 1, 1) := by decide +kernel
theorem dX0_init_6 : decode cX0_init 6 = .ok (.putfield 9, 3) := by decide +kernel
theorem dX0_init_9 : decode cX0_init 9 = .ok (.return_, 1) := by decide +kernel
set_option maxRecDepth 20000 in
theorem ggX0_isWon_X0_lesserLostAlong : GoodIn wsX0_isWon wsX0_lesserLostAlong := goodIn_r _ [9, 10, 11, 12, 3, 13, 14, 15, 16, 17, 18, 19, 20, 21, 22, 23, 24, 25, 26, 27, 28, 29, 30] (by decide +kernel) (by decide +kernel)
set_option maxRecDepth 20000 in
theorem gX0_isWon_X0_lesserLostAlong : GoodIn wsX0_isWon (wsV RX0 15 RX0 yX0_lesserLostAlong wsX0_lesserLostAlong) := goodIn_app (goodIn_of _ (by decide +kernel)) ggX0_isWon_X0_lesserLostAlong
theorem dX0_isWon_0 : decode cX0_isWon 0 = .ok (.aload_n 0, 1) := by decide +kernel
theorem dX0_isWon_1 : decode cX0_isWon 1 = .ok (.lload_n 1, 1) := by decide +kernel
theorem dX0_isWon_2 : decode cX0_isWon 2 = .ok (.lload_n 3, 1) := by decide +kernel
theorem dX0_isWon_3 : decode cX0_isWon 3 = .ok (.invokevirtual 15, 3) := by decide +kernel
theorem dX0_isWon_6 : decode cX0_isWon 6 = .ok (.lload_n 1, 1) := by decide +kernel
theorem dX0_isWon_7 : decode cX0_isWon 7 = .ok (.lload_n 3, 1) := by decide +kernel
theorem dX0_isWon_8 : decode cX0_isWon 8 = .ok (.invokestatic 19, 3) := by decide +kernel
theorem dX0_isWon_11 : decode cX0_isWon 11 = .ok (.lcmp, 1) := by decide +kernel
theorem dX0_isWon_12 : decode cX0_isWon 12 = .ok (.ifCond .eq 7, 3) := by decide +kernel
theorem dX0_isWon_15 : decode cX0_isWon 15 = .ok (.iconst 1, 1) := by decide +kernel
theorem dX0_isWon_16 : decode cX0_isWon 16 = .ok (.goto 4, 3) := by decide +kernel
theorem dX0_isWon_19 : decode cX0_isWon 19 = .ok (.iconst 0, 1) := by decide +kernel
theorem dX0_isWon_20 : decode cX0_isWon 20 = .ok (.ireturn, 1) := by decide +kernel
set_option maxRecDepth 20000 in
theorem ggX0_whichWins_X1_partnerOf : GoodIn wsX0_whichWins wsX1_partnerOf := goodIn_r _ [10, 11, 12, 13, 9, 14, 15, 16, 17, 18, 19, 20, 21, 22, 23, 24, 25, 26, 27, 28, 29, 30, 41, 42, 43] (by decide +kernel) (by decide +kernel)
set_option maxRecDepth 20000 in
theorem gX0_whichWins_X1_partnerOf : GoodIn wsX0_whichWins (wsV RX0 24 RX1 yX1_partnerOf wsX1_partnerOf) := goodIn_app (goodIn_of _ (by decide +kernel)) ggX0_whichWins_X1_partnerOf
set_option maxRecDepth 20000 in
theorem ggX0_whichWins_X0_lesserLostAlong : GoodIn wsX0_whichWins wsX0_lesserLostAlong := goodIn_r _ [35, 1, 36, 37, 4, 38, 39, 20, 21, 9, 22, 23, 24, 25, 26, 27, 28, 29, 30, 40, 41, 42, 43] (by decide +kernel) (by decide +kernel)
set_option maxRecDepth 20000 in
theorem gX0_whichWins_X0_lesserLostAlong : GoodIn wsX0_whichWins (wsV RX0 15 RX0 yX0_lesserLostAlong wsX0_lesserLostAlong) := goodIn_app (goodIn_of _ (by decide +kernel)) ggX0_whichWins_X0_lesserLostAlong
theorem dX0_whichWins_0 : decode cX0_whichWins 0 = .ok (.aload_n 0, 1) := by decide +kernel
theorem dX0_whichWins_1 : decode cX0_whichWins 1 = .ok (.getfield 9, 3) := by decide +kernel
theorem dX0_whichWins_4 : decode cX0_whichWins 4 = .ok (.lload_n 3, 1) := by decide +kernel
theorem dX0_whichWins_5 : decode cX0_whichWins 5 = .ok (.invokevirtual 24, 3) := by decide +kernel
theorem dX0_whichWins_8 : decode cX0_whichWins 8 = .ok (.lload_n 1, 1) := by decide +kernel
theorem dX0_whichWins_9 : decode cX0_whichWins 9 = .ok (.lcmp, 1) := by decide +kernel
theorem dX0_whichWins_10 : decode cX0_whichWins 10 = .ok (.ifCond .ge 5, 3) := by decide +kernel
theorem dX0_whichWins_13 : decode cX0_whichWins 13 = .ok (.iconst 0, 1) := by decide +kernel
theorem dX0_whichWins_14 : decode cX0_whichWins 14 = .ok (.ireturn, 1) := by decide +kernel
theorem dX0_whichWins_15 : decode cX0_whichWins 15 = .ok (.aload_n 0, 1) := by decide +kernel
theorem dX0_whichWins_16 : decode cX0_whichWins 16 = .ok (.getfield 9, 3) := by decide +kernel
theorem dX0_whichWins_19 : decode cX0_whichWins 19 = .ok (.lload_n 1, 1) := by decide +kernel
theorem dX0_whichWins_20 : decode cX0_whichWins 20 = .ok (.invokevirtual 24, 3) := by decide +kernel
theorem dX0_whichWins_23 : decode cX0_whichWins 23 = .ok (.lload_n 3, 1) := by decide +kernel
theorem dX0_whichWins_24 : decode cX0_whichWins 24 = .ok (.lcmp, 1) := by decide +kernel
theorem dX0_whichWins_25 : decode cX0_whichWins 25 = .ok (.ifCond .ge 5, 3) := by decide +kernel
theorem dX0_whichWins_28 : decode cX0_whichWins 28 = .ok (.iconst 1, 1) := by decide +kernel
theorem dX0_whichWins_29 : decode cX0_whichWins 29 = .ok (.ireturn, 1) := by decide +kernel
theorem dX0_whichWins_30 : decode cX0_whichWins 30 = .ok (.aload_n 0, 1) := by decide +kernel
theorem dX0_whichWins_31 : decode cX0_whichWins 31 = .ok (.lload_n 1, 1) := by decide +kernel
theorem dX0_whichWins_32 : decode cX0_whichWins 32 = .ok (.lload_n 3, 1) := by decide +kernel
theorem dX0_whichWins_33 : decode cX0_whichWins 33 = .ok (.invokevirtual 15, 3) := by decide +kernel
theorem dX0_whichWins_36 : decode cX0_whichWins 36 = .ok (.lload_n 1, 1) := by decide +kernel
theorem dX0_whichWins_37 : decode cX0_whichWins 37 = .ok (.lload_n 3, 1) := by decide +kernel
theorem dX0_whichWins_38 : decode cX0_whichWins 38 = .ok (.invokestatic 19, 3) := by decide +kernel
theorem dX0_whichWins_41 : decode cX0_whichWins 41 = .ok (.lcmp, 1) := by decide +kernel
theorem dX0_whichWins_42 : decode cX0_whichWins 42 = .ok (.ifCond .ge 7, 3) := by decide +kernel
theorem dX0_whichWins_45 : decode cX0_whichWins 45 = .ok (.iconst 2, 1) := by decide +kernel
theorem dX0_whichWins_46 : decode cX0_whichWins 46 = .ok (.goto 4, 3) := by decide +kernel
theorem dX0_whichWins_49 : decode cX0_whichWins 49 = .ok (.iconst (-1), 1) := by decide +kernel
theorem dX0_whichWins_50 : decode cX0_whichWins 50 = .ok (.ireturn, 1) := by decide +kernel
set_option maxRecDepth 20000 in
theorem ggX0_howMany_X1_partnerOf : GoodIn wsX0_howMany wsX1_partnerOf := goodIn_r _ [10, 11, 12, 13, 9, 14, 15, 16, 17, 18, 19, 20, 21, 22, 23, 24, 25, 26, 27, 28, 29, 30, 41, 42, 43] (by decide +kernel) (by decide +kernel)
set_option maxRecDepth 20000 in
theorem gX0_howMany_X1_partnerOf : GoodIn wsX0_howMany (wsV RX0 24 RX1 yX1_partnerOf wsX1_partnerOf) := goodIn_app (goodIn_of _ (by decide +kernel)) ggX0_howMany_X1_partnerOf
set_option maxRecDepth 20000 in
theorem ggX0_howMany_X0_lesserLostAlong : GoodIn wsX0_howMany wsX0_lesserLostAlong := goodIn_r _ [35, 1, 36, 37, 4, 38, 39, 20, 21, 9, 22, 23, 24, 25, 26, 27, 28, 29, 30, 40, 41, 42, 43] (by decide +kernel) (by decide +kernel)
set_option maxRecDepth 20000 in
theorem gX0_howMany_X0_lesserLostAlong : GoodIn wsX0_howMany (wsV RX0 15 RX0 yX0_lesserLostAlong wsX0_lesserLostAlong) := goodIn_app (goodIn_of _ (by decide +kernel)) ggX0_howMany_X0_lesserLostAlong
theorem dX0_howMany_0 : decode cX0_howMany 0 = .ok (.iload 5, 2) := by decide +kernel
theorem dX0_howMany_2 : decode cX0_howMany 2 = .ok (.tableswitch 61 0 2 #[26, 37, 48], 26) := by decide +kernel
theorem dX0_howMany_28 : decode cX0_howMany 28 = .ok (.lload_n 1, 1) := by decide +kernel
theorem dX0_howMany_29 : decode cX0_howMany 29 = .ok (.aload_n 0, 1) := by decide +kernel
theorem dX0_howMany_30 : decode cX0_howMany 30 = .ok (.getfield 9, 3) := by decide +kernel
theorem dX0_howMany_33 : decode cX0_howMany 33 = .ok (.lload_n 3, 1) := by decide +kernel
theorem dX0_howMany_34 : decode cX0_howMany 34 = .ok (.invokevirtual 24, 3) := by decide +kernel
theorem dX0_howMany_37 : decode cX0_howMany 37 = .ok (.lsub, 1) := by decide +kernel
theorem dX0_howMany_38 : decode cX0_howMany 38 = .ok (.lreturn, 1) := by decide +kernel
theorem dX0_howMany_39 : decode cX0_howMany 39 = .ok (.lload_n 3, 1) := by decide +kernel
theorem dX0_howMany_40 : decode cX0_howMany 40 = .ok (.aload_n 0, 1) := by decide +kernel
theorem dX0_howMany_41 : decode cX0_howMany 41 = .ok (.getfield 9, 3) := by decide +kernel
theorem dX0_howMany_44 : decode cX0_howMany 44 = .ok (.lload_n 1, 1) := by decide +kernel
theorem dX0_howMany_45 : decode cX0_howMany 45 = .ok (.invokevirtual 24, 3) := by decide +kernel
theorem dX0_howMany_48 : decode cX0_howMany 48 = .ok (.lsub, 1) := by decide +kernel
theorem dX0_howMany_49 : decode cX0_howMany 49 = .ok (.lreturn, 1) := by decide +kernel
theorem dX0_howMany_50 : decode cX0_howMany 50 = .ok (.lload_n 1, 1) := by decide +kernel
theorem dX0_howMany_51 : decode cX0_howMany 51 = .ok (.lload_n 3, 1) := by decide +kernel
theorem dX0_howMany_52 : decode cX0_howMany 52 = .ok (.invokestatic 19, 3) := by decide +kernel
theorem dX0_howMany_55 : decode cX0_howMany 55 = .ok (.aload_n 0, 1) := by decide +kernel
theorem dX0_howMany_56 : decode cX0_howMany 56 = .ok (.lload_n 1, 1) := by decide +kernel
theorem dX0_howMany_57 : decode cX0_howMany 57 = .ok (.lload_n 3, 1) := by decide +kernel
theorem dX0_howMany_58 : decode cX0_howMany 58 = .ok (.invokevirtual 15, 3) := by decide +kernel
theorem dX0_howMany_61 : decode cX0_howMany 61 = .ok (.lsub, 1) := by decide +kernel
theorem dX0_howMany_62 : decode cX0_howMany 62 = .ok (.lreturn, 1) := by decide +kernel
theorem dX0_howMany_63 : decode cX0_howMany 63 = .ok (.lconst 0, 1) := by decide +kernel
theorem dX0_howMany_64 : decode cX0_howMany 64 = .ok (.lreturn, 1) := by decide +kernel
set_option maxRecDepth 20000 in
theorem ggX0_lesserLostAlong_X1_cut : GoodIn wsX0_lesserLostAlong wsX1_cut := goodIn_r _ [10, 11, 12, 13, 14, 15, 16, 17, 18, 20, 21, 22] (by decide +kernel) (by decide +kernel)
set_option maxRecDepth 20000 in
theorem gX0_lesserLostAlong_X1_cut : GoodIn wsX0_lesserLostAlong (wsV RX0 33 RX1 yX1_cut wsX1_cut) := goodIn_app (goodIn_of _ (by decide +kernel)) ggX0_lesserLostAlong_X1_cut
theorem dX0_lesserLostAlong_0 : decode cX0_lesserLostAlong 0 = .ok (.aload_n 0, 1) := by decide +kernel
theorem dX0_lesserLostAlong_1 : decode cX0_lesserLostAlong 1 = .ok (.getfield 9, 3) := by decide +kernel
theorem dX0_lesserLostAlong_4 : decode cX0_lesserLostAlong 4 = .ok (.lload_n 1, 1) := by decide +kernel
theorem dX0_lesserLostAlong_5 : decode cX0_lesserLostAlong 5 = .ok (.lload_n 3, 1) := by decide +kernel
theorem dX0_lesserLostAlong_6 : decode cX0_lesserLostAlong 6 = .ok (.lsub, 1) := by decide +kernel
theorem dX0_lesserLostAlong_7 : decode cX0_lesserLostAlong 7 = .ok (.invokestatic 30, 3) := by decide +kernel
theorem dX0_lesserLostAlong_10 : decode cX0_lesserLostAlong 10 = .ok (.invokevirtual 33, 3) := by decide +kernel
theorem dX0_lesserLostAlong_13 : decode cX0_lesserLostAlong 13 = .ok (.lreturn, 1) := by decide +kernel
theorem dX1_init_0 : decode cX1_init 0 = .ok (.aload_n 0, 1) := by decide +kernel
theorem dX1_init_1 : decode cX1_init 1 = .ok (.invokespecial 1, 3) := by decide +kernel
theorem dX1_init_4 : decode cX1_init 4 = .ok (.aload_n 0, 1) := by decide +kernel
theorem dX1_init_5 : decode cX1_init 5 = .ok (.aload_n 1, 1) := by decide +kernel
theorem dX1_init_6 : decode cX1_init 6 = .ok (.putfield 7, 3) := by decide +kernel
theorem dX1_init_9 : decode cX1_init 9 = .ok (.return_, 1) := by decide +kernel
set_option maxRecDepth 20000 in
theorem ggX1_cut_X6_raised : GoodIn wsX1_cut wsX6_raised := goodIn_r _ [6, 7, 8, 10, 11] (by decide +kernel) (by decide +kernel)
set_option maxRecDepth 20000 in
theorem gX1_cut_X6_raised : GoodIn wsX1_cut (wsV RX1 13 RX6 yX6_raised wsX6_raised) := goodIn_app (goodIn_of _ (by decide +kernel)) ggX1_cut_X6_raised
theorem dX1_cut_0 : decode cX1_cut 0 = .ok (.lload_n 1, 1) := by decide +kernel
theorem dX1_cut_1 : decode cX1_cut 1 = .ok (.lconst 0, 1) := by decide +kernel
theorem dX1_cut_2 : decode cX1_cut 2 = .ok (.lcmp, 1) := by decide +kernel
theorem dX1_cut_3 : decode cX1_cut 3 = .ok (.ifCond .gt 7, 3) := by decide +kernel
theorem dX1_cut_6 : decode cX1_cut 6 = .ok (.lconst 0, 1) := by decide +kernel
theorem dX1_cut_7 : decode cX1_cut 7 = .ok (.goto 15, 3) := by decide +kernel
theorem dX1_cut_10 : decode cX1_cut 10 = .ok (.lconst 1, 1) := by decide +kernel
theorem dX1_cut_11 : decode cX1_cut 11 = .ok (.aload_n 0, 1) := by decide +kernel
theorem dX1_cut_12 : decode cX1_cut 12 = .ok (.getfield 7, 3) := by decide +kernel
theorem dX1_cut_15 : decode cX1_cut 15 = .ok (.lload_n 1, 1) := by decide +kernel
theorem dX1_cut_16 : decode cX1_cut 16 = .ok (.lconst 1, 1) := by decide +kernel
theorem dX1_cut_17 : decode cX1_cut 17 = .ok (.lsub, 1) := by decide +kernel
theorem dX1_cut_18 : decode cX1_cut 18 = .ok (.invokevirtual 13, 3) := by decide +kernel
theorem dX1_cut_21 : decode cX1_cut 21 = .ok (.ladd, 1) := by decide +kernel
theorem dX1_cut_22 : decode cX1_cut 22 = .ok (.lreturn, 1) := by decide +kernel
set_option maxRecDepth 20000 in
theorem ggX1_isLesser_X1_indexIfLesser : GoodIn wsX1_isLesser wsX1_indexIfLesser := goodIn_r _ [5, 6, 7, 8, 4, 9, 10, 11, 12, 13, 14, 15, 16, 17, 18, 19, 20] (by decide +kernel) (by decide +kernel)
set_option maxRecDepth 20000 in
theorem gX1_isLesser_X1_indexIfLesser : GoodIn wsX1_isLesser (wsV RX1 19 RX1 yX1_indexIfLesser wsX1_indexIfLesser) := goodIn_app (goodIn_of _ (by decide +kernel)) ggX1_isLesser_X1_indexIfLesser
set_option maxRecDepth 20000 in
theorem ggX1_isLesser_X1_cut : GoodIn wsX1_isLesser wsX1_cut := goodIn_r _ [9, 10, 11, 12, 13, 14, 15, 16, 17, 18, 19, 20] (by decide +kernel) (by decide +kernel)
set_option maxRecDepth 20000 in
theorem gX1_isLesser_X1_cut : GoodIn wsX1_isLesser (wsV RX1 22 RX1 yX1_cut wsX1_cut) := goodIn_app (goodIn_of _ (by decide +kernel)) ggX1_isLesser_X1_cut
theorem dX1_isLesser_0 : decode cX1_isLesser 0 = .ok (.aload_n 0, 1) := by decide +kernel
theorem dX1_isLesser_1 : decode cX1_isLesser 1 = .ok (.aload_n 0, 1) := by decide +kernel
theorem dX1_isLesser_2 : decode cX1_isLesser 2 = .ok (.lload_n 1, 1) := by decide +kernel
theorem dX1_isLesser_3 : decode cX1_isLesser 3 = .ok (.invokevirtual 19, 3) := by decide +kernel
theorem dX1_isLesser_6 : decode cX1_isLesser 6 = .ok (.invokevirtual 22, 3) := by decide +kernel
theorem dX1_isLesser_9 : decode cX1_isLesser 9 = .ok (.lload_n 1, 1) := by decide +kernel
theorem dX1_isLesser_10 : decode cX1_isLesser 10 = .ok (.lcmp, 1) := by decide +kernel
theorem dX1_isLesser_11 : decode cX1_isLesser 11 = .ok (.ifCond .ne 7, 3) := by decide +kernel
theorem dX1_isLesser_14 : decode cX1_isLesser 14 = .ok (.iconst 1, 1) := by decide +kernel
theorem dX1_isLesser_15 : decode cX1_isLesser 15 = .ok (.goto 4, 3) := by decide +kernel
theorem dX1_isLesser_18 : decode cX1_isLesser 18 = .ok (.iconst 0, 1) := by decide +kernel
theorem dX1_isLesser_19 : decode cX1_isLesser 19 = .ok (.ireturn, 1) := by decide +kernel
set_option maxRecDepth 20000 in
theorem ggX1_indexOf_X1_isLesser : GoodIn wsX1_indexOf wsX1_isLesser := goodIn_r _ [6, 7, 8, 9, 5, 10, 11, 12, 13, 14, 15, 16, 17, 18, 19, 20, 21, 22, 23, 24, 25] (by decide +kernel) (by decide +kernel)
set_option maxRecDepth 20000 in
theorem gX1_indexOf_X1_isLesser : GoodIn wsX1_indexOf (wsV RX1 25 RX1 yX1_isLesser wsX1_isLesser) := goodIn_app (goodIn_of _ (by decide +kernel)) ggX1_indexOf_X1_isLesser
set_option maxRecDepth 20000 in
theorem ggX1_indexOf_X1_indexIfLesser : GoodIn wsX1_indexOf wsX1_indexIfLesser := goodIn_r _ [10, 11, 12, 13, 5, 14, 15, 16, 17, 18, 19, 20, 21, 22, 23, 24, 25] (by decide +kernel) (by decide +kernel)
set_option maxRecDepth 20000 in
theorem gX1_indexOf_X1_indexIfLesser : GoodIn wsX1_indexOf (wsV RX1 19 RX1 yX1_indexIfLesser wsX1_indexIfLesser) := goodIn_app (goodIn_of _ (by decide +kernel)) ggX1_indexOf_X1_indexIfLesser
set_option maxRecDepth 20000 in
theorem ggX1_indexOf_X1_cut : GoodIn wsX1_indexOf wsX1_cut := goodIn_r _ [14, 15, 16, 17, 18, 19, 20, 21, 22, 23, 24, 25] (by decide +kernel) (by decide +kernel)
set_option maxRecDepth 20000 in
theorem gX1_indexOf_X1_cut : GoodIn wsX1_indexOf (wsV RX1 22 RX1 yX1_cut wsX1_cut) := goodIn_app (goodIn_of _ (by decide +kernel)) ggX1_indexOf_X1_cut
theorem dX1_indexOf_0 : decode cX1_indexOf 0 = .ok (.aload_n 0, 1) := by decide +kernel
theorem dX1_indexOf_1 : decode cX1_indexOf 1 = .ok (.lload_n 1, 1) := by decide +kernel
theorem dX1_indexOf_2 : decode cX1_indexOf 2 = .ok (.invokevirtual 25, 3) := by decide +kernel
theorem dX1_indexOf_5 : decode cX1_indexOf 5 = .ok (.ifCond .eq 11, 3) := by decide +kernel
theorem dX1_indexOf_8 : decode cX1_indexOf 8 = .ok (.aload_n 0, 1) := by decide +kernel
theorem dX1_indexOf_9 : decode cX1_indexOf 9 = .ok (.lload_n 1, 1) := by decide +kernel
theorem dX1_indexOf_10 : decode cX1_indexOf 10 = .ok (.invokevirtual 19, 3) := by decide +kernel
theorem dX1_indexOf_13 : decode cX1_indexOf 13 = .ok (.goto 14, 3) := by decide +kernel
theorem dX1_indexOf_16 : decode cX1_indexOf 16 = .ok (.ldc2_w 29, 3) := by decide +kernel
theorem dX1_indexOf_19 : decode cX1_indexOf 19 = .ok (.lload_n 1, 1) := by decide +kernel
theorem dX1_indexOf_20 : decode cX1_indexOf 20 = .ok (.lmul, 1) := by decide +kernel
theorem dX1_indexOf_21 : decode cX1_indexOf 21 = .ok (.aload_n 0, 1) := by decide +kernel
theorem dX1_indexOf_22 : decode cX1_indexOf 22 = .ok (.lload_n 1, 1) := by decide +kernel
theorem dX1_indexOf_23 : decode cX1_indexOf 23 = .ok (.invokevirtual 22, 3) := by decide +kernel
theorem dX1_indexOf_26 : decode cX1_indexOf 26 = .ok (.lsub, 1) := by decide +kernel
theorem dX1_indexOf_27 : decode cX1_indexOf 27 = .ok (.lreturn, 1) := by decide +kernel
set_option maxRecDepth 20000 in
theorem ggX1_partnerOf_X1_isLesser : GoodIn wsX1_partnerOf wsX1_isLesser := goodIn_r _ [5, 6, 7, 8, 4, 9, 10, 11, 12, 13, 14, 15, 16, 17, 18, 19, 20, 21, 22, 23, 24] (by decide +kernel) (by decide +kernel)
set_option maxRecDepth 20000 in
theorem gX1_partnerOf_X1_isLesser : GoodIn wsX1_partnerOf (wsV RX1 25 RX1 yX1_isLesser wsX1_isLesser) := goodIn_app (goodIn_of _ (by decide +kernel)) ggX1_partnerOf_X1_isLesser
set_option maxRecDepth 20000 in
theorem ggX1_partnerOf_X1_indexIfLesser : GoodIn wsX1_partnerOf wsX1_indexIfLesser := goodIn_r _ [9, 10, 11, 12, 4, 13, 14, 15, 16, 17, 18, 19, 20, 21, 22, 23, 24] (by decide +kernel) (by decide +kernel)
set_option maxRecDepth 20000 in
theorem gX1_partnerOf_X1_indexIfLesser : GoodIn wsX1_partnerOf (wsV RX1 19 RX1 yX1_indexIfLesser wsX1_indexIfLesser) := goodIn_app (goodIn_of _ (by decide +kernel)) ggX1_partnerOf_X1_indexIfLesser
set_option maxRecDepth 20000 in
theorem ggX1_partnerOf_X1_cut : GoodIn wsX1_partnerOf wsX1_cut := goodIn_r _ [13, 14, 15, 16, 17, 18, 19, 20, 21, 22, 23, 24] (by decide +kernel) (by decide +kernel)
set_option maxRecDepth 20000 in
theorem gX1_partnerOf_X1_cut : GoodIn wsX1_partnerOf (wsV RX1 22 RX1 yX1_cut wsX1_cut) := goodIn_app (goodIn_of _ (by decide +kernel)) ggX1_partnerOf_X1_cut
theorem dX1_partnerOf_0 : decode cX1_partnerOf 0 = .ok (.aload_n 0, 1) := by decide +kernel
theorem dX1_partnerOf_1 : decode cX1_partnerOf 1 = .ok (.lload_n 1, 1) := by decide +kernel
theorem dX1_partnerOf_2 : decode cX1_partnerOf 2 = .ok (.invokevirtual 25, 3) := by decide +kernel
theorem dX1_partnerOf_5 : decode cX1_partnerOf 5 = .ok (.ifCond .eq 13, 3) := by decide +kernel
theorem dX1_partnerOf_8 : decode cX1_partnerOf 8 = .ok (.lload_n 1, 1) := by decide +kernel
theorem dX1_partnerOf_9 : decode cX1_partnerOf 9 = .ok (.aload_n 0, 1) := by decide +kernel
theorem dX1_partnerOf_10 : decode cX1_partnerOf 10 = .ok (.lload_n 1, 1) := by decide +kernel
theorem dX1_partnerOf_11 : decode cX1_partnerOf 11 = .ok (.invokevirtual 19, 3) := by decide +kernel
theorem dX1_partnerOf_14 : decode cX1_partnerOf 14 = .ok (.ladd, 1) := by decide +kernel
theorem dX1_partnerOf_15 : decode cX1_partnerOf 15 = .ok (.goto 10, 3) := by decide +kernel
theorem dX1_partnerOf_18 : decode cX1_partnerOf 18 = .ok (.aload_n 0, 1) := by decide +kernel
theorem dX1_partnerOf_19 : decode cX1_partnerOf 19 = .ok (.lload_n 1, 1) := by decide +kernel
theorem dX1_partnerOf_20 : decode cX1_partnerOf 20 = .ok (.invokevirtual 22, 3) := by decide +kernel
theorem dX1_partnerOf_23 : decode cX1_partnerOf 23 = .ok (.lload_n 1, 1) := by decide +kernel
theorem dX1_partnerOf_24 : decode cX1_partnerOf 24 = .ok (.lsub, 1) := by decide +kernel
theorem dX1_partnerOf_25 : decode cX1_partnerOf 25 = .ok (.lreturn, 1) := by decide +kernel
set_option maxRecDepth 20000 in
theorem ggX1_indexIfLesser_X1_cut : GoodIn wsX1_indexIfLesser wsX1_cut := goodIn_r _ [5, 6, 7, 8, 9, 10, 11, 12, 13, 14, 15, 16] (by decide +kernel) (by decide +kernel)
set_option maxRecDepth 20000 in
theorem gX1_indexIfLesser_X1_cut : GoodIn wsX1_indexIfLesser (wsV RX1 22 RX1 yX1_cut wsX1_cut) := goodIn_app (goodIn_of _ (by decide +kernel)) ggX1_indexIfLesser_X1_cut
theorem dX1_indexIfLesser_0 : decode cX1_indexIfLesser 0 = .ok (.lload_n 1, 1) := by decide +kernel
theorem dX1_indexIfLesser_1 : decode cX1_indexIfLesser 1 = .ok (.lconst 0, 1) := by decide +kernel
theorem dX1_indexIfLesser_2 : decode cX1_indexIfLesser 2 = .ok (.lcmp, 1) := by decide +kernel
theorem dX1_indexIfLesser_3 : decode cX1_indexIfLesser 3 = .ok (.ifCond .gt 7, 3) := by decide +kernel
theorem dX1_indexIfLesser_6 : decode cX1_indexIfLesser 6 = .ok (.lconst 0, 1) := by decide +kernel
theorem dX1_indexIfLesser_7 : decode cX1_indexIfLesser 7 = .ok (.goto 12, 3) := by decide +kernel
theorem dX1_indexIfLesser_10 : decode cX1_indexIfLesser 10 = .ok (.aload_n 0, 1) := by decide +kernel
theorem dX1_indexIfLesser_11 : decode cX1_indexIfLesser 11 = .ok (.lload_n 1, 1) := by decide +kernel
theorem dX1_indexIfLesser_12 : decode cX1_indexIfLesser 12 = .ok (.invokevirtual 22, 3) := by decide +kernel
theorem dX1_indexIfLesser_15 : decode cX1_indexIfLesser 15 = .ok (.lload_n 1, 1) := by decide +kernel
theorem dX1_indexIfLesser_16 : decode cX1_indexIfLesser 16 = .ok (.lsub, 1) := by decide +kernel
theorem dX1_indexIfLesser_17 : decode cX1_indexIfLesser 17 = .ok (.lconst 1, 1) := by decide +kernel
theorem dX1_indexIfLesser_18 : decode cX1_indexIfLesser 18 = .ok (.ladd, 1) := by decide +kernel
theorem dX1_indexIfLesser_19 : decode cX1_indexIfLesser 19 = .ok (.lreturn, 1) := by decide +kernel
set_option maxRecDepth 20000 in
theorem ggX2_init_X7_init : GoodIn wsX2_init wsX7_init := goodIn_r _ [23, 24, 2, 3, 25, 26, 61] (by decide +kernel) (by decide +kernel)
set_option maxRecDepth 20000 in
theorem gX2_init_X7_init_n19 : GoodIn wsX2_init (wsX7_init) := ggX2_init_X7_init
set_option maxRecDepth 20000 in
theorem ggX2_init_X7_sumsBy : GoodIn wsX2_init wsX7_sumsBy := goodIn_r _ [30, 26, 25, 31, 32, 33, 34, 35, 36, 2, 3, 37, 38, 39, 40, 61, 65, 66] (by decide +kernel) (by decide +kernel)
set_option maxRecDepth 20000 in
theorem gX2_init_X7_sumsBy : GoodIn wsX2_init (wsV RX2 26 RX7 yX7_sumsBy wsX7_sumsBy) := goodIn_app (goodIn_of _ (by decide +kernel)) ggX2_init_X7_sumsBy
set_option maxRecDepth 20000 in
theorem ggX2_init_X1_init : GoodIn wsX2_init wsX1_init := goodIn_r _ [43, 44, 2, 3, 45, 62] (by decide +kernel) (by decide +kernel)
set_option maxRecDepth 20000 in
theorem gX2_init_X1_init : GoodIn wsX2_init (wsX1_init) := ggX2_init_X1_init
set_option maxRecDepth 20000 in
theorem ggX2_init_X5_init : GoodIn wsX2_init wsX5_init := goodIn_r _ [48, 49, 2, 3, 50, 63] (by decide +kernel) (by decide +kernel)
set_option maxRecDepth 20000 in
theorem gX2_init_X5_init : GoodIn wsX2_init (wsX5_init) := ggX2_init_X5_init
set_option maxRecDepth 20000 in
theorem ggX2_init_X0_init : GoodIn wsX2_init wsX0_init := goodIn_r _ [53, 54, 2, 3, 55, 64] (by decide +kernel) (by decide +kernel)
set_option maxRecDepth 20000 in
theorem gX2_init_X0_init : GoodIn wsX2_init (wsX0_init) := ggX2_init_X0_init
theorem dX2_init_0 : decode cX2_init 0 = .ok (.aload_n 0, 1) := by decide +kernel
theorem dX2_init_1 : decode cX2_init 1 = .ok (.invokespecial 3, 3) := by decide +kernel
theorem dX2_init_4 : decode cX2_init 4 = .ok (.aload_n 0, 1) := by decide +kernel
theorem dX2_init_5 : decode cX2_init 5 = .ok (.bipush 8, 2) := by decide +kernel
theorem dX2_init_7 : decode cX2_init 7 = .ok (.anewarray 9, 3) := by decide +kernel
theorem dX2_init_10 : decode cX2_init 10 = .ok (.putfield 11, 3) := by decide +kernel
theorem dX2_init_13 : decode cX2_init 13 = .ok (.aload_n 0, 1) := by decide +kernel
theorem dX2_init_14 : decode cX2_init 14 = .ok (.new 17, 3) := by decide +kernel
theorem dX2_init_17 : decode cX2_init 17 = .ok (.dup, 1) := by decide +kernel
theorem dX2_init_18 : decode cX2_init 18 = .ok (.invokespecial 19, 3) := by decide +kernel
theorem dX2_init_21 : decode cX2_init 21 = .ok (.putfield 20, 3) := by decide +kernel
theorem dX2_init_24 : decode cX2_init 24 = .ok (.aload_n 0, 1) := by decide +kernel
theorem dX2_init_25 : decode cX2_init 25 = .ok (.new 24, 3) := by decide +kernel
theorem dX2_init_28 : decode cX2_init 28 = .ok (.dup, 1) := by decide +kernel
theorem dX2_init_29 : decode cX2_init 29 = .ok (.aload_n 0, 1) := by decide +kernel
theorem dX2_init_30 : decode cX2_init 30 = .ok (.getfield 20, 3) := by decide +kernel
theorem dX2_init_33 : decode cX2_init 33 = .ok (.iconst 2, 1) := by decide +kernel
theorem dX2_init_34 : decode cX2_init 34 = .ok (.invokevirtual 26, 3) := by decide +kernel
theorem dX2_init_37 : decode cX2_init 37 = .ok (.invokespecial 30, 3) := by decide +kernel
theorem dX2_init_40 : decode cX2_init 40 = .ok (.putfield 33, 3) := by decide +kernel
theorem dX2_init_43 : decode cX2_init 43 = .ok (.aload_n 0, 1) := by decide +kernel
theorem dX2_init_44 : decode cX2_init 44 = .ok (.new 37, 3) := by decide +kernel
theorem dX2_init_47 : decode cX2_init 47 = .ok (.dup, 1) := by decide +kernel
theorem dX2_init_48 : decode cX2_init 48 = .ok (.aload_n 0, 1) := by decide +kernel
theorem dX2_init_49 : decode cX2_init 49 = .ok (.getfield 33, 3) := by decide +kernel
theorem dX2_init_52 : decode cX2_init 52 = .ok (.invokespecial 39, 3) := by decide +kernel
theorem dX2_init_55 : decode cX2_init 55 = .ok (.putfield 42, 3) := by decide +kernel
theorem dX2_init_58 : decode cX2_init 58 = .ok (.aload_n 0, 1) := by decide +kernel
theorem dX2_init_59 : decode cX2_init 59 = .ok (.new 46, 3) := by decide +kernel
theorem dX2_init_62 : decode cX2_init 62 = .ok (.dup, 1) := by decide +kernel
theorem dX2_init_63 : decode cX2_init 63 = .ok (.aload_n 0, 1) := by decide +kernel
theorem dX2_init_64 : decode cX2_init 64 = .ok (.getfield 33, 3) := by decide +kernel
theorem dX2_init_67 : decode cX2_init 67 = .ok (.invokespecial 48, 3) := by decide +kernel
theorem dX2_init_70 : decode cX2_init 70 = .ok (.putfield 49, 3) := by decide +kernel
theorem dX2_init_73 : decode cX2_init 73 = .ok (.return_, 1) := by decide +kernel
set_option maxRecDepth 20000 in
theorem ggX2_tableOf_X8_isWithin : GoodIn wsX2_tableOf wsX8_isWithin := goodIn_r _ [8] (by decide +kernel) (by decide +kernel)
set_option maxRecDepth 20000 in
theorem gX2_tableOf_X8_isWithin_n55 : GoodIn wsX2_tableOf (wsX8_isWithin) := ggX2_tableOf_X8_isWithin
set_option maxRecDepth 20000 in
theorem ggX2_tableOf_X8_oneIf : GoodIn wsX2_tableOf wsX8_oneIf := goodIn_r _ [10] (by decide +kernel) (by decide +kernel)
set_option maxRecDepth 20000 in
theorem gX2_tableOf_X8_oneIf_n59 : GoodIn wsX2_tableOf (wsX8_oneIf) := ggX2_tableOf_X8_oneIf
set_option maxRecDepth 20000 in
theorem ggX2_tableOf_X3_init : GoodIn wsX2_tableOf wsX3_init := goodIn_r _ [13, 14, 15, 16, 17, 18, 19, 20, 21, 5, 22, 23, 24, 25, 26, 27, 28, 29, 30, 31, 32, 33, 34, 35, 36, 37, 38, 39, 40, 41, 42, 43, 44, 45, 51, 52] (by decide +kernel) (by decide +kernel)
set_option maxRecDepth 20000 in
theorem gX2_tableOf_X3_init : GoodIn wsX2_tableOf (wsX3_init) := ggX2_tableOf_X3_init
theorem dX2_tableOf_0 : decode cX2_tableOf 0 = .ok (.iconst 2, 1) := by decide +kernel
theorem dX2_tableOf_1 : decode cX2_tableOf 1 = .ok (.iload_n 1, 1) := by decide +kernel
theorem dX2_tableOf_2 : decode cX2_tableOf 2 = .ok (.i2l, 1) := by decide +kernel
theorem dX2_tableOf_3 : decode cX2_tableOf 3 = .ok (.lconst 0, 1) := by decide +kernel
theorem dX2_tableOf_4 : decode cX2_tableOf 4 = .ok (.ldc2_w 53, 3) := by decide +kernel
theorem dX2_tableOf_7 : decode cX2_tableOf 7 = .ok (.invokestatic 55, 3) := by decide +kernel
theorem dX2_tableOf_10 : decode cX2_tableOf 10 = .ok (.ifCond .eq 7, 3) := by decide +kernel
theorem dX2_tableOf_13 : decode cX2_tableOf 13 = .ok (.iload_n 1, 1) := by decide +kernel
theorem dX2_tableOf_14 : decode cX2_tableOf 14 = .ok (.goto 4, 3) := by decide +kernel
theorem dX2_tableOf_17 : decode cX2_tableOf 17 = .ok (.iconst 1, 1) := by decide +kernel
theorem dX2_tableOf_18 : decode cX2_tableOf 18 = .ok (.imul, 1) := by decide +kernel
theorem dX2_tableOf_19 : decode cX2_tableOf 19 = .ok (.iload_n 2, 1) := by decide +kernel
theorem dX2_tableOf_20 : decode cX2_tableOf 20 = .ok (.invokestatic 59, 3) := by decide +kernel
theorem dX2_tableOf_23 : decode cX2_tableOf 23 = .ok (.iadd, 1) := by decide +kernel
theorem dX2_tableOf_24 : decode cX2_tableOf 24 = .ok (.istore_n 3, 1) := by decide +kernel
theorem dX2_tableOf_25 : decode cX2_tableOf 25 = .ok (.aload_n 0, 1) := by decide +kernel
theorem dX2_tableOf_26 : decode cX2_tableOf 26 = .ok (.getfield 11, 3) := by decide +kernel
theorem dX2_tableOf_29 : decode cX2_tableOf 29 = .ok (.iload_n 3, 1) := by decide +kernel
theorem dX2_tableOf_30 : decode cX2_tableOf 30 = .ok (.aaload, 1) := by decide +kernel
theorem dX2_tableOf_31 : decode cX2_tableOf 31 = .ok (.astore 4, 2) := by decide +kernel
theorem dX2_tableOf_33 : decode cX2_tableOf 33 = .ok (.aload 4, 2) := by decide +kernel
theorem dX2_tableOf_35 : decode cX2_tableOf 35 = .ok (.ifnonnull 22, 3) := by decide +kernel
theorem dX2_tableOf_38 : decode cX2_tableOf 38 = .ok (.new 9, 3) := by decide +kernel
theorem dX2_tableOf_41 : decode cX2_tableOf 41 = .ok (.dup, 1) := by decide +kernel
theorem dX2_tableOf_42 : decode cX2_tableOf 42 = .ok (.iload_n 1, 1) := by decide +kernel
theorem dX2_tableOf_43 : decode cX2_tableOf 43 = .ok (.iload_n 2, 1) := by decide +kernel
theorem dX2_tableOf_44 : decode cX2_tableOf 44 = .ok (.invokespecial 63, 3) := by decide +kernel
theorem dX2_tableOf_47 : decode cX2_tableOf 47 = .ok (.astore 4, 2) := by decide +kernel
theorem dX2_tableOf_49 : decode cX2_tableOf 49 = .ok (.aload_n 0, 1) := by decide +kernel
theorem dX2_tableOf_50 : decode cX2_tableOf 50 = .ok (.getfield 11, 3) := by decide +kernel
theorem dX2_tableOf_53 : decode cX2_tableOf 53 = .ok (.iload_n 3, 1) := by decide +kernel
theorem dX2_tableOf_54 : decode cX2_tableOf 54 = .ok (.aload 4, 2) := by decide +kernel
theorem dX2_tableOf_56 : decode cX2_tableOf 56 = .ok (.aastore, 1) := by decide +kernel
theorem dX2_tableOf_57 : decode cX2_tableOf 57 = .ok (.aload 4, 2) := by decide +kernel
theorem dX2_tableOf_59 : decode cX2_tableOf 59 = .ok (.areturn, 1) := by decide +kernel
set_option maxRecDepth 20000 in
theorem ggX3_init_X3_fillThree : GoodIn wsX3_init wsX3_fillThree := goodIn_r _ [10, 11, 12, 9, 13, 14, 15, 16, 17] (by decide +kernel) (by decide +kernel)
set_option maxRecDepth 20000 in
theorem gX3_init_X3_fillThree : GoodIn wsX3_init (va_wsS RX3 19 yX3_fillThree wsX3_fillThree) := goodIn_app (goodIn_of _ (by decide +kernel)) ggX3_init_X3_fillThree
set_option maxRecDepth 20000 in
theorem ggX3_init_X3_fillBoth : GoodIn wsX3_init wsX3_fillBoth := goodIn_r _ [20, 14, 15, 9, 16, 17] (by decide +kernel) (by decide +kernel)
set_option maxRecDepth 20000 in
theorem gX3_init_X3_fillBoth : GoodIn wsX3_init (va_wsS RX3 23 yX3_fillBoth wsX3_fillBoth) := goodIn_app (goodIn_of _ (by decide +kernel)) ggX3_init_X3_fillBoth
set_option maxRecDepth 20000 in
theorem ggX3_init_X3_fillShares : GoodIn wsX3_init wsX3_fillShares := goodIn_r _ [23, 24, 25, 26, 27, 28, 29, 30, 31, 32, 9, 33] (by decide +kernel) (by decide +kernel)
set_option maxRecDepth 20000 in
theorem gX3_init_X3_fillShares : GoodIn wsX3_init (va_wsS RX3 26 yX3_fillShares wsX3_fillShares) := goodIn_app (goodIn_of _ (by decide +kernel)) ggX3_init_X3_fillShares
theorem dX3_init_0 : decode cX3_init 0 = .ok (.aload_n 0, 1) := by decide +kernel
theorem dX3_init_1 : decode cX3_init 1 = .ok (.invokespecial 3, 3) := by decide +kernel
theorem dX3_init_4 : decode cX3_init 4 = .ok (.aload_n 0, 1) := by decide +kernel
theorem dX3_init_5 : decode cX3_init 5 = .ok (.iload_n 1, 1) := by decide +kernel
theorem dX3_init_6 : decode cX3_init 6 = .ok (.iconst 3, 1) := by decide +kernel
theorem dX3_init_7 : decode cX3_init 7 = .ok (.if_icmp .ne 7, 3) := by decide +kernel
theorem dX3_init_10 : decode cX3_init 10 = .ok (.iconst 1, 1) := by decide +kernel
theorem dX3_init_11 : decode cX3_init 11 = .ok (.goto 4, 3) := by decide +kernel
theorem dX3_init_14 : decode cX3_init 14 = .ok (.iconst 0, 1) := by decide +kernel
theorem dX3_init_15 : decode cX3_init 15 = .ok (.putfield 9, 3) := by decide +kernel
theorem dX3_init_18 : decode cX3_init 18 = .ok (.aload_n 0, 1) := by decide +kernel
theorem dX3_init_19 : decode cX3_init 19 = .ok (.aload_n 0, 1) := by decide +kernel
theorem dX3_init_20 : decode cX3_init 20 = .ok (.getfield 9, 3) := by decide +kernel
theorem dX3_init_23 : decode cX3_init 23 = .ok (.ifCond .eq 8, 3) := by decide +kernel
theorem dX3_init_26 : decode cX3_init 26 = .ok (.bipush 121, 2) := by decide +kernel
theorem dX3_init_28 : decode cX3_init 28 = .ok (.goto 5, 3) := by decide +kernel
theorem dX3_init_31 : decode cX3_init 31 = .ok (.bipush 61, 2) := by decide +kernel
theorem dX3_init_33 : decode cX3_init 33 = .ok (.newarray .long, 2) := by decide +kernel
theorem dX3_init_35 : decode cX3_init 35 = .ok (.putfield 15, 3) := by decide +kernel
theorem dX3_init_38 : decode cX3_init 38 = .ok (.aload_n 0, 1) := by decide +kernel
theorem dX3_init_39 : decode cX3_init 39 = .ok (.getfield 9, 3) := by decide +kernel
theorem dX3_init_42 : decode cX3_init 42 = .ok (.ifCond .eq 14, 3) := by decide +kernel
theorem dX3_init_45 : decode cX3_init 45 = .ok (.aload_n 0, 1) := by decide +kernel
theorem dX3_init_46 : decode cX3_init 46 = .ok (.getfield 15, 3) := by decide +kernel
theorem dX3_init_49 : decode cX3_init 49 = .ok (.iload_n 2, 1) := by decide +kernel
theorem dX3_init_50 : decode cX3_init 50 = .ok (.invokestatic 19, 3) := by decide +kernel
theorem dX3_init_53 : decode cX3_init 53 = .ok (.goto 27, 3) := by decide +kernel
theorem dX3_init_56 : decode cX3_init 56 = .ok (.iload_n 1, 1) := by decide +kernel
theorem dX3_init_57 : decode cX3_init 57 = .ok (.iconst 1, 1) := by decide +kernel
theorem dX3_init_58 : decode cX3_init 58 = .ok (.if_icmp .ne 14, 3) := by decide +kernel
theorem dX3_init_61 : decode cX3_init 61 = .ok (.aload_n 0, 1) := by decide +kernel
theorem dX3_init_62 : decode cX3_init 62 = .ok (.getfield 15, 3) := by decide +kernel
theorem dX3_init_65 : decode cX3_init 65 = .ok (.iload_n 2, 1) := by decide +kernel
theorem dX3_init_66 : decode cX3_init 66 = .ok (.invokestatic 23, 3) := by decide +kernel
theorem dX3_init_69 : decode cX3_init 69 = .ok (.goto 11, 3) := by decide +kernel
theorem dX3_init_72 : decode cX3_init 72 = .ok (.aload_n 0, 1) := by decide +kernel
theorem dX3_init_73 : decode cX3_init 73 = .ok (.getfield 15, 3) := by decide +kernel
theorem dX3_init_76 : decode cX3_init 76 = .ok (.iload_n 2, 1) := by decide +kernel
theorem dX3_init_77 : decode cX3_init 77 = .ok (.invokestatic 26, 3) := by decide +kernel
theorem dX3_init_80 : decode cX3_init 80 = .ok (.return_, 1) := by decide +kernel
theorem dX3_has_0 : decode cX3_has 0 = .ok (.aload_n 0, 1) := by decide +kernel
theorem dX3_has_1 : decode cX3_has 1 = .ok (.getfield 9, 3) := by decide +kernel
theorem dX3_has_4 : decode cX3_has 4 = .ok (.ifCond .eq 12, 3) := by decide +kernel
theorem dX3_has_7 : decode cX3_has 7 = .ok (.iload_n 1, 1) := by decide +kernel
theorem dX3_has_8 : decode cX3_has 8 = .ok (.bipush 11, 2) := by decide +kernel
theorem dX3_has_10 : decode cX3_has 10 = .ok (.imul, 1) := by decide +kernel
theorem dX3_has_11 : decode cX3_has 11 = .ok (.iload_n 2, 1) := by decide +kernel
theorem dX3_has_12 : decode cX3_has 12 = .ok (.iadd, 1) := by decide +kernel
theorem dX3_has_13 : decode cX3_has 13 = .ok (.goto 4, 3) := by decide +kernel
theorem dX3_has_16 : decode cX3_has 16 = .ok (.iload_n 1, 1) := by decide +kernel
theorem dX3_has_17 : decode cX3_has 17 = .ok (.istore 4, 2) := by decide +kernel
theorem dX3_has_19 : decode cX3_has 19 = .ok (.aload_n 0, 1) := by decide +kernel
theorem dX3_has_20 : decode cX3_has 20 = .ok (.getfield 9, 3) := by decide +kernel
theorem dX3_has_23 : decode cX3_has 23 = .ok (.ifCond .eq 7, 3) := by decide +kernel
theorem dX3_has_26 : decode cX3_has 26 = .ok (.iload_n 3, 1) := by decide +kernel
theorem dX3_has_27 : decode cX3_has 27 = .ok (.goto 4, 3) := by decide +kernel
theorem dX3_has_30 : decode cX3_has 30 = .ok (.iload_n 2, 1) := by decide +kernel
theorem dX3_has_31 : decode cX3_has 31 = .ok (.istore 5, 2) := by decide +kernel
theorem dX3_has_33 : decode cX3_has 33 = .ok (.iload 4, 2) := by decide +kernel
theorem dX3_has_35 : decode cX3_has 35 = .ok (.ifCond .lt 34, 3) := by decide +kernel
theorem dX3_has_38 : decode cX3_has 38 = .ok (.iload 4, 2) := by decide +kernel
theorem dX3_has_40 : decode cX3_has 40 = .ok (.aload_n 0, 1) := by decide +kernel
theorem dX3_has_41 : decode cX3_has 41 = .ok (.getfield 15, 3) := by decide +kernel
theorem dX3_has_44 : decode cX3_has 44 = .ok (.arraylength, 1) := by decide +kernel
theorem dX3_has_45 : decode cX3_has 45 = .ok (.if_icmp .ge 24, 3) := by decide +kernel
theorem dX3_has_48 : decode cX3_has 48 = .ok (.aload_n 0, 1) := by decide +kernel
theorem dX3_has_49 : decode cX3_has 49 = .ok (.getfield 15, 3) := by decide +kernel
theorem dX3_has_52 : decode cX3_has 52 = .ok (.iload 4, 2) := by decide +kernel
theorem dX3_has_54 : decode cX3_has 54 = .ok (.laload, 1) := by decide +kernel
theorem dX3_has_55 : decode cX3_has 55 = .ok (.iload 5, 2) := by decide +kernel
theorem dX3_has_57 : decode cX3_has 57 = .ok (.lushr, 1) := by decide +kernel
theorem dX3_has_58 : decode cX3_has 58 = .ok (.lconst 1, 1) := by decide +kernel
theorem dX3_has_59 : decode cX3_has 59 = .ok (.land, 1) := by decide +kernel
theorem dX3_has_60 : decode cX3_has 60 = .ok (.lconst 1, 1) := by decide +kernel
theorem dX3_has_61 : decode cX3_has 61 = .ok (.lcmp, 1) := by decide +kernel
theorem dX3_has_62 : decode cX3_has 62 = .ok (.ifCond .ne 7, 3) := by decide +kernel
theorem dX3_has_65 : decode cX3_has 65 = .ok (.iconst 1, 1) := by decide +kernel
theorem dX3_has_66 : decode cX3_has 66 = .ok (.goto 4, 3) := by decide +kernel
theorem dX3_has_69 : decode cX3_has 69 = .ok (.iconst 0, 1) := by decide +kernel
theorem dX3_has_70 : decode cX3_has 70 = .ok (.ireturn, 1) := by decide +kernel
set_option maxRecDepth 20000 in
theorem ggX3_countUpTo_J13_bitCount_95d88 : GoodIn wsX3_countUpTo wsJ13_bitCount_95d88 := goodIn_r _ [6, 7, 8, 9] (by decide +kernel) (by decide +kernel)
set_option maxRecDepth 20000 in
theorem gX3_countUpTo_J13_bitCount_95d88 : GoodIn wsX3_countUpTo (va_wsS RX3 29 yJ13_bitCount_95d88 wsJ13_bitCount_95d88) := goodIn_app (goodIn_of _ (by decide +kernel)) ggX3_countUpTo_J13_bitCount_95d88
theorem dX3_countUpTo_0 : decode cX3_countUpTo 0 = .ok (.lconst 1, 1) := by decide +kernel
theorem dX3_countUpTo_1 : decode cX3_countUpTo 1 = .ok (.iload_n 1, 1) := by decide +kernel
theorem dX3_countUpTo_2 : decode cX3_countUpTo 2 = .ok (.iconst 1, 1) := by decide +kernel
theorem dX3_countUpTo_3 : decode cX3_countUpTo 3 = .ok (.iadd, 1) := by decide +kernel
theorem dX3_countUpTo_4 : decode cX3_countUpTo 4 = .ok (.lshl, 1) := by decide +kernel
theorem dX3_countUpTo_5 : decode cX3_countUpTo 5 = .ok (.lconst 1, 1) := by decide +kernel
theorem dX3_countUpTo_6 : decode cX3_countUpTo 6 = .ok (.lsub, 1) := by decide +kernel
theorem dX3_countUpTo_7 : decode cX3_countUpTo 7 = .ok (.lstore_n 2, 1) := by decide +kernel
theorem dX3_countUpTo_8 : decode cX3_countUpTo 8 = .ok (.iconst 0, 1) := by decide +kernel
theorem dX3_countUpTo_9 : decode cX3_countUpTo 9 = .ok (.istore 4, 2) := by decide +kernel
theorem dX3_countUpTo_11 : decode cX3_countUpTo 11 = .ok (.iconst 0, 1) := by decide +kernel
theorem dX3_countUpTo_12 : decode cX3_countUpTo 12 = .ok (.istore 5, 2) := by decide +kernel
theorem dX3_countUpTo_14 : decode cX3_countUpTo 14 = .ok (.iload 5, 2) := by decide +kernel
theorem dX3_countUpTo_16 : decode cX3_countUpTo 16 = .ok (.aload_n 0, 1) := by decide +kernel
theorem dX3_countUpTo_17 : decode cX3_countUpTo 17 = .ok (.getfield 15, 3) := by decide +kernel
theorem dX3_countUpTo_20 : decode cX3_countUpTo 20 = .ok (.arraylength, 1) := by decide +kernel
theorem dX3_countUpTo_21 : decode cX3_countUpTo 21 = .ok (.if_icmp .ge 75, 3) := by decide +kernel
theorem dX3_countUpTo_24 : decode cX3_countUpTo 24 = .ok (.aload_n 0, 1) := by decide +kernel
theorem dX3_countUpTo_25 : decode cX3_countUpTo 25 = .ok (.getfield 9, 3) := by decide +kernel
theorem dX3_countUpTo_28 : decode cX3_countUpTo 28 = .ok (.ifCond .eq 11, 3) := by decide +kernel
theorem dX3_countUpTo_31 : decode cX3_countUpTo 31 = .ok (.iload 5, 2) := by decide +kernel
theorem dX3_countUpTo_33 : decode cX3_countUpTo 33 = .ok (.bipush 11, 2) := by decide +kernel
theorem dX3_countUpTo_35 : decode cX3_countUpTo 35 = .ok (.idiv, 1) := by decide +kernel
theorem dX3_countUpTo_36 : decode cX3_countUpTo 36 = .ok (.goto 5, 3) := by decide +kernel
theorem dX3_countUpTo_39 : decode cX3_countUpTo 39 = .ok (.iload 5, 2) := by decide +kernel
theorem dX3_countUpTo_41 : decode cX3_countUpTo 41 = .ok (.istore 6, 2) := by decide +kernel
theorem dX3_countUpTo_43 : decode cX3_countUpTo 43 = .ok (.aload_n 0, 1) := by decide +kernel
theorem dX3_countUpTo_44 : decode cX3_countUpTo 44 = .ok (.getfield 9, 3) := by decide +kernel
theorem dX3_countUpTo_47 : decode cX3_countUpTo 47 = .ok (.ifCond .eq 11, 3) := by decide +kernel
theorem dX3_countUpTo_50 : decode cX3_countUpTo 50 = .ok (.iload 5, 2) := by decide +kernel
theorem dX3_countUpTo_52 : decode cX3_countUpTo 52 = .ok (.bipush 11, 2) := by decide +kernel
theorem dX3_countUpTo_54 : decode cX3_countUpTo 54 = .ok (.irem, 1) := by decide +kernel
theorem dX3_countUpTo_55 : decode cX3_countUpTo 55 = .ok (.goto 4, 3) := by decide +kernel
theorem dX3_countUpTo_58 : decode cX3_countUpTo 58 = .ok (.iconst 0, 1) := by decide +kernel
theorem dX3_countUpTo_59 : decode cX3_countUpTo 59 = .ok (.istore 7, 2) := by decide +kernel
theorem dX3_countUpTo_61 : decode cX3_countUpTo 61 = .ok (.iload 6, 2) := by decide +kernel
theorem dX3_countUpTo_63 : decode cX3_countUpTo 63 = .ok (.iload_n 1, 1) := by decide +kernel
theorem dX3_countUpTo_64 : decode cX3_countUpTo 64 = .ok (.if_icmp .gt 26, 3) := by decide +kernel
theorem dX3_countUpTo_67 : decode cX3_countUpTo 67 = .ok (.iload 7, 2) := by decide +kernel
theorem dX3_countUpTo_69 : decode cX3_countUpTo 69 = .ok (.iload_n 1, 1) := by decide +kernel
theorem dX3_countUpTo_70 : decode cX3_countUpTo 70 = .ok (.if_icmp .gt 20, 3) := by decide +kernel
theorem dX3_countUpTo_73 : decode cX3_countUpTo 73 = .ok (.iload 4, 2) := by decide +kernel
theorem dX3_countUpTo_75 : decode cX3_countUpTo 75 = .ok (.aload_n 0, 1) := by decide +kernel
theorem dX3_countUpTo_76 : decode cX3_countUpTo 76 = .ok (.getfield 15, 3) := by decide +kernel
theorem dX3_countUpTo_79 : decode cX3_countUpTo 79 = .ok (.iload 5, 2) := by decide +kernel
theorem dX3_countUpTo_81 : decode cX3_countUpTo 81 = .ok (.laload, 1) := by decide +kernel
theorem dX3_countUpTo_82 : decode cX3_countUpTo 82 = .ok (.lload_n 2, 1) := by decide +kernel
theorem dX3_countUpTo_83 : decode cX3_countUpTo 83 = .ok (.land, 1) := by decide +kernel
theorem dX3_countUpTo_84 : decode cX3_countUpTo 84 = .ok (.invokestatic 29, 3) := by decide +kernel
theorem dX3_countUpTo_87 : decode cX3_countUpTo 87 = .ok (.iadd, 1) := by decide +kernel
theorem dX3_countUpTo_88 : decode cX3_countUpTo 88 = .ok (.istore 4, 2) := by decide +kernel
theorem dX3_countUpTo_90 : decode cX3_countUpTo 90 = .ok (.iinc 5 1, 3) := by decide +kernel
theorem dX3_countUpTo_93 : decode cX3_countUpTo 93 = .ok (.goto (-79), 3) := by decide +kernel
theorem dX3_countUpTo_96 : decode cX3_countUpTo 96 = .ok (.iload 4, 2) := by decide +kernel
theorem dX3_countUpTo_98 : decode cX3_countUpTo 98 = .ok (.ireturn, 1) := by decide +kernel
set_option maxRecDepth 20000 in
theorem ggX3_fillShares_X3_sharesReach : GoodIn wsX3_fillShares wsX3_sharesReach := goodIn_r _ [11] (by decide +kernel) (by decide +kernel)
set_option maxRecDepth 20000 in
theorem gX3_fillShares_X3_sharesReach : GoodIn wsX3_fillShares (va_wsS RX3 44 yX3_sharesReach wsX3_sharesReach) := goodIn_app (goodIn_of _ (by decide +kernel)) ggX3_fillShares_X3_sharesReach
theorem dX3_fillShares_0 : decode cX3_fillShares 0 = .ok (.iconst 0, 1) := by decide +kernel
theorem dX3_fillShares_1 : decode cX3_fillShares 1 = .ok (.istore_n 2, 1) := by decide +kernel
theorem dX3_fillShares_2 : decode cX3_fillShares 2 = .ok (.iload_n 2, 1) := by decide +kernel
theorem dX3_fillShares_3 : decode cX3_fillShares 3 = .ok (.bipush 61, 2) := by decide +kernel
theorem dX3_fillShares_5 : decode cX3_fillShares 5 = .ok (.if_icmp .ge 69, 3) := by decide +kernel
theorem dX3_fillShares_8 : decode cX3_fillShares 8 = .ok (.iconst 0, 1) := by decide +kernel
theorem dX3_fillShares_9 : decode cX3_fillShares 9 = .ok (.istore_n 3, 1) := by decide +kernel
theorem dX3_fillShares_10 : decode cX3_fillShares 10 = .ok (.iload_n 3, 1) := by decide +kernel
theorem dX3_fillShares_11 : decode cX3_fillShares 11 = .ok (.bipush 61, 2) := by decide +kernel
theorem dX3_fillShares_13 : decode cX3_fillShares 13 = .ok (.if_icmp .ge 55, 3) := by decide +kernel
theorem dX3_fillShares_16 : decode cX3_fillShares 16 = .ok (.iload_n 2, 1) := by decide +kernel
theorem dX3_fillShares_17 : decode cX3_fillShares 17 = .ok (.iload_n 3, 1) := by decide +kernel
theorem dX3_fillShares_18 : decode cX3_fillShares 18 = .ok (.invokestatic 35, 3) := by decide +kernel
theorem dX3_fillShares_21 : decode cX3_fillShares 21 = .ok (.istore 4, 2) := by decide +kernel
theorem dX3_fillShares_23 : decode cX3_fillShares 23 = .ok (.iload 4, 2) := by decide +kernel
theorem dX3_fillShares_25 : decode cX3_fillShares 25 = .ok (.ifCond .ne 7, 3) := by decide +kernel
theorem dX3_fillShares_28 : decode cX3_fillShares 28 = .ok (.iload_n 1, 1) := by decide +kernel
theorem dX3_fillShares_29 : decode cX3_fillShares 29 = .ok (.goto 17, 3) := by decide +kernel
theorem dX3_fillShares_32 : decode cX3_fillShares 32 = .ok (.aload_n 0, 1) := by decide +kernel
theorem dX3_fillShares_33 : decode cX3_fillShares 33 = .ok (.iload 4, 2) := by decide +kernel
theorem dX3_fillShares_35 : decode cX3_fillShares 35 = .ok (.laload, 1) := by decide +kernel
theorem dX3_fillShares_36 : decode cX3_fillShares 36 = .ok (.iload_n 2, 1) := by decide +kernel
theorem dX3_fillShares_37 : decode cX3_fillShares 37 = .ok (.iload_n 3, 1) := by decide +kernel
theorem dX3_fillShares_38 : decode cX3_fillShares 38 = .ok (.invokestatic 41, 3) := by decide +kernel
theorem dX3_fillShares_41 : decode cX3_fillShares 41 = .ok (.iload 4, 2) := by decide +kernel
theorem dX3_fillShares_43 : decode cX3_fillShares 43 = .ok (.invokestatic 44, 3) := by decide +kernel
theorem dX3_fillShares_46 : decode cX3_fillShares 46 = .ok (.istore 5, 2) := by decide +kernel
theorem dX3_fillShares_48 : decode cX3_fillShares 48 = .ok (.iload 5, 2) := by decide +kernel
theorem dX3_fillShares_50 : decode cX3_fillShares 50 = .ok (.ifCond .ne 12, 3) := by decide +kernel
theorem dX3_fillShares_53 : decode cX3_fillShares 53 = .ok (.aload_n 0, 1) := by decide +kernel
theorem dX3_fillShares_54 : decode cX3_fillShares 54 = .ok (.iload_n 2, 1) := by decide +kernel
theorem dX3_fillShares_55 : decode cX3_fillShares 55 = .ok (.dup2, 1) := by decide +kernel
theorem dX3_fillShares_56 : decode cX3_fillShares 56 = .ok (.laload, 1) := by decide +kernel
theorem dX3_fillShares_57 : decode cX3_fillShares 57 = .ok (.lconst 1, 1) := by decide +kernel
theorem dX3_fillShares_58 : decode cX3_fillShares 58 = .ok (.iload_n 3, 1) := by decide +kernel
theorem dX3_fillShares_59 : decode cX3_fillShares 59 = .ok (.lshl, 1) := by decide +kernel
theorem dX3_fillShares_60 : decode cX3_fillShares 60 = .ok (.lor, 1) := by decide +kernel
theorem dX3_fillShares_61 : decode cX3_fillShares 61 = .ok (.lastore, 1) := by decide +kernel
theorem dX3_fillShares_62 : decode cX3_fillShares 62 = .ok (.iinc 3 1, 3) := by decide +kernel
theorem dX3_fillShares_65 : decode cX3_fillShares 65 = .ok (.goto (-55), 3) := by decide +kernel
theorem dX3_fillShares_68 : decode cX3_fillShares 68 = .ok (.iinc 2 1, 3) := by decide +kernel
theorem dX3_fillShares_71 : decode cX3_fillShares 71 = .ok (.goto (-69), 3) := by decide +kernel
theorem dX3_fillShares_74 : decode cX3_fillShares 74 = .ok (.return_, 1) := by decide +kernel
theorem dX3_sharesReach_0 : decode cX3_sharesReach 0 = .ok (.iload_n 2, 1) := by decide +kernel
theorem dX3_sharesReach_1 : decode cX3_sharesReach 1 = .ok (.iload_n 3, 1) := by decide +kernel
theorem dX3_sharesReach_2 : decode cX3_sharesReach 2 = .ok (.isub, 1) := by decide +kernel
theorem dX3_sharesReach_3 : decode cX3_sharesReach 3 = .ok (.istore 4, 2) := by decide +kernel
theorem dX3_sharesReach_5 : decode cX3_sharesReach 5 = .ok (.iload_n 3, 1) := by decide +kernel
theorem dX3_sharesReach_6 : decode cX3_sharesReach 6 = .ok (.ifCond .le 30, 3) := by decide +kernel
theorem dX3_sharesReach_9 : decode cX3_sharesReach 9 = .ok (.iload 4, 2) := by decide +kernel
theorem dX3_sharesReach_11 : decode cX3_sharesReach 11 = .ok (.ifCond .lt 25, 3) := by decide +kernel
theorem dX3_sharesReach_14 : decode cX3_sharesReach 14 = .ok (.lload_n 0, 1) := by decide +kernel
theorem dX3_sharesReach_15 : decode cX3_sharesReach 15 = .ok (.iload 4, 2) := by decide +kernel
theorem dX3_sharesReach_17 : decode cX3_sharesReach 17 = .ok (.lushr, 1) := by decide +kernel
theorem dX3_sharesReach_18 : decode cX3_sharesReach 18 = .ok (.lconst 1, 1) := by decide +kernel
theorem dX3_sharesReach_19 : decode cX3_sharesReach 19 = .ok (.land, 1) := by decide +kernel
theorem dX3_sharesReach_20 : decode cX3_sharesReach 20 = .ok (.lconst 1, 1) := by decide +kernel
theorem dX3_sharesReach_21 : decode cX3_sharesReach 21 = .ok (.lcmp, 1) := by decide +kernel
theorem dX3_sharesReach_22 : decode cX3_sharesReach 22 = .ok (.ifCond .ne 5, 3) := by decide +kernel
theorem dX3_sharesReach_25 : decode cX3_sharesReach 25 = .ok (.iconst 1, 1) := by decide +kernel
theorem dX3_sharesReach_26 : decode cX3_sharesReach 26 = .ok (.ireturn, 1) := by decide +kernel
theorem dX3_sharesReach_27 : decode cX3_sharesReach 27 = .ok (.iload 4, 2) := by decide +kernel
theorem dX3_sharesReach_29 : decode cX3_sharesReach 29 = .ok (.iload_n 3, 1) := by decide +kernel
theorem dX3_sharesReach_30 : decode cX3_sharesReach 30 = .ok (.isub, 1) := by decide +kernel
theorem dX3_sharesReach_31 : decode cX3_sharesReach 31 = .ok (.istore 4, 2) := by decide +kernel
theorem dX3_sharesReach_33 : decode cX3_sharesReach 33 = .ok (.goto (-28), 3) := by decide +kernel
theorem dX3_sharesReach_36 : decode cX3_sharesReach 36 = .ok (.iconst 0, 1) := by decide +kernel
theorem dX3_sharesReach_37 : decode cX3_sharesReach 37 = .ok (.ireturn, 1) := by decide +kernel
set_option maxRecDepth 20000 in
theorem ggX3_fillBoth_X3_lostInLine : GoodIn wsX3_fillBoth wsX3_lostInLine := goodIn_r _ [4, 5] (by decide +kernel) (by decide +kernel)
set_option maxRecDepth 20000 in
theorem gX3_fillBoth_X3_lostInLine : GoodIn wsX3_fillBoth (va_wsS RX3 48 yX3_lostInLine wsX3_lostInLine) := goodIn_app (goodIn_of _ (by decide +kernel)) ggX3_fillBoth_X3_lostInLine
theorem dX3_fillBoth_0 : decode cX3_fillBoth 0 = .ok (.lconst 0, 1) := by decide +kernel
theorem dX3_fillBoth_1 : decode cX3_fillBoth 1 = .ok (.lstore_n 2, 1) := by decide +kernel
theorem dX3_fillBoth_2 : decode cX3_fillBoth 2 = .ok (.lconst 0, 1) := by decide +kernel
theorem dX3_fillBoth_3 : decode cX3_fillBoth 3 = .ok (.lstore 4, 2) := by decide +kernel
theorem dX3_fillBoth_5 : decode cX3_fillBoth 5 = .ok (.iconst 0, 1) := by decide +kernel
theorem dX3_fillBoth_6 : decode cX3_fillBoth 6 = .ok (.istore 6, 2) := by decide +kernel
theorem dX3_fillBoth_8 : decode cX3_fillBoth 8 = .ok (.iload 6, 2) := by decide +kernel
theorem dX3_fillBoth_10 : decode cX3_fillBoth 10 = .ok (.bipush 61, 2) := by decide +kernel
theorem dX3_fillBoth_12 : decode cX3_fillBoth 12 = .ok (.if_icmp .ge 54, 3) := by decide +kernel
theorem dX3_fillBoth_15 : decode cX3_fillBoth 15 = .ok (.aload_n 0, 1) := by decide +kernel
theorem dX3_fillBoth_16 : decode cX3_fillBoth 16 = .ok (.iload 6, 2) := by decide +kernel
theorem dX3_fillBoth_18 : decode cX3_fillBoth 18 = .ok (.lload_n 2, 1) := by decide +kernel
theorem dX3_fillBoth_19 : decode cX3_fillBoth 19 = .ok (.lload 4, 2) := by decide +kernel
theorem dX3_fillBoth_21 : decode cX3_fillBoth 21 = .ok (.lor, 1) := by decide +kernel
theorem dX3_fillBoth_22 : decode cX3_fillBoth 22 = .ok (.bipush 61, 2) := by decide +kernel
theorem dX3_fillBoth_24 : decode cX3_fillBoth 24 = .ok (.iload_n 1, 1) := by decide +kernel
theorem dX3_fillBoth_25 : decode cX3_fillBoth 25 = .ok (.ifCond .eq 12, 3) := by decide +kernel
theorem dX3_fillBoth_28 : decode cX3_fillBoth 28 = .ok (.iload 6, 2) := by decide +kernel
theorem dX3_fillBoth_30 : decode cX3_fillBoth 30 = .ok (.ifCond .ne 7, 3) := by decide +kernel
theorem dX3_fillBoth_33 : decode cX3_fillBoth 33 = .ok (.iconst 1, 1) := by decide +kernel
theorem dX3_fillBoth_34 : decode cX3_fillBoth 34 = .ok (.goto 4, 3) := by decide +kernel
theorem dX3_fillBoth_37 : decode cX3_fillBoth 37 = .ok (.iconst 0, 1) := by decide +kernel
theorem dX3_fillBoth_38 : decode cX3_fillBoth 38 = .ok (.invokestatic 48, 3) := by decide +kernel
theorem dX3_fillBoth_41 : decode cX3_fillBoth 41 = .ok (.lastore, 1) := by decide +kernel
theorem dX3_fillBoth_42 : decode cX3_fillBoth 42 = .ok (.lload_n 2, 1) := by decide +kernel
theorem dX3_fillBoth_43 : decode cX3_fillBoth 43 = .ok (.aload_n 0, 1) := by decide +kernel
theorem dX3_fillBoth_44 : decode cX3_fillBoth 44 = .ok (.iload 6, 2) := by decide +kernel
theorem dX3_fillBoth_46 : decode cX3_fillBoth 46 = .ok (.laload, 1) := by decide +kernel
theorem dX3_fillBoth_47 : decode cX3_fillBoth 47 = .ok (.lor, 1) := by decide +kernel
theorem dX3_fillBoth_48 : decode cX3_fillBoth 48 = .ok (.lstore_n 2, 1) := by decide +kernel
theorem dX3_fillBoth_49 : decode cX3_fillBoth 49 = .ok (.lload 4, 2) := by decide +kernel
theorem dX3_fillBoth_51 : decode cX3_fillBoth 51 = .ok (.aload_n 0, 1) := by decide +kernel
theorem dX3_fillBoth_52 : decode cX3_fillBoth 52 = .ok (.iload 6, 2) := by decide +kernel
theorem dX3_fillBoth_54 : decode cX3_fillBoth 54 = .ok (.laload, 1) := by decide +kernel
theorem dX3_fillBoth_55 : decode cX3_fillBoth 55 = .ok (.lor, 1) := by decide +kernel
theorem dX3_fillBoth_56 : decode cX3_fillBoth 56 = .ok (.iconst 1, 1) := by decide +kernel
theorem dX3_fillBoth_57 : decode cX3_fillBoth 57 = .ok (.lshl, 1) := by decide +kernel
theorem dX3_fillBoth_58 : decode cX3_fillBoth 58 = .ok (.lstore 4, 2) := by decide +kernel
theorem dX3_fillBoth_60 : decode cX3_fillBoth 60 = .ok (.iinc 6 1, 3) := by decide +kernel
theorem dX3_fillBoth_63 : decode cX3_fillBoth 63 = .ok (.goto (-55), 3) := by decide +kernel
theorem dX3_fillBoth_66 : decode cX3_fillBoth 66 = .ok (.return_, 1) := by decide +kernel
set_option maxRecDepth 20000 in
theorem ggX3_fillThree_X3_wonByTaking : GoodIn wsX3_fillThree wsX3_wonByTaking := goodIn_r _ [4] (by decide +kernel) (by decide +kernel)
set_option maxRecDepth 20000 in
theorem gX3_fillThree_X3_wonByTaking : GoodIn wsX3_fillThree (va_wsS RX3 52 yX3_wonByTaking wsX3_wonByTaking) := goodIn_app (goodIn_of _ (by decide +kernel)) ggX3_fillThree_X3_wonByTaking
set_option maxRecDepth 20000 in
theorem ggX3_fillThree_X3_lostInLine : GoodIn wsX3_fillThree wsX3_lostInLine := goodIn_r _ [7, 8] (by decide +kernel) (by decide +kernel)
set_option maxRecDepth 20000 in
theorem gX3_fillThree_X3_lostInLine : GoodIn wsX3_fillThree (va_wsS RX3 48 yX3_lostInLine wsX3_lostInLine) := goodIn_app (goodIn_of _ (by decide +kernel)) ggX3_fillThree_X3_lostInLine
theorem dX3_fillThree_0 : decode cX3_fillThree 0 = .ok (.iconst 0, 1) := by decide +kernel
theorem dX3_fillThree_1 : decode cX3_fillThree 1 = .ok (.istore_n 2, 1) := by decide +kernel
theorem dX3_fillThree_2 : decode cX3_fillThree 2 = .ok (.iload_n 2, 1) := by decide +kernel
theorem dX3_fillThree_3 : decode cX3_fillThree 3 = .ok (.bipush 11, 2) := by decide +kernel
theorem dX3_fillThree_5 : decode cX3_fillThree 5 = .ok (.if_icmp .ge 60, 3) := by decide +kernel
theorem dX3_fillThree_8 : decode cX3_fillThree 8 = .ok (.iconst 0, 1) := by decide +kernel
theorem dX3_fillThree_9 : decode cX3_fillThree 9 = .ok (.istore_n 3, 1) := by decide +kernel
theorem dX3_fillThree_10 : decode cX3_fillThree 10 = .ok (.iload_n 3, 1) := by decide +kernel
theorem dX3_fillThree_11 : decode cX3_fillThree 11 = .ok (.bipush 11, 2) := by decide +kernel
theorem dX3_fillThree_13 : decode cX3_fillThree 13 = .ok (.if_icmp .ge 46, 3) := by decide +kernel
theorem dX3_fillThree_16 : decode cX3_fillThree 16 = .ok (.iload_n 2, 1) := by decide +kernel
theorem dX3_fillThree_17 : decode cX3_fillThree 17 = .ok (.bipush 11, 2) := by decide +kernel
theorem dX3_fillThree_19 : decode cX3_fillThree 19 = .ok (.imul, 1) := by decide +kernel
theorem dX3_fillThree_20 : decode cX3_fillThree 20 = .ok (.iload_n 3, 1) := by decide +kernel
theorem dX3_fillThree_21 : decode cX3_fillThree 21 = .ok (.iadd, 1) := by decide +kernel
theorem dX3_fillThree_22 : decode cX3_fillThree 22 = .ok (.istore 4, 2) := by decide +kernel
theorem dX3_fillThree_24 : decode cX3_fillThree 24 = .ok (.aload_n 0, 1) := by decide +kernel
theorem dX3_fillThree_25 : decode cX3_fillThree 25 = .ok (.iload 4, 2) := by decide +kernel
theorem dX3_fillThree_27 : decode cX3_fillThree 27 = .ok (.aload_n 0, 1) := by decide +kernel
theorem dX3_fillThree_28 : decode cX3_fillThree 28 = .ok (.iload_n 2, 1) := by decide +kernel
theorem dX3_fillThree_29 : decode cX3_fillThree 29 = .ok (.iload_n 3, 1) := by decide +kernel
theorem dX3_fillThree_30 : decode cX3_fillThree 30 = .ok (.invokestatic 52, 3) := by decide +kernel
theorem dX3_fillThree_33 : decode cX3_fillThree 33 = .ok (.bipush 11, 2) := by decide +kernel
theorem dX3_fillThree_35 : decode cX3_fillThree 35 = .ok (.iload_n 1, 1) := by decide +kernel
theorem dX3_fillThree_36 : decode cX3_fillThree 36 = .ok (.ifCond .eq 12, 3) := by decide +kernel
theorem dX3_fillThree_39 : decode cX3_fillThree 39 = .ok (.iload 4, 2) := by decide +kernel
theorem dX3_fillThree_41 : decode cX3_fillThree 41 = .ok (.ifCond .ne 7, 3) := by decide +kernel
theorem dX3_fillThree_44 : decode cX3_fillThree 44 = .ok (.iconst 1, 1) := by decide +kernel
theorem dX3_fillThree_45 : decode cX3_fillThree 45 = .ok (.goto 4, 3) := by decide +kernel
theorem dX3_fillThree_48 : decode cX3_fillThree 48 = .ok (.iconst 0, 1) := by decide +kernel
theorem dX3_fillThree_49 : decode cX3_fillThree 49 = .ok (.invokestatic 48, 3) := by decide +kernel
theorem dX3_fillThree_52 : decode cX3_fillThree 52 = .ok (.lastore, 1) := by decide +kernel
theorem dX3_fillThree_53 : decode cX3_fillThree 53 = .ok (.iinc 3 1, 3) := by decide +kernel
theorem dX3_fillThree_56 : decode cX3_fillThree 56 = .ok (.goto (-46), 3) := by decide +kernel
theorem dX3_fillThree_59 : decode cX3_fillThree 59 = .ok (.iinc 2 1, 3) := by decide +kernel
theorem dX3_fillThree_62 : decode cX3_fillThree 62 = .ok (.goto (-60), 3) := by decide +kernel
theorem dX3_fillThree_65 : decode cX3_fillThree 65 = .ok (.return_, 1) := by decide +kernel
theorem dX3_wonByTaking_0 : decode cX3_wonByTaking 0 = .ok (.iload_n 1, 1) := by decide +kernel
theorem dX3_wonByTaking_1 : decode cX3_wonByTaking 1 = .ok (.bipush 11, 2) := by decide +kernel
theorem dX3_wonByTaking_3 : decode cX3_wonByTaking 3 = .ok (.imul, 1) := by decide +kernel
theorem dX3_wonByTaking_4 : decode cX3_wonByTaking 4 = .ok (.iload_n 2, 1) := by decide +kernel
theorem dX3_wonByTaking_5 : decode cX3_wonByTaking 5 = .ok (.iadd, 1) := by decide +kernel
theorem dX3_wonByTaking_6 : decode cX3_wonByTaking 6 = .ok (.istore_n 3, 1) := by decide +kernel
theorem dX3_wonByTaking_7 : decode cX3_wonByTaking 7 = .ok (.lconst 0, 1) := by decide +kernel
theorem dX3_wonByTaking_8 : decode cX3_wonByTaking 8 = .ok (.lstore 4, 2) := by decide +kernel
theorem dX3_wonByTaking_10 : decode cX3_wonByTaking 10 = .ok (.iconst 1, 1) := by decide +kernel
theorem dX3_wonByTaking_11 : decode cX3_wonByTaking 11 = .ok (.istore 6, 2) := by decide +kernel
theorem dX3_wonByTaking_13 : decode cX3_wonByTaking 13 = .ok (.iload 6, 2) := by decide +kernel
theorem dX3_wonByTaking_15 : decode cX3_wonByTaking 15 = .ok (.iload_n 1, 1) := by decide +kernel
theorem dX3_wonByTaking_16 : decode cX3_wonByTaking 16 = .ok (.if_icmp .gt 23, 3) := by decide +kernel
theorem dX3_wonByTaking_19 : decode cX3_wonByTaking 19 = .ok (.lload 4, 2) := by decide +kernel
theorem dX3_wonByTaking_21 : decode cX3_wonByTaking 21 = .ok (.aload_n 0, 1) := by decide +kernel
theorem dX3_wonByTaking_22 : decode cX3_wonByTaking 22 = .ok (.iload_n 3, 1) := by decide +kernel
theorem dX3_wonByTaking_23 : decode cX3_wonByTaking 23 = .ok (.iload 6, 2) := by decide +kernel
theorem dX3_wonByTaking_25 : decode cX3_wonByTaking 25 = .ok (.bipush 11, 2) := by decide +kernel
theorem dX3_wonByTaking_27 : decode cX3_wonByTaking 27 = .ok (.imul, 1) := by decide +kernel
theorem dX3_wonByTaking_28 : decode cX3_wonByTaking 28 = .ok (.isub, 1) := by decide +kernel
theorem dX3_wonByTaking_29 : decode cX3_wonByTaking 29 = .ok (.laload, 1) := by decide +kernel
theorem dX3_wonByTaking_30 : decode cX3_wonByTaking 30 = .ok (.lor, 1) := by decide +kernel
theorem dX3_wonByTaking_31 : decode cX3_wonByTaking 31 = .ok (.lstore 4, 2) := by decide +kernel
theorem dX3_wonByTaking_33 : decode cX3_wonByTaking 33 = .ok (.iinc 6 1, 3) := by decide +kernel
theorem dX3_wonByTaking_36 : decode cX3_wonByTaking 36 = .ok (.goto (-23), 3) := by decide +kernel
theorem dX3_wonByTaking_39 : decode cX3_wonByTaking 39 = .ok (.iconst 1, 1) := by decide +kernel
theorem dX3_wonByTaking_40 : decode cX3_wonByTaking 40 = .ok (.istore 6, 2) := by decide +kernel
theorem dX3_wonByTaking_42 : decode cX3_wonByTaking 42 = .ok (.iload 6, 2) := by decide +kernel
theorem dX3_wonByTaking_44 : decode cX3_wonByTaking 44 = .ok (.iload_n 2, 1) := by decide +kernel
theorem dX3_wonByTaking_45 : decode cX3_wonByTaking 45 = .ok (.if_icmp .gt 20, 3) := by decide +kernel
theorem dX3_wonByTaking_48 : decode cX3_wonByTaking 48 = .ok (.lload 4, 2) := by decide +kernel
theorem dX3_wonByTaking_50 : decode cX3_wonByTaking 50 = .ok (.aload_n 0, 1) := by decide +kernel
theorem dX3_wonByTaking_51 : decode cX3_wonByTaking 51 = .ok (.iload_n 3, 1) := by decide +kernel
theorem dX3_wonByTaking_52 : decode cX3_wonByTaking 52 = .ok (.iload 6, 2) := by decide +kernel
theorem dX3_wonByTaking_54 : decode cX3_wonByTaking 54 = .ok (.isub, 1) := by decide +kernel
theorem dX3_wonByTaking_55 : decode cX3_wonByTaking 55 = .ok (.laload, 1) := by decide +kernel
theorem dX3_wonByTaking_56 : decode cX3_wonByTaking 56 = .ok (.lor, 1) := by decide +kernel
theorem dX3_wonByTaking_57 : decode cX3_wonByTaking 57 = .ok (.lstore 4, 2) := by decide +kernel
theorem dX3_wonByTaking_59 : decode cX3_wonByTaking 59 = .ok (.iinc 6 1, 3) := by decide +kernel
theorem dX3_wonByTaking_62 : decode cX3_wonByTaking 62 = .ok (.goto (-20), 3) := by decide +kernel
theorem dX3_wonByTaking_65 : decode cX3_wonByTaking 65 = .ok (.iconst 1, 1) := by decide +kernel
theorem dX3_wonByTaking_66 : decode cX3_wonByTaking 66 = .ok (.istore 6, 2) := by decide +kernel
theorem dX3_wonByTaking_68 : decode cX3_wonByTaking 68 = .ok (.iload 6, 2) := by decide +kernel
theorem dX3_wonByTaking_70 : decode cX3_wonByTaking 70 = .ok (.iload_n 1, 1) := by decide +kernel
theorem dX3_wonByTaking_71 : decode cX3_wonByTaking 71 = .ok (.if_icmp .gt 35, 3) := by decide +kernel
theorem dX3_wonByTaking_74 : decode cX3_wonByTaking 74 = .ok (.iload 6, 2) := by decide +kernel
theorem dX3_wonByTaking_76 : decode cX3_wonByTaking 76 = .ok (.iload_n 2, 1) := by decide +kernel
theorem dX3_wonByTaking_77 : decode cX3_wonByTaking 77 = .ok (.if_icmp .gt 29, 3) := by decide +kernel
theorem dX3_wonByTaking_80 : decode cX3_wonByTaking 80 = .ok (.lload 4, 2) := by decide +kernel
theorem dX3_wonByTaking_82 : decode cX3_wonByTaking 82 = .ok (.aload_n 0, 1) := by decide +kernel
theorem dX3_wonByTaking_83 : decode cX3_wonByTaking 83 = .ok (.iload_n 3, 1) := by decide +kernel
theorem dX3_wonByTaking_84 : decode cX3_wonByTaking 84 = .ok (.iload 6, 2) := by decide +kernel
theorem dX3_wonByTaking_86 : decode cX3_wonByTaking 86 = .ok (.bipush 11, 2) := by decide +kernel
theorem dX3_wonByTaking_88 : decode cX3_wonByTaking 88 = .ok (.imul, 1) := by decide +kernel
theorem dX3_wonByTaking_89 : decode cX3_wonByTaking 89 = .ok (.isub, 1) := by decide +kernel
theorem dX3_wonByTaking_90 : decode cX3_wonByTaking 90 = .ok (.iload 6, 2) := by decide +kernel
theorem dX3_wonByTaking_92 : decode cX3_wonByTaking 92 = .ok (.isub, 1) := by decide +kernel
theorem dX3_wonByTaking_93 : decode cX3_wonByTaking 93 = .ok (.laload, 1) := by decide +kernel
theorem dX3_wonByTaking_94 : decode cX3_wonByTaking 94 = .ok (.iload 6, 2) := by decide +kernel
theorem dX3_wonByTaking_96 : decode cX3_wonByTaking 96 = .ok (.lshl, 1) := by decide +kernel
theorem dX3_wonByTaking_97 : decode cX3_wonByTaking 97 = .ok (.lor, 1) := by decide +kernel
theorem dX3_wonByTaking_98 : decode cX3_wonByTaking 98 = .ok (.lstore 4, 2) := by decide +kernel
theorem dX3_wonByTaking_100 : decode cX3_wonByTaking 100 = .ok (.iinc 6 1, 3) := by decide +kernel
theorem dX3_wonByTaking_103 : decode cX3_wonByTaking 103 = .ok (.goto (-35), 3) := by decide +kernel
theorem dX3_wonByTaking_106 : decode cX3_wonByTaking 106 = .ok (.lload 4, 2) := by decide +kernel
theorem dX3_wonByTaking_108 : decode cX3_wonByTaking 108 = .ok (.lreturn, 1) := by decide +kernel
theorem dX3_lostInLine_0 : decode cX3_lostInLine 0 = .ok (.iload_n 3, 1) := by decide +kernel
theorem dX3_lostInLine_1 : decode cX3_lostInLine 1 = .ok (.ifCond .eq 9, 3) := by decide +kernel
theorem dX3_lostInLine_4 : decode cX3_lostInLine 4 = .ok (.lload_n 0, 1) := by decide +kernel
theorem dX3_lostInLine_5 : decode cX3_lostInLine 5 = .ok (.lconst 1, 1) := by decide +kernel
theorem dX3_lostInLine_6 : decode cX3_lostInLine 6 = .ok (.lor, 1) := by decide +kernel
theorem dX3_lostInLine_7 : decode cX3_lostInLine 7 = .ok (.goto 4, 3) := by decide +kernel
theorem dX3_lostInLine_10 : decode cX3_lostInLine 10 = .ok (.lload_n 0, 1) := by decide +kernel
theorem dX3_lostInLine_11 : decode cX3_lostInLine 11 = .ok (.lstore 4, 2) := by decide +kernel
theorem dX3_lostInLine_13 : decode cX3_lostInLine 13 = .ok (.lload 4, 2) := by decide +kernel
theorem dX3_lostInLine_15 : decode cX3_lostInLine 15 = .ok (.ldc2_w 56, 3) := by decide +kernel
theorem dX3_lostInLine_18 : decode cX3_lostInLine 18 = .ok (.lxor, 1) := by decide +kernel
theorem dX3_lostInLine_19 : decode cX3_lostInLine 19 = .ok (.lconst 1, 1) := by decide +kernel
theorem dX3_lostInLine_20 : decode cX3_lostInLine 20 = .ok (.iload_n 2, 1) := by decide +kernel
theorem dX3_lostInLine_21 : decode cX3_lostInLine 21 = .ok (.lshl, 1) := by decide +kernel
theorem dX3_lostInLine_22 : decode cX3_lostInLine 22 = .ok (.lconst 1, 1) := by decide +kernel
theorem dX3_lostInLine_23 : decode cX3_lostInLine 23 = .ok (.lsub, 1) := by decide +kernel
theorem dX3_lostInLine_24 : decode cX3_lostInLine 24 = .ok (.land, 1) := by decide +kernel
theorem dX3_lostInLine_25 : decode cX3_lostInLine 25 = .ok (.lstore 6, 2) := by decide +kernel
theorem dX3_lostInLine_27 : decode cX3_lostInLine 27 = .ok (.lload 6, 2) := by decide +kernel
theorem dX3_lostInLine_29 : decode cX3_lostInLine 29 = .ok (.lload 6, 2) := by decide +kernel
theorem dX3_lostInLine_31 : decode cX3_lostInLine 31 = .ok (.lneg, 1) := by decide +kernel
theorem dX3_lostInLine_32 : decode cX3_lostInLine 32 = .ok (.land, 1) := by decide +kernel
theorem dX3_lostInLine_33 : decode cX3_lostInLine 33 = .ok (.lreturn, 1) := by decide +kernel
theorem dX4_init_0 : decode cX4_init 0 = .ok (.aload_n 0, 1) := by decide +kernel
theorem dX4_init_1 : decode cX4_init 1 = .ok (.invokespecial 3, 3) := by decide +kernel
theorem dX4_init_4 : decode cX4_init 4 = .ok (.aload_n 0, 1) := by decide +kernel
theorem dX4_init_5 : decode cX4_init 5 = .ok (.iconst 3, 1) := by decide +kernel
theorem dX4_init_6 : decode cX4_init 6 = .ok (.newarray .long, 2) := by decide +kernel
theorem dX4_init_8 : decode cX4_init 8 = .ok (.putfield 11, 3) := by decide +kernel
theorem dX4_init_11 : decode cX4_init 11 = .ok (.aload_n 0, 1) := by decide +kernel
theorem dX4_init_12 : decode cX4_init 12 = .ok (.sipush 200, 3) := by decide +kernel
theorem dX4_init_15 : decode cX4_init 15 = .ok (.newarray .int, 2) := by decide +kernel
theorem dX4_init_17 : decode cX4_init 17 = .ok (.putfield 15, 3) := by decide +kernel
theorem dX4_init_20 : decode cX4_init 20 = .ok (.aload_n 0, 1) := by decide +kernel
theorem dX4_init_21 : decode cX4_init 21 = .ok (.sipush 200, 3) := by decide +kernel
theorem dX4_init_24 : decode cX4_init 24 = .ok (.newarray .long, 2) := by decide +kernel
theorem dX4_init_26 : decode cX4_init 26 = .ok (.putfield 19, 3) := by decide +kernel
theorem dX4_init_29 : decode cX4_init 29 = .ok (.aload_n 0, 1) := by decide +kernel
theorem dX4_init_30 : decode cX4_init 30 = .ok (.sipush 200, 3) := by decide +kernel
theorem dX4_init_33 : decode cX4_init 33 = .ok (.newarray .boolean, 2) := by decide +kernel
theorem dX4_init_35 : decode cX4_init 35 = .ok (.putfield 22, 3) := by decide +kernel
theorem dX4_init_38 : decode cX4_init 38 = .ok (.aload_n 0, 1) := by decide +kernel
theorem dX4_init_39 : decode cX4_init 39 = .ok (.iconst 1, 1) := by decide +kernel
theorem dX4_init_40 : decode cX4_init 40 = .ok (.putfield 26, 3) := by decide +kernel
theorem dX4_init_43 : decode cX4_init 43 = .ok (.aload_n 0, 1) := by decide +kernel
theorem dX4_init_44 : decode cX4_init 44 = .ok (.aload_n 1, 1) := by decide +kernel
theorem dX4_init_45 : decode cX4_init 45 = .ok (.putfield 30, 3) := by decide +kernel
theorem dX4_init_48 : decode cX4_init 48 = .ok (.return_, 1) := by decide +kernel
theorem dX4_begin_0 : decode cX4_begin 0 = .ok (.aload_n 0, 1) := by decide +kernel
theorem dX4_begin_1 : decode cX4_begin 1 = .ok (.iload_n 1, 1) := by decide +kernel
theorem dX4_begin_2 : decode cX4_begin 2 = .ok (.putfield 26, 3) := by decide +kernel
theorem dX4_begin_5 : decode cX4_begin 5 = .ok (.aload_n 0, 1) := by decide +kernel
theorem dX4_begin_6 : decode cX4_begin 6 = .ok (.iload_n 2, 1) := by decide +kernel
theorem dX4_begin_7 : decode cX4_begin 7 = .ok (.putfield 34, 3) := by decide +kernel
theorem dX4_begin_10 : decode cX4_begin 10 = .ok (.aload_n 0, 1) := by decide +kernel
theorem dX4_begin_11 : decode cX4_begin 11 = .ok (.aload_n 0, 1) := by decide +kernel
theorem dX4_begin_12 : decode cX4_begin 12 = .ok (.getfield 26, 3) := by decide +kernel
theorem dX4_begin_15 : decode cX4_begin 15 = .ok (.iconst 2, 1) := by decide +kernel
theorem dX4_begin_16 : decode cX4_begin 16 = .ok (.if_icmp .ne 9, 3) := by decide +kernel
theorem dX4_begin_19 : decode cX4_begin 19 = .ok (.lload 5, 2) := by decide +kernel
theorem dX4_begin_21 : decode cX4_begin 21 = .ok (.l2i, 1) := by decide +kernel
theorem dX4_begin_22 : decode cX4_begin 22 = .ok (.goto 4, 3) := by decide +kernel
theorem dX4_begin_25 : decode cX4_begin 25 = .ok (.iconst 0, 1) := by decide +kernel
theorem dX4_begin_26 : decode cX4_begin 26 = .ok (.putfield 38, 3) := by decide +kernel
theorem dX4_begin_29 : decode cX4_begin 29 = .ok (.aload_n 0, 1) := by decide +kernel
theorem dX4_begin_30 : decode cX4_begin 30 = .ok (.getfield 11, 3) := by decide +kernel
theorem dX4_begin_33 : decode cX4_begin 33 = .ok (.iconst 0, 1) := by decide +kernel
theorem dX4_begin_34 : decode cX4_begin 34 = .ok (.lload_n 3, 1) := by decide +kernel
theorem dX4_begin_35 : decode cX4_begin 35 = .ok (.lastore, 1) := by decide +kernel
theorem dX4_begin_36 : decode cX4_begin 36 = .ok (.aload_n 0, 1) := by decide +kernel
theorem dX4_begin_37 : decode cX4_begin 37 = .ok (.getfield 11, 3) := by decide +kernel
theorem dX4_begin_40 : decode cX4_begin 40 = .ok (.iconst 1, 1) := by decide +kernel
theorem dX4_begin_41 : decode cX4_begin 41 = .ok (.aload_n 0, 1) := by decide +kernel
theorem dX4_begin_42 : decode cX4_begin 42 = .ok (.getfield 26, 3) := by decide +kernel
theorem dX4_begin_45 : decode cX4_begin 45 = .ok (.iconst 2, 1) := by decide +kernel
theorem dX4_begin_46 : decode cX4_begin 46 = .ok (.if_icmp .ne 7, 3) := by decide +kernel
theorem dX4_begin_49 : decode cX4_begin 49 = .ok (.lconst 0, 1) := by decide +kernel
theorem dX4_begin_50 : decode cX4_begin 50 = .ok (.goto 5, 3) := by decide +kernel
theorem dX4_begin_53 : decode cX4_begin 53 = .ok (.lload 5, 2) := by decide +kernel
theorem dX4_begin_55 : decode cX4_begin 55 = .ok (.lastore, 1) := by decide +kernel
theorem dX4_begin_56 : decode cX4_begin 56 = .ok (.aload_n 0, 1) := by decide +kernel
theorem dX4_begin_57 : decode cX4_begin 57 = .ok (.getfield 11, 3) := by decide +kernel
theorem dX4_begin_60 : decode cX4_begin 60 = .ok (.iconst 2, 1) := by decide +kernel
theorem dX4_begin_61 : decode cX4_begin 61 = .ok (.aload_n 0, 1) := by decide +kernel
theorem dX4_begin_62 : decode cX4_begin 62 = .ok (.getfield 26, 3) := by decide +kernel
theorem dX4_begin_65 : decode cX4_begin 65 = .ok (.iconst 3, 1) := by decide +kernel
theorem dX4_begin_66 : decode cX4_begin 66 = .ok (.if_icmp .ne 8, 3) := by decide +kernel
theorem dX4_begin_69 : decode cX4_begin 69 = .ok (.lload 7, 2) := by decide +kernel
theorem dX4_begin_71 : decode cX4_begin 71 = .ok (.goto 4, 3) := by decide +kernel
theorem dX4_begin_74 : decode cX4_begin 74 = .ok (.lconst 0, 1) := by decide +kernel
theorem dX4_begin_75 : decode cX4_begin 75 = .ok (.lastore, 1) := by decide +kernel
theorem dX4_begin_76 : decode cX4_begin 76 = .ok (.aload_n 0, 1) := by decide +kernel
theorem dX4_begin_77 : decode cX4_begin 77 = .ok (.iconst 0, 1) := by decide +kernel
theorem dX4_begin_78 : decode cX4_begin 78 = .ok (.putfield 41, 3) := by decide +kernel
theorem dX4_begin_81 : decode cX4_begin 81 = .ok (.return_, 1) := by decide +kernel
theorem dX4_movesMade_0 : decode cX4_movesMade 0 = .ok (.aload_n 0, 1) := by decide +kernel
theorem dX4_movesMade_1 : decode cX4_movesMade 1 = .ok (.getfield 41, 3) := by decide +kernel
theorem dX4_movesMade_4 : decode cX4_movesMade 4 = .ok (.ireturn, 1) := by decide +kernel
set_option maxRecDepth 20000 in
theorem ggX4_ways_X4_heapCount : GoodIn wsX4_ways wsX4_heapCount := goodIn_r _ [6, 1, 7, 8, 9, 10, 11, 12, 13, 14, 15] (by decide +kernel) (by decide +kernel)
set_option maxRecDepth 20000 in
theorem gX4_ways_X4_heapCount : GoodIn wsX4_ways (wsV RX4 44 RX4 yX4_heapCount wsX4_heapCount) := goodIn_app (goodIn_of _ (by decide +kernel)) ggX4_ways_X4_heapCount
theorem dX4_ways_0 : decode cX4_ways 0 = .ok (.aload_n 0, 1) := by decide +kernel
theorem dX4_ways_1 : decode cX4_ways 1 = .ok (.getfield 26, 3) := by decide +kernel
theorem dX4_ways_4 : decode cX4_ways 4 = .ok (.iconst 1, 1) := by decide +kernel
theorem dX4_ways_5 : decode cX4_ways 5 = .ok (.if_icmp .eq 11, 3) := by decide +kernel
theorem dX4_ways_8 : decode cX4_ways 8 = .ok (.aload_n 0, 1) := by decide +kernel
theorem dX4_ways_9 : decode cX4_ways 9 = .ok (.getfield 26, 3) := by decide +kernel
theorem dX4_ways_12 : decode cX4_ways 12 = .ok (.iconst 3, 1) := by decide +kernel
theorem dX4_ways_13 : decode cX4_ways 13 = .ok (.if_icmp .ne 12, 3) := by decide +kernel
theorem dX4_ways_16 : decode cX4_ways 16 = .ok (.aload_n 0, 1) := by decide +kernel
theorem dX4_ways_17 : decode cX4_ways 17 = .ok (.invokevirtual 44, 3) := by decide +kernel
theorem dX4_ways_20 : decode cX4_ways 20 = .ok (.iconst 1, 1) := by decide +kernel
theorem dX4_ways_21 : decode cX4_ways 21 = .ok (.iadd, 1) := by decide +kernel
theorem dX4_ways_22 : decode cX4_ways 22 = .ok (.goto 7, 3) := by decide +kernel
theorem dX4_ways_25 : decode cX4_ways 25 = .ok (.aload_n 0, 1) := by decide +kernel
theorem dX4_ways_26 : decode cX4_ways 26 = .ok (.invokevirtual 44, 3) := by decide +kernel
theorem dX4_ways_29 : decode cX4_ways 29 = .ok (.ireturn, 1) := by decide +kernel
set_option maxRecDepth 20000 in
theorem ggX4_mayTake_X4_heapCount : GoodIn wsX4_mayTake wsX4_heapCount := goodIn_r _ [8, 3, 27, 28, 29, 30, 31, 32, 33, 34, 35] (by decide +kernel) (by decide +kernel)
set_option maxRecDepth 20000 in
theorem gX4_mayTake_X4_heapCount : GoodIn wsX4_mayTake (wsV RX4 44 RX4 yX4_heapCount wsX4_heapCount) := goodIn_app (goodIn_of _ (by decide +kernel)) ggX4_mayTake_X4_heapCount
set_option maxRecDepth 20000 in
theorem ggX4_mayTake_X4_takesFrom : GoodIn wsX4_mayTake wsX4_takesFrom := goodIn_r _ [12, 4, 5, 6, 7, 8, 3, 27, 28, 29, 30, 31, 32, 33, 34, 35] (by decide +kernel) (by decide +kernel)
set_option maxRecDepth 20000 in
theorem gX4_mayTake_X4_takesFrom : GoodIn wsX4_mayTake (wsV RX4 48 RX4 yX4_takesFrom wsX4_takesFrom) := goodIn_app (goodIn_of _ (by decide +kernel)) ggX4_mayTake_X4_takesFrom
set_option maxRecDepth 20000 in
theorem ggX4_mayTake_X4_bound : GoodIn wsX4_mayTake wsX4_bound := goodIn_r _ [16, 3, 1, 2, 17, 18, 19, 20, 21, 22, 23, 24, 25, 26, 27, 28, 29, 30, 31, 32, 33, 34, 35] (by decide +kernel) (by decide +kernel)
set_option maxRecDepth 20000 in
theorem gX4_mayTake_X4_bound : GoodIn wsX4_mayTake (wsV RX4 52 RX4 yX4_bound wsX4_bound) := goodIn_app (goodIn_of _ (by decide +kernel)) ggX4_mayTake_X4_bound
theorem dX4_mayTake_0 : decode cX4_mayTake 0 = .ok (.aload_n 0, 1) := by decide +kernel
theorem dX4_mayTake_1 : decode cX4_mayTake 1 = .ok (.getfield 41, 3) := by decide +kernel
theorem dX4_mayTake_4 : decode cX4_mayTake 4 = .ok (.sipush 200, 3) := by decide +kernel
theorem dX4_mayTake_7 : decode cX4_mayTake 7 = .ok (.if_icmp .ge 9, 3) := by decide +kernel
theorem dX4_mayTake_10 : decode cX4_mayTake 10 = .ok (.lload_n 2, 1) := by decide +kernel
theorem dX4_mayTake_11 : decode cX4_mayTake 11 = .ok (.lconst 1, 1) := by decide +kernel
theorem dX4_mayTake_12 : decode cX4_mayTake 12 = .ok (.lcmp, 1) := by decide +kernel
theorem dX4_mayTake_13 : decode cX4_mayTake 13 = .ok (.ifCond .ge 5, 3) := by decide +kernel
theorem dX4_mayTake_16 : decode cX4_mayTake 16 = .ok (.iconst 0, 1) := by decide +kernel
theorem dX4_mayTake_17 : decode cX4_mayTake 17 = .ok (.ireturn, 1) := by decide +kernel
theorem dX4_mayTake_18 : decode cX4_mayTake 18 = .ok (.iconst 0, 1) := by decide +kernel
theorem dX4_mayTake_19 : decode cX4_mayTake 19 = .ok (.istore 4, 2) := by decide +kernel
theorem dX4_mayTake_21 : decode cX4_mayTake 21 = .ok (.iload 4, 2) := by decide +kernel
theorem dX4_mayTake_23 : decode cX4_mayTake 23 = .ok (.aload_n 0, 1) := by decide +kernel
theorem dX4_mayTake_24 : decode cX4_mayTake 24 = .ok (.invokevirtual 44, 3) := by decide +kernel
theorem dX4_mayTake_27 : decode cX4_mayTake 27 = .ok (.if_icmp .ge 33, 3) := by decide +kernel
theorem dX4_mayTake_30 : decode cX4_mayTake 30 = .ok (.aload_n 0, 1) := by decide +kernel
theorem dX4_mayTake_31 : decode cX4_mayTake 31 = .ok (.iload_n 1, 1) := by decide +kernel
theorem dX4_mayTake_32 : decode cX4_mayTake 32 = .ok (.iload 4, 2) := by decide +kernel
theorem dX4_mayTake_34 : decode cX4_mayTake 34 = .ok (.invokevirtual 48, 3) := by decide +kernel
theorem dX4_mayTake_37 : decode cX4_mayTake 37 = .ok (.ifCond .eq 17, 3) := by decide +kernel
theorem dX4_mayTake_40 : decode cX4_mayTake 40 = .ok (.lload_n 2, 1) := by decide +kernel
theorem dX4_mayTake_41 : decode cX4_mayTake 41 = .ok (.aload_n 0, 1) := by decide +kernel
theorem dX4_mayTake_42 : decode cX4_mayTake 42 = .ok (.getfield 11, 3) := by decide +kernel
theorem dX4_mayTake_45 : decode cX4_mayTake 45 = .ok (.iload 4, 2) := by decide +kernel
theorem dX4_mayTake_47 : decode cX4_mayTake 47 = .ok (.laload, 1) := by decide +kernel
theorem dX4_mayTake_48 : decode cX4_mayTake 48 = .ok (.lcmp, 1) := by decide +kernel
theorem dX4_mayTake_49 : decode cX4_mayTake 49 = .ok (.ifCond .le 5, 3) := by decide +kernel
theorem dX4_mayTake_52 : decode cX4_mayTake 52 = .ok (.iconst 0, 1) := by decide +kernel
theorem dX4_mayTake_53 : decode cX4_mayTake 53 = .ok (.ireturn, 1) := by decide +kernel
theorem dX4_mayTake_54 : decode cX4_mayTake 54 = .ok (.iinc 4 1, 3) := by decide +kernel
theorem dX4_mayTake_57 : decode cX4_mayTake 57 = .ok (.goto (-36), 3) := by decide +kernel
theorem dX4_mayTake_60 : decode cX4_mayTake 60 = .ok (.aload_n 0, 1) := by decide +kernel
theorem dX4_mayTake_61 : decode cX4_mayTake 61 = .ok (.getfield 26, 3) := by decide +kernel
theorem dX4_mayTake_64 : decode cX4_mayTake 64 = .ok (.ifCond .ne 41, 3) := by decide +kernel
theorem dX4_mayTake_67 : decode cX4_mayTake 67 = .ok (.aload_n 0, 1) := by decide +kernel
theorem dX4_mayTake_68 : decode cX4_mayTake 68 = .ok (.getfield 11, 3) := by decide +kernel
theorem dX4_mayTake_71 : decode cX4_mayTake 71 = .ok (.iload_n 1, 1) := by decide +kernel
theorem dX4_mayTake_72 : decode cX4_mayTake 72 = .ok (.ifCond .ne 7, 3) := by decide +kernel
theorem dX4_mayTake_75 : decode cX4_mayTake 75 = .ok (.iconst 1, 1) := by decide +kernel
theorem dX4_mayTake_76 : decode cX4_mayTake 76 = .ok (.goto 4, 3) := by decide +kernel
theorem dX4_mayTake_79 : decode cX4_mayTake 79 = .ok (.iconst 0, 1) := by decide +kernel
theorem dX4_mayTake_80 : decode cX4_mayTake 80 = .ok (.laload, 1) := by decide +kernel
theorem dX4_mayTake_81 : decode cX4_mayTake 81 = .ok (.lstore 4, 2) := by decide +kernel
theorem dX4_mayTake_83 : decode cX4_mayTake 83 = .ok (.lload 4, 2) := by decide +kernel
theorem dX4_mayTake_85 : decode cX4_mayTake 85 = .ok (.lconst 0, 1) := by decide +kernel
theorem dX4_mayTake_86 : decode cX4_mayTake 86 = .ok (.lcmp, 1) := by decide +kernel
theorem dX4_mayTake_87 : decode cX4_mayTake 87 = .ok (.ifCond .le 16, 3) := by decide +kernel
theorem dX4_mayTake_90 : decode cX4_mayTake 90 = .ok (.lload_n 2, 1) := by decide +kernel
theorem dX4_mayTake_91 : decode cX4_mayTake 91 = .ok (.lload 4, 2) := by decide +kernel
theorem dX4_mayTake_93 : decode cX4_mayTake 93 = .ok (.lrem, 1) := by decide +kernel
theorem dX4_mayTake_94 : decode cX4_mayTake 94 = .ok (.lconst 0, 1) := by decide +kernel
theorem dX4_mayTake_95 : decode cX4_mayTake 95 = .ok (.lcmp, 1) := by decide +kernel
theorem dX4_mayTake_96 : decode cX4_mayTake 96 = .ok (.ifCond .ne 7, 3) := by decide +kernel
theorem dX4_mayTake_99 : decode cX4_mayTake 99 = .ok (.iconst 1, 1) := by decide +kernel
theorem dX4_mayTake_100 : decode cX4_mayTake 100 = .ok (.goto 4, 3) := by decide +kernel
theorem dX4_mayTake_103 : decode cX4_mayTake 103 = .ok (.iconst 0, 1) := by decide +kernel
theorem dX4_mayTake_104 : decode cX4_mayTake 104 = .ok (.ireturn, 1) := by decide +kernel
theorem dX4_mayTake_105 : decode cX4_mayTake 105 = .ok (.aload_n 0, 1) := by decide +kernel
theorem dX4_mayTake_106 : decode cX4_mayTake 106 = .ok (.getfield 26, 3) := by decide +kernel
theorem dX4_mayTake_109 : decode cX4_mayTake 109 = .ok (.iconst 2, 1) := by decide +kernel
theorem dX4_mayTake_110 : decode cX4_mayTake 110 = .ok (.if_icmp .ne 12, 3) := by decide +kernel
theorem dX4_mayTake_113 : decode cX4_mayTake 113 = .ok (.lload_n 2, 1) := by decide +kernel
theorem dX4_mayTake_114 : decode cX4_mayTake 114 = .ok (.aload_n 0, 1) := by decide +kernel
theorem dX4_mayTake_115 : decode cX4_mayTake 115 = .ok (.invokevirtual 52, 3) := by decide +kernel
theorem dX4_mayTake_118 : decode cX4_mayTake 118 = .ok (.lcmp, 1) := by decide +kernel
theorem dX4_mayTake_119 : decode cX4_mayTake 119 = .ok (.ifCond .gt 7, 3) := by decide +kernel
theorem dX4_mayTake_122 : decode cX4_mayTake 122 = .ok (.iconst 1, 1) := by decide +kernel
theorem dX4_mayTake_123 : decode cX4_mayTake 123 = .ok (.goto 4, 3) := by decide +kernel
theorem dX4_mayTake_126 : decode cX4_mayTake 126 = .ok (.iconst 0, 1) := by decide +kernel
theorem dX4_mayTake_127 : decode cX4_mayTake 127 = .ok (.ireturn, 1) := by decide +kernel
set_option maxRecDepth 20000 in
theorem ggX4_take_X4_isWon : GoodIn wsX4_take wsX4_isWon := goodIn_r _ [9, 10, 11, 12, 13, 14, 15, 16, 17, 8, 18, 1, 19, 20, 21, 22, 23, 3, 24, 25, 26, 27, 28, 29, 30, 31, 32, 33, 34, 35, 36, 37, 38, 39, 40, 41, 42, 43, 44, 45, 46, 47, 48, 49, 50, 51, 52, 53, 54, 55, 56, 57, 58, 59, 60, 61, 62, 63, 64, 65, 66, 67, 68, 69, 70, 71, 72, 73, 74, 75, 76, 77, 78, 79, 80, 81, 82, 83, 84, 85, 86, 87, 88, 89, 90, 91, 92, 93, 94, 95, 96, 97, 98, 99, 100, 101, 102, 103, 104, 105, 106, 107, 108, 109, 110, 111, 112, 113, 114, 115, 116, 117, 118, 119, 120, 121, 122, 123, 124, 125, 126, 127, 128, 129, 130, 131, 132, 133, 134, 135, 136, 137, 138, 139, 140, 153, 154, 155, 156, 157, 158, 159, 160, 161, 162, 163, 164, 165, 166, 167, 168, 169, 170, 171, 172, 173, 174] (by decide +kernel) (by decide +kernel)
set_option maxRecDepth 20000 in
theorem gX4_take_X4_isWon : GoodIn wsX4_take (wsV RX4 56 RX4 yX4_isWon wsX4_isWon) := goodIn_app (goodIn_of _ (by decide +kernel)) ggX4_take_X4_isWon
set_option maxRecDepth 20000 in
theorem ggX4_take_X4_addToHeaps : GoodIn wsX4_take wsX4_addToHeaps := goodIn_r _ [144, 13, 145, 146, 147, 8, 148, 10, 149, 150, 151, 152, 153, 154, 155, 156, 157, 158, 159, 160, 161] (by decide +kernel) (by decide +kernel)
set_option maxRecDepth 20000 in
theorem gX4_take_X4_addToHeaps : GoodIn wsX4_take (wsV RX4 60 RX4 yX4_addToHeaps wsX4_addToHeaps) := goodIn_app (goodIn_of _ (by decide +kernel)) ggX4_take_X4_addToHeaps
theorem dX4_take_0 : decode cX4_take 0 = .ok (.aload_n 0, 1) := by decide +kernel
theorem dX4_take_1 : decode cX4_take 1 = .ok (.getfield 41, 3) := by decide +kernel
theorem dX4_take_4 : decode cX4_take 4 = .ok (.sipush 200, 3) := by decide +kernel
theorem dX4_take_7 : decode cX4_take 7 = .ok (.if_icmp .lt 4, 3) := by decide +kernel
theorem dX4_take_10 : decode cX4_take 10 = .ok (.return_, 1) := by decide +kernel
theorem dX4_take_11 : decode cX4_take 11 = .ok (.aload_n 0, 1) := by decide +kernel
theorem dX4_take_12 : decode cX4_take 12 = .ok (.invokevirtual 56, 3) := by decide +kernel
theorem dX4_take_15 : decode cX4_take 15 = .ok (.istore 4, 2) := by decide +kernel
theorem dX4_take_17 : decode cX4_take 17 = .ok (.aload_n 0, 1) := by decide +kernel
theorem dX4_take_18 : decode cX4_take 18 = .ok (.getfield 15, 3) := by decide +kernel
theorem dX4_take_21 : decode cX4_take 21 = .ok (.aload_n 0, 1) := by decide +kernel
theorem dX4_take_22 : decode cX4_take 22 = .ok (.getfield 41, 3) := by decide +kernel
theorem dX4_take_25 : decode cX4_take 25 = .ok (.iload_n 1, 1) := by decide +kernel
theorem dX4_take_26 : decode cX4_take 26 = .ok (.iastore, 1) := by decide +kernel
theorem dX4_take_27 : decode cX4_take 27 = .ok (.aload_n 0, 1) := by decide +kernel
theorem dX4_take_28 : decode cX4_take 28 = .ok (.getfield 19, 3) := by decide +kernel
theorem dX4_take_31 : decode cX4_take 31 = .ok (.aload_n 0, 1) := by decide +kernel
theorem dX4_take_32 : decode cX4_take 32 = .ok (.getfield 41, 3) := by decide +kernel
theorem dX4_take_35 : decode cX4_take 35 = .ok (.lload_n 2, 1) := by decide +kernel
theorem dX4_take_36 : decode cX4_take 36 = .ok (.lastore, 1) := by decide +kernel
theorem dX4_take_37 : decode cX4_take 37 = .ok (.aload_n 0, 1) := by decide +kernel
theorem dX4_take_38 : decode cX4_take 38 = .ok (.iload_n 1, 1) := by decide +kernel
theorem dX4_take_39 : decode cX4_take 39 = .ok (.lload_n 2, 1) := by decide +kernel
theorem dX4_take_40 : decode cX4_take 40 = .ok (.lneg, 1) := by decide +kernel
theorem dX4_take_41 : decode cX4_take 41 = .ok (.invokevirtual 60, 3) := by decide +kernel
theorem dX4_take_44 : decode cX4_take 44 = .ok (.aload_n 0, 1) := by decide +kernel
theorem dX4_take_45 : decode cX4_take 45 = .ok (.dup, 1) := by decide +kernel
theorem dX4_take_46 : decode cX4_take 46 = .ok (.getfield 41, 3) := by decide +kernel
theorem dX4_take_49 : decode cX4_take 49 = .ok (.iconst 1, 1) := by decide +kernel
theorem dX4_take_50 : decode cX4_take 50 = .ok (.iadd, 1) := by decide +kernel
theorem dX4_take_51 : decode cX4_take 51 = .ok (.putfield 41, 3) := by decide +kernel
theorem dX4_take_54 : decode cX4_take 54 = .ok (.aload_n 0, 1) := by decide +kernel
theorem dX4_take_55 : decode cX4_take 55 = .ok (.getfield 22, 3) := by decide +kernel
theorem dX4_take_58 : decode cX4_take 58 = .ok (.aload_n 0, 1) := by decide +kernel
theorem dX4_take_59 : decode cX4_take 59 = .ok (.getfield 41, 3) := by decide +kernel
theorem dX4_take_62 : decode cX4_take 62 = .ok (.iconst 1, 1) := by decide +kernel
theorem dX4_take_63 : decode cX4_take 63 = .ok (.isub, 1) := by decide +kernel
theorem dX4_take_64 : decode cX4_take 64 = .ok (.iload 4, 2) := by decide +kernel
theorem dX4_take_66 : decode cX4_take 66 = .ok (.ifCond .eq 14, 3) := by decide +kernel
theorem dX4_take_69 : decode cX4_take 69 = .ok (.aload_n 0, 1) := by decide +kernel
theorem dX4_take_70 : decode cX4_take 70 = .ok (.invokevirtual 56, 3) := by decide +kernel
theorem dX4_take_73 : decode cX4_take 73 = .ok (.ifCond .eq 7, 3) := by decide +kernel
theorem dX4_take_76 : decode cX4_take 76 = .ok (.iconst 1, 1) := by decide +kernel
theorem dX4_take_77 : decode cX4_take 77 = .ok (.goto 4, 3) := by decide +kernel
theorem dX4_take_80 : decode cX4_take 80 = .ok (.iconst 0, 1) := by decide +kernel
theorem dX4_take_81 : decode cX4_take 81 = .ok (.bastore, 1) := by decide +kernel
theorem dX4_take_82 : decode cX4_take 82 = .ok (.return_, 1) := by decide +kernel
set_option maxRecDepth 20000 in
theorem ggX4_takeBack_X4_addToHeaps : GoodIn wsX4_takeBack wsX4_addToHeaps := goodIn_r _ [8, 9, 10, 11, 12, 7, 13, 14, 15, 16, 17, 18, 19, 20, 21, 22, 23, 24, 25, 26, 27] (by decide +kernel) (by decide +kernel)
set_option maxRecDepth 20000 in
theorem gX4_takeBack_X4_addToHeaps : GoodIn wsX4_takeBack (wsV RX4 60 RX4 yX4_addToHeaps wsX4_addToHeaps) := goodIn_app (goodIn_of _ (by decide +kernel)) ggX4_takeBack_X4_addToHeaps
theorem dX4_takeBack_0 : decode cX4_takeBack 0 = .ok (.aload_n 0, 1) := by decide +kernel
theorem dX4_takeBack_1 : decode cX4_takeBack 1 = .ok (.getfield 41, 3) := by decide +kernel
theorem dX4_takeBack_4 : decode cX4_takeBack 4 = .ok (.ifCond .gt 5, 3) := by decide +kernel
theorem dX4_takeBack_7 : decode cX4_takeBack 7 = .ok (.iconst 0, 1) := by decide +kernel
theorem dX4_takeBack_8 : decode cX4_takeBack 8 = .ok (.ireturn, 1) := by decide +kernel
theorem dX4_takeBack_9 : decode cX4_takeBack 9 = .ok (.aload_n 0, 1) := by decide +kernel
theorem dX4_takeBack_10 : decode cX4_takeBack 10 = .ok (.dup, 1) := by decide +kernel
theorem dX4_takeBack_11 : decode cX4_takeBack 11 = .ok (.getfield 41, 3) := by decide +kernel
theorem dX4_takeBack_14 : decode cX4_takeBack 14 = .ok (.iconst 1, 1) := by decide +kernel
theorem dX4_takeBack_15 : decode cX4_takeBack 15 = .ok (.isub, 1) := by decide +kernel
theorem dX4_takeBack_16 : decode cX4_takeBack 16 = .ok (.putfield 41, 3) := by decide +kernel
theorem dX4_takeBack_19 : decode cX4_takeBack 19 = .ok (.aload_n 0, 1) := by decide +kernel
theorem dX4_takeBack_20 : decode cX4_takeBack 20 = .ok (.aload_n 0, 1) := by decide +kernel
theorem dX4_takeBack_21 : decode cX4_takeBack 21 = .ok (.getfield 15, 3) := by decide +kernel
theorem dX4_takeBack_24 : decode cX4_takeBack 24 = .ok (.aload_n 0, 1) := by decide +kernel
theorem dX4_takeBack_25 : decode cX4_takeBack 25 = .ok (.getfield 41, 3) := by decide +kernel
theorem dX4_takeBack_28 : decode cX4_takeBack 28 = .ok (.iaload, 1) := by decide +kernel
theorem dX4_takeBack_29 : decode cX4_takeBack 29 = .ok (.aload_n 0, 1) := by decide +kernel
theorem dX4_takeBack_30 : decode cX4_takeBack 30 = .ok (.getfield 19, 3) := by decide +kernel
theorem dX4_takeBack_33 : decode cX4_takeBack 33 = .ok (.aload_n 0, 1) := by decide +kernel
theorem dX4_takeBack_34 : decode cX4_takeBack 34 = .ok (.getfield 41, 3) := by decide +kernel
theorem dX4_takeBack_37 : decode cX4_takeBack 37 = .ok (.laload, 1) := by decide +kernel
theorem dX4_takeBack_38 : decode cX4_takeBack 38 = .ok (.invokevirtual 60, 3) := by decide +kernel
theorem dX4_takeBack_41 : decode cX4_takeBack 41 = .ok (.iconst 1, 1) := by decide +kernel
theorem dX4_takeBack_42 : decode cX4_takeBack 42 = .ok (.ireturn, 1) := by decide +kernel
set_option maxRecDepth 20000 in
theorem ggX4_isOver_X4_bound : GoodIn wsX4_isOver wsX4_bound := goodIn_r _ [7, 1, 8, 2, 9, 10, 11, 12, 13, 14, 15, 16, 17, 18, 19, 20, 21, 22, 23, 24, 25, 26, 27] (by decide +kernel) (by decide +kernel)
set_option maxRecDepth 20000 in
theorem gX4_isOver_X4_bound : GoodIn wsX4_isOver (wsV RX4 52 RX4 yX4_bound wsX4_bound) := goodIn_app (goodIn_of _ (by decide +kernel)) ggX4_isOver_X4_bound
theorem dX4_isOver_0 : decode cX4_isOver 0 = .ok (.aload_n 0, 1) := by decide +kernel
theorem dX4_isOver_1 : decode cX4_isOver 1 = .ok (.getfield 26, 3) := by decide +kernel
theorem dX4_isOver_4 : decode cX4_isOver 4 = .ok (.ifCond .ne 31, 3) := by decide +kernel
theorem dX4_isOver_7 : decode cX4_isOver 7 = .ok (.aload_n 0, 1) := by decide +kernel
theorem dX4_isOver_8 : decode cX4_isOver 8 = .ok (.getfield 11, 3) := by decide +kernel
theorem dX4_isOver_11 : decode cX4_isOver 11 = .ok (.iconst 0, 1) := by decide +kernel
theorem dX4_isOver_12 : decode cX4_isOver 12 = .ok (.laload, 1) := by decide +kernel
theorem dX4_isOver_13 : decode cX4_isOver 13 = .ok (.lconst 0, 1) := by decide +kernel
theorem dX4_isOver_14 : decode cX4_isOver 14 = .ok (.lcmp, 1) := by decide +kernel
theorem dX4_isOver_15 : decode cX4_isOver 15 = .ok (.ifCond .eq 14, 3) := by decide +kernel
theorem dX4_isOver_18 : decode cX4_isOver 18 = .ok (.aload_n 0, 1) := by decide +kernel
theorem dX4_isOver_19 : decode cX4_isOver 19 = .ok (.getfield 11, 3) := by decide +kernel
theorem dX4_isOver_22 : decode cX4_isOver 22 = .ok (.iconst 1, 1) := by decide +kernel
theorem dX4_isOver_23 : decode cX4_isOver 23 = .ok (.laload, 1) := by decide +kernel
theorem dX4_isOver_24 : decode cX4_isOver 24 = .ok (.lconst 0, 1) := by decide +kernel
theorem dX4_isOver_25 : decode cX4_isOver 25 = .ok (.lcmp, 1) := by decide +kernel
theorem dX4_isOver_26 : decode cX4_isOver 26 = .ok (.ifCond .ne 7, 3) := by decide +kernel
theorem dX4_isOver_29 : decode cX4_isOver 29 = .ok (.iconst 1, 1) := by decide +kernel
theorem dX4_isOver_30 : decode cX4_isOver 30 = .ok (.goto 4, 3) := by decide +kernel
theorem dX4_isOver_33 : decode cX4_isOver 33 = .ok (.iconst 0, 1) := by decide +kernel
theorem dX4_isOver_34 : decode cX4_isOver 34 = .ok (.ireturn, 1) := by decide +kernel
theorem dX4_isOver_35 : decode cX4_isOver 35 = .ok (.aload_n 0, 1) := by decide +kernel
theorem dX4_isOver_36 : decode cX4_isOver 36 = .ok (.getfield 26, 3) := by decide +kernel
theorem dX4_isOver_39 : decode cX4_isOver 39 = .ok (.iconst 2, 1) := by decide +kernel
theorem dX4_isOver_40 : decode cX4_isOver 40 = .ok (.if_icmp .ne 29, 3) := by decide +kernel
theorem dX4_isOver_43 : decode cX4_isOver 43 = .ok (.aload_n 0, 1) := by decide +kernel
theorem dX4_isOver_44 : decode cX4_isOver 44 = .ok (.getfield 11, 3) := by decide +kernel
theorem dX4_isOver_47 : decode cX4_isOver 47 = .ok (.iconst 0, 1) := by decide +kernel
theorem dX4_isOver_48 : decode cX4_isOver 48 = .ok (.laload, 1) := by decide +kernel
theorem dX4_isOver_49 : decode cX4_isOver 49 = .ok (.lconst 0, 1) := by decide +kernel
theorem dX4_isOver_50 : decode cX4_isOver 50 = .ok (.lcmp, 1) := by decide +kernel
theorem dX4_isOver_51 : decode cX4_isOver 51 = .ok (.ifCond .eq 12, 3) := by decide +kernel
theorem dX4_isOver_54 : decode cX4_isOver 54 = .ok (.aload_n 0, 1) := by decide +kernel
theorem dX4_isOver_55 : decode cX4_isOver 55 = .ok (.invokevirtual 52, 3) := by decide +kernel
theorem dX4_isOver_58 : decode cX4_isOver 58 = .ok (.lconst 0, 1) := by decide +kernel
theorem dX4_isOver_59 : decode cX4_isOver 59 = .ok (.lcmp, 1) := by decide +kernel
theorem dX4_isOver_60 : decode cX4_isOver 60 = .ok (.ifCond .ne 7, 3) := by decide +kernel
theorem dX4_isOver_63 : decode cX4_isOver 63 = .ok (.iconst 1, 1) := by decide +kernel
theorem dX4_isOver_64 : decode cX4_isOver 64 = .ok (.goto 4, 3) := by decide +kernel
theorem dX4_isOver_67 : decode cX4_isOver 67 = .ok (.iconst 0, 1) := by decide +kernel
theorem dX4_isOver_68 : decode cX4_isOver 68 = .ok (.ireturn, 1) := by decide +kernel
theorem dX4_isOver_69 : decode cX4_isOver 69 = .ok (.aload_n 0, 1) := by decide +kernel
theorem dX4_isOver_70 : decode cX4_isOver 70 = .ok (.getfield 11, 3) := by decide +kernel
theorem dX4_isOver_73 : decode cX4_isOver 73 = .ok (.iconst 0, 1) := by decide +kernel
theorem dX4_isOver_74 : decode cX4_isOver 74 = .ok (.laload, 1) := by decide +kernel
theorem dX4_isOver_75 : decode cX4_isOver 75 = .ok (.lconst 0, 1) := by decide +kernel
theorem dX4_isOver_76 : decode cX4_isOver 76 = .ok (.lcmp, 1) := by decide +kernel
theorem dX4_isOver_77 : decode cX4_isOver 77 = .ok (.ifCond .ne 29, 3) := by decide +kernel
theorem dX4_isOver_80 : decode cX4_isOver 80 = .ok (.aload_n 0, 1) := by decide +kernel
theorem dX4_isOver_81 : decode cX4_isOver 81 = .ok (.getfield 11, 3) := by decide +kernel
theorem dX4_isOver_84 : decode cX4_isOver 84 = .ok (.iconst 1, 1) := by decide +kernel
theorem dX4_isOver_85 : decode cX4_isOver 85 = .ok (.laload, 1) := by decide +kernel
theorem dX4_isOver_86 : decode cX4_isOver 86 = .ok (.lconst 0, 1) := by decide +kernel
theorem dX4_isOver_87 : decode cX4_isOver 87 = .ok (.lcmp, 1) := by decide +kernel
theorem dX4_isOver_88 : decode cX4_isOver 88 = .ok (.ifCond .ne 18, 3) := by decide +kernel
theorem dX4_isOver_91 : decode cX4_isOver 91 = .ok (.aload_n 0, 1) := by decide +kernel
theorem dX4_isOver_92 : decode cX4_isOver 92 = .ok (.getfield 11, 3) := by decide +kernel
theorem dX4_isOver_95 : decode cX4_isOver 95 = .ok (.iconst 2, 1) := by decide +kernel
theorem dX4_isOver_96 : decode cX4_isOver 96 = .ok (.laload, 1) := by decide +kernel
theorem dX4_isOver_97 : decode cX4_isOver 97 = .ok (.lconst 0, 1) := by decide +kernel
theorem dX4_isOver_98 : decode cX4_isOver 98 = .ok (.lcmp, 1) := by decide +kernel
theorem dX4_isOver_99 : decode cX4_isOver 99 = .ok (.ifCond .ne 7, 3) := by decide +kernel
theorem dX4_isOver_102 : decode cX4_isOver 102 = .ok (.iconst 1, 1) := by decide +kernel
theorem dX4_isOver_103 : decode cX4_isOver 103 = .ok (.goto 4, 3) := by decide +kernel
theorem dX4_isOver_106 : decode cX4_isOver 106 = .ok (.iconst 0, 1) := by decide +kernel
theorem dX4_isOver_107 : decode cX4_isOver 107 = .ok (.ireturn, 1) := by decide +kernel
set_option maxRecDepth 20000 in
theorem ggX4_tell_X4_bound : GoodIn wsX4_tell wsX4_bound := goodIn_r _ [9, 3, 2, 1, 10, 11, 12, 13, 14, 15, 16, 17, 18, 19, 145, 146, 147, 148, 149, 150, 151, 152, 153] (by decide +kernel) (by decide +kernel)
set_option maxRecDepth 20000 in
theorem gX4_tell_X4_bound : GoodIn wsX4_tell (wsV RX4 52 RX4 yX4_bound wsX4_bound) := goodIn_app (goodIn_of _ (by decide +kernel)) ggX4_tell_X4_bound
set_option maxRecDepth 20000 in
theorem ggX4_tell_X4_isWon : GoodIn wsX4_tell wsX4_isWon := goodIn_r _ [23, 3, 24, 15, 1, 25, 5, 6, 7, 8, 9, 2, 10, 11, 12, 13, 14, 16, 17, 18, 19, 26, 27, 28, 29, 30, 31, 32, 33, 34, 35, 36, 37, 38, 39, 40, 41, 42, 43, 44, 45, 46, 47, 48, 49, 50, 51, 52, 53, 54, 55, 56, 57, 58, 59, 60, 61, 62, 63, 64, 65, 66, 67, 68, 69, 70, 71, 72, 73, 74, 75, 76, 77, 78, 79, 80, 81, 82, 83, 84, 85, 86, 87, 88, 89, 90, 91, 92, 93, 94, 95, 96, 97, 98, 99, 100, 101, 102, 103, 104, 105, 106, 107, 108, 109, 110, 111, 112, 113, 114, 115, 116, 117, 118, 119, 120, 121, 122, 123, 124, 125, 126, 127, 128, 129, 130, 131, 132, 133, 134, 135, 136, 137, 138, 139, 145, 146, 147, 148, 149, 150, 151, 152, 153, 154, 155, 156, 157, 158, 159, 160, 161, 162, 163, 164, 165, 166] (by decide +kernel) (by decide +kernel)
set_option maxRecDepth 20000 in
theorem gX4_tell_X4_isWon : GoodIn wsX4_tell (wsV RX4 56 RX4 yX4_isWon wsX4_isWon) := goodIn_app (goodIn_of _ (by decide +kernel)) ggX4_tell_X4_isWon
set_option maxRecDepth 20000 in
theorem ggX4_tell_X8_oneIf : GoodIn wsX4_tell wsX8_oneIf := goodIn_r _ [71] (by decide +kernel) (by decide +kernel)
set_option maxRecDepth 20000 in
theorem gX4_tell_X8_oneIf_n64 : GoodIn wsX4_tell (wsX8_oneIf) := ggX4_tell_X8_oneIf
set_option maxRecDepth 20000 in
theorem ggX4_tell_X4_faults : GoodIn wsX4_tell wsX4_faults := goodIn_r _ [143, 2, 144, 145, 146, 147, 148, 149, 150, 151, 152, 153] (by decide +kernel) (by decide +kernel)
set_option maxRecDepth 20000 in
theorem gX4_tell_X4_faults : GoodIn wsX4_tell (wsV RX4 68 RX4 yX4_faults wsX4_faults) := goodIn_app (goodIn_of _ (by decide +kernel)) ggX4_tell_X4_faults
theorem dX4_tell_0 : decode cX4_tell 0 = .ok (.iload_n 1, 1) := by decide +kernel
theorem dX4_tell_1 : decode cX4_tell 1 = .ok (.tableswitch 98 0 8 #[51, 51, 51, 58, 63, 69, 78, 86, 92], 51) := by decide +kernel
theorem dX4_tell_52 : decode cX4_tell 52 = .ok (.aload_n 0, 1) := by decide +kernel
theorem dX4_tell_53 : decode cX4_tell 53 = .ok (.getfield 11, 3) := by decide +kernel
theorem dX4_tell_56 : decode cX4_tell 56 = .ok (.iload_n 1, 1) := by decide +kernel
theorem dX4_tell_57 : decode cX4_tell 57 = .ok (.laload, 1) := by decide +kernel
theorem dX4_tell_58 : decode cX4_tell 58 = .ok (.lreturn, 1) := by decide +kernel
theorem dX4_tell_59 : decode cX4_tell 59 = .ok (.aload_n 0, 1) := by decide +kernel
theorem dX4_tell_60 : decode cX4_tell 60 = .ok (.invokevirtual 52, 3) := by decide +kernel
theorem dX4_tell_63 : decode cX4_tell 63 = .ok (.lreturn, 1) := by decide +kernel
theorem dX4_tell_64 : decode cX4_tell 64 = .ok (.aload_n 0, 1) := by decide +kernel
theorem dX4_tell_65 : decode cX4_tell 65 = .ok (.getfield 41, 3) := by decide +kernel
theorem dX4_tell_68 : decode cX4_tell 68 = .ok (.i2l, 1) := by decide +kernel
theorem dX4_tell_69 : decode cX4_tell 69 = .ok (.lreturn, 1) := by decide +kernel
theorem dX4_tell_70 : decode cX4_tell 70 = .ok (.aload_n 0, 1) := by decide +kernel
theorem dX4_tell_71 : decode cX4_tell 71 = .ok (.invokevirtual 56, 3) := by decide +kernel
theorem dX4_tell_74 : decode cX4_tell 74 = .ok (.invokestatic 64, 3) := by decide +kernel
theorem dX4_tell_77 : decode cX4_tell 77 = .ok (.i2l, 1) := by decide +kernel
theorem dX4_tell_78 : decode cX4_tell 78 = .ok (.lreturn, 1) := by decide +kernel
theorem dX4_tell_79 : decode cX4_tell 79 = .ok (.aload_n 0, 1) := by decide +kernel
theorem dX4_tell_80 : decode cX4_tell 80 = .ok (.getfield 41, 3) := by decide +kernel
theorem dX4_tell_83 : decode cX4_tell 83 = .ok (.iconst 2, 1) := by decide +kernel
theorem dX4_tell_84 : decode cX4_tell 84 = .ok (.irem, 1) := by decide +kernel
theorem dX4_tell_85 : decode cX4_tell 85 = .ok (.i2l, 1) := by decide +kernel
theorem dX4_tell_86 : decode cX4_tell 86 = .ok (.lreturn, 1) := by decide +kernel
theorem dX4_tell_87 : decode cX4_tell 87 = .ok (.aload_n 0, 1) := by decide +kernel
theorem dX4_tell_88 : decode cX4_tell 88 = .ok (.invokevirtual 68, 3) := by decide +kernel
theorem dX4_tell_91 : decode cX4_tell 91 = .ok (.i2l, 1) := by decide +kernel
theorem dX4_tell_92 : decode cX4_tell 92 = .ok (.lreturn, 1) := by decide +kernel
theorem dX4_tell_93 : decode cX4_tell 93 = .ok (.aload_n 0, 1) := by decide +kernel
theorem dX4_tell_94 : decode cX4_tell 94 = .ok (.getfield 26, 3) := by decide +kernel
theorem dX4_tell_97 : decode cX4_tell 97 = .ok (.i2l, 1) := by decide +kernel
theorem dX4_tell_98 : decode cX4_tell 98 = .ok (.lreturn, 1) := by decide +kernel
theorem dX4_tell_99 : decode cX4_tell 99 = .ok (.ldc2_w 71, 3) := by decide +kernel
theorem dX4_tell_102 : decode cX4_tell 102 = .ok (.lreturn, 1) := by decide +kernel
theorem dX4_heapCount_0 : decode cX4_heapCount 0 = .ok (.aload_n 0, 1) := by decide +kernel
theorem dX4_heapCount_1 : decode cX4_heapCount 1 = .ok (.getfield 26, 3) := by decide +kernel
theorem dX4_heapCount_4 : decode cX4_heapCount 4 = .ok (.iconst 3, 1) := by decide +kernel
theorem dX4_heapCount_5 : decode cX4_heapCount 5 = .ok (.if_icmp .ne 5, 3) := by decide +kernel
theorem dX4_heapCount_8 : decode cX4_heapCount 8 = .ok (.iconst 3, 1) := by decide +kernel
theorem dX4_heapCount_9 : decode cX4_heapCount 9 = .ok (.ireturn, 1) := by decide +kernel
theorem dX4_heapCount_10 : decode cX4_heapCount 10 = .ok (.aload_n 0, 1) := by decide +kernel
theorem dX4_heapCount_11 : decode cX4_heapCount 11 = .ok (.getfield 26, 3) := by decide +kernel
theorem dX4_heapCount_14 : decode cX4_heapCount 14 = .ok (.iconst 2, 1) := by decide +kernel
theorem dX4_heapCount_15 : decode cX4_heapCount 15 = .ok (.if_icmp .ne 7, 3) := by decide +kernel
theorem dX4_heapCount_18 : decode cX4_heapCount 18 = .ok (.iconst 1, 1) := by decide +kernel
theorem dX4_heapCount_19 : decode cX4_heapCount 19 = .ok (.goto 4, 3) := by decide +kernel
theorem dX4_heapCount_22 : decode cX4_heapCount 22 = .ok (.iconst 2, 1) := by decide +kernel
theorem dX4_heapCount_23 : decode cX4_heapCount 23 = .ok (.ireturn, 1) := by decide +kernel
set_option maxRecDepth 20000 in
theorem ggX4_takesFrom_X4_heapCount : GoodIn wsX4_takesFrom wsX4_heapCount := goodIn_r _ [5, 6, 7, 8, 9, 10, 11, 12, 13, 14, 15] (by decide +kernel) (by decide +kernel)
set_option maxRecDepth 20000 in
theorem gX4_takesFrom_X4_heapCount : GoodIn wsX4_takesFrom (wsV RX4 44 RX4 yX4_heapCount wsX4_heapCount) := goodIn_app (goodIn_of _ (by decide +kernel)) ggX4_takesFrom_X4_heapCount
theorem dX4_takesFrom_0 : decode cX4_takesFrom 0 = .ok (.iload_n 1, 1) := by decide +kernel
theorem dX4_takesFrom_1 : decode cX4_takesFrom 1 = .ok (.iload_n 2, 1) := by decide +kernel
theorem dX4_takesFrom_2 : decode cX4_takesFrom 2 = .ok (.if_icmp .eq 11, 3) := by decide +kernel
theorem dX4_takesFrom_5 : decode cX4_takesFrom 5 = .ok (.iload_n 1, 1) := by decide +kernel
theorem dX4_takesFrom_6 : decode cX4_takesFrom 6 = .ok (.aload_n 0, 1) := by decide +kernel
theorem dX4_takesFrom_7 : decode cX4_takesFrom 7 = .ok (.invokevirtual 44, 3) := by decide +kernel
theorem dX4_takesFrom_10 : decode cX4_takesFrom 10 = .ok (.if_icmp .ne 7, 3) := by decide +kernel
theorem dX4_takesFrom_13 : decode cX4_takesFrom 13 = .ok (.iconst 1, 1) := by decide +kernel
theorem dX4_takesFrom_14 : decode cX4_takesFrom 14 = .ok (.goto 4, 3) := by decide +kernel
theorem dX4_takesFrom_17 : decode cX4_takesFrom 17 = .ok (.iconst 0, 1) := by decide +kernel
theorem dX4_takesFrom_18 : decode cX4_takesFrom 18 = .ok (.ireturn, 1) := by decide +kernel
set_option maxRecDepth 20000 in
theorem ggX4_addToHeaps_X4_heapCount : GoodIn wsX4_addToHeaps wsX4_heapCount := goodIn_r _ [6, 7, 12, 13, 14, 15, 16, 17, 18, 19, 20] (by decide +kernel) (by decide +kernel)
set_option maxRecDepth 20000 in
theorem gX4_addToHeaps_X4_heapCount : GoodIn wsX4_addToHeaps (wsV RX4 44 RX4 yX4_heapCount wsX4_heapCount) := goodIn_app (goodIn_of _ (by decide +kernel)) ggX4_addToHeaps_X4_heapCount
set_option maxRecDepth 20000 in
theorem ggX4_addToHeaps_X4_takesFrom : GoodIn wsX4_addToHeaps wsX4_takesFrom := goodIn_r _ [11, 2, 3, 4, 5, 6, 7, 12, 13, 14, 15, 16, 17, 18, 19, 20] (by decide +kernel) (by decide +kernel)
set_option maxRecDepth 20000 in
theorem gX4_addToHeaps_X4_takesFrom : GoodIn wsX4_addToHeaps (wsV RX4 48 RX4 yX4_takesFrom wsX4_takesFrom) := goodIn_app (goodIn_of _ (by decide +kernel)) ggX4_addToHeaps_X4_takesFrom
theorem dX4_addToHeaps_0 : decode cX4_addToHeaps 0 = .ok (.iconst 0, 1) := by decide +kernel
theorem dX4_addToHeaps_1 : decode cX4_addToHeaps 1 = .ok (.istore 4, 2) := by decide +kernel
theorem dX4_addToHeaps_3 : decode cX4_addToHeaps 3 = .ok (.iload 4, 2) := by decide +kernel
theorem dX4_addToHeaps_5 : decode cX4_addToHeaps 5 = .ok (.aload_n 0, 1) := by decide +kernel
theorem dX4_addToHeaps_6 : decode cX4_addToHeaps 6 = .ok (.invokevirtual 44, 3) := by decide +kernel
theorem dX4_addToHeaps_9 : decode cX4_addToHeaps 9 = .ok (.if_icmp .ge 30, 3) := by decide +kernel
theorem dX4_addToHeaps_12 : decode cX4_addToHeaps 12 = .ok (.aload_n 0, 1) := by decide +kernel
theorem dX4_addToHeaps_13 : decode cX4_addToHeaps 13 = .ok (.iload_n 1, 1) := by decide +kernel
theorem dX4_addToHeaps_14 : decode cX4_addToHeaps 14 = .ok (.iload 4, 2) := by decide +kernel
theorem dX4_addToHeaps_16 : decode cX4_addToHeaps 16 = .ok (.invokevirtual 48, 3) := by decide +kernel
theorem dX4_addToHeaps_19 : decode cX4_addToHeaps 19 = .ok (.ifCond .eq 14, 3) := by decide +kernel
theorem dX4_addToHeaps_22 : decode cX4_addToHeaps 22 = .ok (.aload_n 0, 1) := by decide +kernel
theorem dX4_addToHeaps_23 : decode cX4_addToHeaps 23 = .ok (.getfield 11, 3) := by decide +kernel
theorem dX4_addToHeaps_26 : decode cX4_addToHeaps 26 = .ok (.iload 4, 2) := by decide +kernel
theorem dX4_addToHeaps_28 : decode cX4_addToHeaps 28 = .ok (.dup2, 1) := by decide +kernel
theorem dX4_addToHeaps_29 : decode cX4_addToHeaps 29 = .ok (.laload, 1) := by decide +kernel
theorem dX4_addToHeaps_30 : decode cX4_addToHeaps 30 = .ok (.lload_n 2, 1) := by decide +kernel
theorem dX4_addToHeaps_31 : decode cX4_addToHeaps 31 = .ok (.ladd, 1) := by decide +kernel
theorem dX4_addToHeaps_32 : decode cX4_addToHeaps 32 = .ok (.lastore, 1) := by decide +kernel
theorem dX4_addToHeaps_33 : decode cX4_addToHeaps 33 = .ok (.iinc 4 1, 3) := by decide +kernel
theorem dX4_addToHeaps_36 : decode cX4_addToHeaps 36 = .ok (.goto (-33), 3) := by decide +kernel
theorem dX4_addToHeaps_39 : decode cX4_addToHeaps 39 = .ok (.return_, 1) := by decide +kernel
theorem dX4_bound_0 : decode cX4_bound 0 = .ok (.aload_n 0, 1) := by decide +kernel
theorem dX4_bound_1 : decode cX4_bound 1 = .ok (.getfield 26, 3) := by decide +kernel
theorem dX4_bound_4 : decode cX4_bound 4 = .ok (.iconst 2, 1) := by decide +kernel
theorem dX4_bound_5 : decode cX4_bound 5 = .ok (.if_icmp .eq 5, 3) := by decide +kernel
theorem dX4_bound_8 : decode cX4_bound 8 = .ok (.lconst 0, 1) := by decide +kernel
theorem dX4_bound_9 : decode cX4_bound 9 = .ok (.lreturn, 1) := by decide +kernel
theorem dX4_bound_10 : decode cX4_bound 10 = .ok (.aload_n 0, 1) := by decide +kernel
theorem dX4_bound_11 : decode cX4_bound 11 = .ok (.getfield 41, 3) := by decide +kernel
theorem dX4_bound_14 : decode cX4_bound 14 = .ok (.ifCond .ne 18, 3) := by decide +kernel
theorem dX4_bound_17 : decode cX4_bound 17 = .ok (.lconst 0, 1) := by decide +kernel
theorem dX4_bound_18 : decode cX4_bound 18 = .ok (.aload_n 0, 1) := by decide +kernel
theorem dX4_bound_19 : decode cX4_bound 19 = .ok (.getfield 11, 3) := by decide +kernel
theorem dX4_bound_22 : decode cX4_bound 22 = .ok (.iconst 0, 1) := by decide +kernel
theorem dX4_bound_23 : decode cX4_bound 23 = .ok (.laload, 1) := by decide +kernel
theorem dX4_bound_24 : decode cX4_bound 24 = .ok (.lconst 1, 1) := by decide +kernel
theorem dX4_bound_25 : decode cX4_bound 25 = .ok (.lsub, 1) := by decide +kernel
theorem dX4_bound_26 : decode cX4_bound 26 = .ok (.invokestatic 73, 3) := by decide +kernel
theorem dX4_bound_29 : decode cX4_bound 29 = .ok (.goto 26, 3) := by decide +kernel
theorem dX4_bound_32 : decode cX4_bound 32 = .ok (.ldc2_w 79, 3) := by decide +kernel
theorem dX4_bound_35 : decode cX4_bound 35 = .ok (.aload_n 0, 1) := by decide +kernel
theorem dX4_bound_36 : decode cX4_bound 36 = .ok (.getfield 38, 3) := by decide +kernel
theorem dX4_bound_39 : decode cX4_bound 39 = .ok (.i2l, 1) := by decide +kernel
theorem dX4_bound_40 : decode cX4_bound 40 = .ok (.aload_n 0, 1) := by decide +kernel
theorem dX4_bound_41 : decode cX4_bound 41 = .ok (.getfield 19, 3) := by decide +kernel
theorem dX4_bound_44 : decode cX4_bound 44 = .ok (.aload_n 0, 1) := by decide +kernel
theorem dX4_bound_45 : decode cX4_bound 45 = .ok (.getfield 41, 3) := by decide +kernel
theorem dX4_bound_48 : decode cX4_bound 48 = .ok (.iconst 1, 1) := by decide +kernel
theorem dX4_bound_49 : decode cX4_bound 49 = .ok (.isub, 1) := by decide +kernel
theorem dX4_bound_50 : decode cX4_bound 50 = .ok (.laload, 1) := by decide +kernel
theorem dX4_bound_51 : decode cX4_bound 51 = .ok (.lmul, 1) := by decide +kernel
theorem dX4_bound_52 : decode cX4_bound 52 = .ok (.invokestatic 81, 3) := by decide +kernel
theorem dX4_bound_55 : decode cX4_bound 55 = .ok (.lreturn, 1) := by decide +kernel
set_option maxRecDepth 20000 in
theorem ggX4_isWon_X4_bound : GoodIn wsX4_isWon wsX4_bound := goodIn_r _ [10, 1, 11, 4, 12, 13, 14, 15, 16, 3, 17, 18, 19, 20, 135, 136, 137, 138, 139, 140, 141, 142, 143] (by decide +kernel) (by decide +kernel)
set_option maxRecDepth 20000 in
theorem gX4_isWon_X4_bound : GoodIn wsX4_isWon (wsV RX4 52 RX4 yX4_bound wsX4_bound) := goodIn_app (goodIn_of _ (by decide +kernel)) ggX4_isWon_X4_bound
set_option maxRecDepth 20000 in
theorem ggX4_isWon_X7_isWon : GoodIn wsX4_isWon wsX7_isWon := goodIn_r _ [25, 26, 27, 28, 24, 29, 30, 31, 32, 33, 34, 35, 36, 37, 38, 39, 40, 41, 42, 43, 44, 45, 46, 47, 48, 49, 50, 51, 149, 150, 151] (by decide +kernel) (by decide +kernel)
set_option maxRecDepth 20000 in
theorem gX4_isWon_X7_isWon : GoodIn wsX4_isWon (wsV RX4 90 RX7 yX7_isWon wsX7_isWon) := goodIn_app (goodIn_of _ (by decide +kernel)) ggX4_isWon_X7_isWon
set_option maxRecDepth 20000 in
theorem ggX4_isWon_X2_tableOf : GoodIn wsX4_isWon wsX2_tableOf := goodIn_r _ [56, 57, 58, 59, 60, 61, 62, 63, 64, 65, 66, 67, 68, 69, 70, 42, 43, 71, 44, 72, 73, 74, 75, 76, 77, 78, 79, 80, 81, 82, 83, 84, 85, 86, 87, 88, 89, 90, 14, 91, 92, 93, 94, 95, 96, 97, 144, 145, 146, 147, 148, 152, 153] (by decide +kernel) (by decide +kernel)
set_option maxRecDepth 20000 in
theorem gX4_isWon_X2_tableOf : GoodIn wsX4_isWon (wsV RX4 95 RX2 yX2_tableOf wsX2_tableOf) := goodIn_app (goodIn_of _ (by decide +kernel)) ggX4_isWon_X2_tableOf
set_option maxRecDepth 20000 in
theorem ggX4_isWon_X3_has : GoodIn wsX4_isWon wsX3_has := goodIn_r _ [101, 71, 72, 152, 153] (by decide +kernel) (by decide +kernel)
set_option maxRecDepth 20000 in
theorem gX4_isWon_X3_has : GoodIn wsX4_isWon (wsV RX4 99 RX3 yX3_has wsX3_has) := goodIn_app (goodIn_of _ (by decide +kernel)) ggX4_isWon_X3_has
set_option maxRecDepth 20000 in
theorem ggX4_isWon_X5_isWon : GoodIn wsX4_isWon wsX5_isWon := goodIn_r _ [106, 107, 13, 14, 15, 108, 19, 20, 109, 110, 111, 112, 113, 114, 115, 116, 117, 118, 37, 119, 47, 45, 154, 155, 150, 151] (by decide +kernel) (by decide +kernel)
set_option maxRecDepth 20000 in
theorem gX4_isWon_X5_isWon : GoodIn wsX4_isWon (wsV RX4 109 RX5 yX5_isWon wsX5_isWon) := goodIn_app (goodIn_of _ (by decide +kernel)) ggX4_isWon_X5_isWon
set_option maxRecDepth 20000 in
theorem ggX4_isWon_X0_isWon : GoodIn wsX4_isWon wsX0_isWon := goodIn_r _ [124, 125, 19, 14, 20, 126, 127, 128, 123, 129, 130, 131, 132, 133, 134, 111, 112, 113, 114, 115, 116, 117, 118, 37, 119, 47, 45, 156, 155, 150, 151] (by decide +kernel) (by decide +kernel)
set_option maxRecDepth 20000 in
theorem gX4_isWon_X0_isWon : GoodIn wsX4_isWon (wsV RX4 118 RX0 yX0_isWon wsX0_isWon) := goodIn_app (goodIn_of _ (by decide +kernel)) ggX4_isWon_X0_isWon
theorem dX4_isWon_0 : decode cX4_isWon 0 = .ok (.aload_n 0, 1) := by decide +kernel
theorem dX4_isWon_1 : decode cX4_isWon 1 = .ok (.getfield 26, 3) := by decide +kernel
theorem dX4_isWon_4 : decode cX4_isWon 4 = .ok (.iconst 2, 1) := by decide +kernel
theorem dX4_isWon_5 : decode cX4_isWon 5 = .ok (.if_icmp .ne 28, 3) := by decide +kernel
theorem dX4_isWon_8 : decode cX4_isWon 8 = .ok (.aload_n 0, 1) := by decide +kernel
theorem dX4_isWon_9 : decode cX4_isWon 9 = .ok (.getfield 30, 3) := by decide +kernel
theorem dX4_isWon_12 : decode cX4_isWon 12 = .ok (.getfield 84, 3) := by decide +kernel
theorem dX4_isWon_15 : decode cX4_isWon 15 = .ok (.aload_n 0, 1) := by decide +kernel
theorem dX4_isWon_16 : decode cX4_isWon 16 = .ok (.getfield 38, 3) := by decide +kernel
theorem dX4_isWon_19 : decode cX4_isWon 19 = .ok (.aload_n 0, 1) := by decide +kernel
theorem dX4_isWon_20 : decode cX4_isWon 20 = .ok (.getfield 11, 3) := by decide +kernel
theorem dX4_isWon_23 : decode cX4_isWon 23 = .ok (.iconst 0, 1) := by decide +kernel
theorem dX4_isWon_24 : decode cX4_isWon 24 = .ok (.laload, 1) := by decide +kernel
theorem dX4_isWon_25 : decode cX4_isWon 25 = .ok (.aload_n 0, 1) := by decide +kernel
theorem dX4_isWon_26 : decode cX4_isWon 26 = .ok (.invokevirtual 52, 3) := by decide +kernel
theorem dX4_isWon_29 : decode cX4_isWon 29 = .ok (.invokevirtual 90, 3) := by decide +kernel
theorem dX4_isWon_32 : decode cX4_isWon 32 = .ok (.ireturn, 1) := by decide +kernel
theorem dX4_isWon_33 : decode cX4_isWon 33 = .ok (.aload_n 0, 1) := by decide +kernel
theorem dX4_isWon_34 : decode cX4_isWon 34 = .ok (.getfield 34, 3) := by decide +kernel
theorem dX4_isWon_37 : decode cX4_isWon 37 = .ok (.ifCond .ne 11, 3) := by decide +kernel
theorem dX4_isWon_40 : decode cX4_isWon 40 = .ok (.aload_n 0, 1) := by decide +kernel
theorem dX4_isWon_41 : decode cX4_isWon 41 = .ok (.getfield 26, 3) := by decide +kernel
theorem dX4_isWon_44 : decode cX4_isWon 44 = .ok (.iconst 3, 1) := by decide +kernel
theorem dX4_isWon_45 : decode cX4_isWon 45 = .ok (.if_icmp .ne 51, 3) := by decide +kernel
theorem dX4_isWon_48 : decode cX4_isWon 48 = .ok (.aload_n 0, 1) := by decide +kernel
theorem dX4_isWon_49 : decode cX4_isWon 49 = .ok (.getfield 30, 3) := by decide +kernel
theorem dX4_isWon_52 : decode cX4_isWon 52 = .ok (.aload_n 0, 1) := by decide +kernel
theorem dX4_isWon_53 : decode cX4_isWon 53 = .ok (.getfield 26, 3) := by decide +kernel
theorem dX4_isWon_56 : decode cX4_isWon 56 = .ok (.aload_n 0, 1) := by decide +kernel
theorem dX4_isWon_57 : decode cX4_isWon 57 = .ok (.getfield 34, 3) := by decide +kernel
theorem dX4_isWon_60 : decode cX4_isWon 60 = .ok (.invokevirtual 95, 3) := by decide +kernel
theorem dX4_isWon_63 : decode cX4_isWon 63 = .ok (.aload_n 0, 1) := by decide +kernel
theorem dX4_isWon_64 : decode cX4_isWon 64 = .ok (.getfield 11, 3) := by decide +kernel
theorem dX4_isWon_67 : decode cX4_isWon 67 = .ok (.iconst 0, 1) := by decide +kernel
theorem dX4_isWon_68 : decode cX4_isWon 68 = .ok (.laload, 1) := by decide +kernel
theorem dX4_isWon_69 : decode cX4_isWon 69 = .ok (.l2i, 1) := by decide +kernel
theorem dX4_isWon_70 : decode cX4_isWon 70 = .ok (.aload_n 0, 1) := by decide +kernel
theorem dX4_isWon_71 : decode cX4_isWon 71 = .ok (.getfield 11, 3) := by decide +kernel
theorem dX4_isWon_74 : decode cX4_isWon 74 = .ok (.iconst 1, 1) := by decide +kernel
theorem dX4_isWon_75 : decode cX4_isWon 75 = .ok (.laload, 1) := by decide +kernel
theorem dX4_isWon_76 : decode cX4_isWon 76 = .ok (.l2i, 1) := by decide +kernel
theorem dX4_isWon_77 : decode cX4_isWon 77 = .ok (.aload_n 0, 1) := by decide +kernel
theorem dX4_isWon_78 : decode cX4_isWon 78 = .ok (.getfield 11, 3) := by decide +kernel
theorem dX4_isWon_81 : decode cX4_isWon 81 = .ok (.iconst 2, 1) := by decide +kernel
theorem dX4_isWon_82 : decode cX4_isWon 82 = .ok (.laload, 1) := by decide +kernel
theorem dX4_isWon_83 : decode cX4_isWon 83 = .ok (.l2i, 1) := by decide +kernel
theorem dX4_isWon_84 : decode cX4_isWon 84 = .ok (.invokevirtual 99, 3) := by decide +kernel
theorem dX4_isWon_87 : decode cX4_isWon 87 = .ok (.ifCond .ne 7, 3) := by decide +kernel
theorem dX4_isWon_90 : decode cX4_isWon 90 = .ok (.iconst 1, 1) := by decide +kernel
theorem dX4_isWon_91 : decode cX4_isWon 91 = .ok (.goto 4, 3) := by decide +kernel
theorem dX4_isWon_94 : decode cX4_isWon 94 = .ok (.iconst 0, 1) := by decide +kernel
theorem dX4_isWon_95 : decode cX4_isWon 95 = .ok (.ireturn, 1) := by decide +kernel
theorem dX4_isWon_96 : decode cX4_isWon 96 = .ok (.aload_n 0, 1) := by decide +kernel
theorem dX4_isWon_97 : decode cX4_isWon 97 = .ok (.getfield 26, 3) := by decide +kernel
theorem dX4_isWon_100 : decode cX4_isWon 100 = .ok (.ifCond .ne 28, 3) := by decide +kernel
theorem dX4_isWon_103 : decode cX4_isWon 103 = .ok (.aload_n 0, 1) := by decide +kernel
theorem dX4_isWon_104 : decode cX4_isWon 104 = .ok (.getfield 30, 3) := by decide +kernel
theorem dX4_isWon_107 : decode cX4_isWon 107 = .ok (.getfield 105, 3) := by decide +kernel
theorem dX4_isWon_110 : decode cX4_isWon 110 = .ok (.aload_n 0, 1) := by decide +kernel
theorem dX4_isWon_111 : decode cX4_isWon 111 = .ok (.getfield 11, 3) := by decide +kernel
theorem dX4_isWon_114 : decode cX4_isWon 114 = .ok (.iconst 0, 1) := by decide +kernel
theorem dX4_isWon_115 : decode cX4_isWon 115 = .ok (.laload, 1) := by decide +kernel
theorem dX4_isWon_116 : decode cX4_isWon 116 = .ok (.aload_n 0, 1) := by decide +kernel
theorem dX4_isWon_117 : decode cX4_isWon 117 = .ok (.getfield 11, 3) := by decide +kernel
theorem dX4_isWon_120 : decode cX4_isWon 120 = .ok (.iconst 1, 1) := by decide +kernel
theorem dX4_isWon_121 : decode cX4_isWon 121 = .ok (.laload, 1) := by decide +kernel
theorem dX4_isWon_122 : decode cX4_isWon 122 = .ok (.invokevirtual 109, 3) := by decide +kernel
theorem dX4_isWon_125 : decode cX4_isWon 125 = .ok (.goto 25, 3) := by decide +kernel
theorem dX4_isWon_128 : decode cX4_isWon 128 = .ok (.aload_n 0, 1) := by decide +kernel
theorem dX4_isWon_129 : decode cX4_isWon 129 = .ok (.getfield 30, 3) := by decide +kernel
theorem dX4_isWon_132 : decode cX4_isWon 132 = .ok (.getfield 114, 3) := by decide +kernel
theorem dX4_isWon_135 : decode cX4_isWon 135 = .ok (.aload_n 0, 1) := by decide +kernel
theorem dX4_isWon_136 : decode cX4_isWon 136 = .ok (.getfield 11, 3) := by decide +kernel
theorem dX4_isWon_139 : decode cX4_isWon 139 = .ok (.iconst 0, 1) := by decide +kernel
theorem dX4_isWon_140 : decode cX4_isWon 140 = .ok (.laload, 1) := by decide +kernel
theorem dX4_isWon_141 : decode cX4_isWon 141 = .ok (.aload_n 0, 1) := by decide +kernel
theorem dX4_isWon_142 : decode cX4_isWon 142 = .ok (.getfield 11, 3) := by decide +kernel
theorem dX4_isWon_145 : decode cX4_isWon 145 = .ok (.iconst 1, 1) := by decide +kernel
theorem dX4_isWon_146 : decode cX4_isWon 146 = .ok (.laload, 1) := by decide +kernel
theorem dX4_isWon_147 : decode cX4_isWon 147 = .ok (.invokevirtual 118, 3) := by decide +kernel
theorem dX4_isWon_150 : decode cX4_isWon 150 = .ok (.ireturn, 1) := by decide +kernel
theorem dX4_faults_0 : decode cX4_faults 0 = .ok (.iconst 0, 1) := by decide +kernel
theorem dX4_faults_1 : decode cX4_faults 1 = .ok (.istore_n 1, 1) := by decide +kernel
theorem dX4_faults_2 : decode cX4_faults 2 = .ok (.iconst 0, 1) := by decide +kernel
theorem dX4_faults_3 : decode cX4_faults 3 = .ok (.istore_n 2, 1) := by decide +kernel
theorem dX4_faults_4 : decode cX4_faults 4 = .ok (.iload_n 2, 1) := by decide +kernel
theorem dX4_faults_5 : decode cX4_faults 5 = .ok (.aload_n 0, 1) := by decide +kernel
theorem dX4_faults_6 : decode cX4_faults 6 = .ok (.getfield 41, 3) := by decide +kernel
theorem dX4_faults_9 : decode cX4_faults 9 = .ok (.if_icmp .ge 21, 3) := by decide +kernel
theorem dX4_faults_12 : decode cX4_faults 12 = .ok (.aload_n 0, 1) := by decide +kernel
theorem dX4_faults_13 : decode cX4_faults 13 = .ok (.getfield 22, 3) := by decide +kernel
theorem dX4_faults_16 : decode cX4_faults 16 = .ok (.iload_n 2, 1) := by decide +kernel
theorem dX4_faults_17 : decode cX4_faults 17 = .ok (.baload, 1) := by decide +kernel
theorem dX4_faults_18 : decode cX4_faults 18 = .ok (.ifCond .eq 6, 3) := by decide +kernel
theorem dX4_faults_21 : decode cX4_faults 21 = .ok (.iinc 1 1, 3) := by decide +kernel
theorem dX4_faults_24 : decode cX4_faults 24 = .ok (.iinc 2 1, 3) := by decide +kernel
theorem dX4_faults_27 : decode cX4_faults 27 = .ok (.goto (-23), 3) := by decide +kernel
theorem dX4_faults_30 : decode cX4_faults 30 = .ok (.iload_n 1, 1) := by decide +kernel
theorem dX4_faults_31 : decode cX4_faults 31 = .ok (.ireturn, 1) := by decide +kernel
theorem dX5_init_0 : decode cX5_init 0 = .ok (.aload_n 0, 1) := by decide +kernel
theorem dX5_init_1 : decode cX5_init 1 = .ok (.invokespecial 1, 3) := by decide +kernel
theorem dX5_init_4 : decode cX5_init 4 = .ok (.aload_n 0, 1) := by decide +kernel
theorem dX5_init_5 : decode cX5_init 5 = .ok (.aload_n 1, 1) := by decide +kernel
theorem dX5_init_6 : decode cX5_init 6 = .ok (.putfield 7, 3) := by decide +kernel
theorem dX5_init_9 : decode cX5_init 9 = .ok (.return_, 1) := by decide +kernel
set_option maxRecDepth 20000 in
theorem ggX5_isWon_X1_cut : GoodIn wsX5_isWon wsX1_cut := goodIn_r _ [13, 14, 15, 16, 17, 18, 19, 20, 21, 23, 24, 25] (by decide +kernel) (by decide +kernel)
set_option maxRecDepth 20000 in
theorem gX5_isWon_X1_cut : GoodIn wsX5_isWon (wsV RX5 22 RX1 yX1_cut wsX1_cut) := goodIn_app (goodIn_of _ (by decide +kernel)) ggX5_isWon_X1_cut
theorem dX5_isWon_0 : decode cX5_isWon 0 = .ok (.lload_n 1, 1) := by decide +kernel
theorem dX5_isWon_1 : decode cX5_isWon 1 = .ok (.lload_n 3, 1) := by decide +kernel
theorem dX5_isWon_2 : decode cX5_isWon 2 = .ok (.invokestatic 13, 3) := by decide +kernel
theorem dX5_isWon_5 : decode cX5_isWon 5 = .ok (.lstore 5, 2) := by decide +kernel
theorem dX5_isWon_7 : decode cX5_isWon 7 = .ok (.lload_n 1, 1) := by decide +kernel
theorem dX5_isWon_8 : decode cX5_isWon 8 = .ok (.lload_n 3, 1) := by decide +kernel
theorem dX5_isWon_9 : decode cX5_isWon 9 = .ok (.invokestatic 19, 3) := by decide +kernel
theorem dX5_isWon_12 : decode cX5_isWon 12 = .ok (.lstore 7, 2) := by decide +kernel
theorem dX5_isWon_14 : decode cX5_isWon 14 = .ok (.lload 7, 2) := by decide +kernel
theorem dX5_isWon_16 : decode cX5_isWon 16 = .ok (.lconst 0, 1) := by decide +kernel
theorem dX5_isWon_17 : decode cX5_isWon 17 = .ok (.lcmp, 1) := by decide +kernel
theorem dX5_isWon_18 : decode cX5_isWon 18 = .ok (.ifCond .le 30, 3) := by decide +kernel
theorem dX5_isWon_21 : decode cX5_isWon 21 = .ok (.lload 5, 2) := by decide +kernel
theorem dX5_isWon_23 : decode cX5_isWon 23 = .ok (.lload 7, 2) := by decide +kernel
theorem dX5_isWon_25 : decode cX5_isWon 25 = .ok (.lcmp, 1) := by decide +kernel
theorem dX5_isWon_26 : decode cX5_isWon 26 = .ok (.ifCond .eq 18, 3) := by decide +kernel
theorem dX5_isWon_29 : decode cX5_isWon 29 = .ok (.lload 5, 2) := by decide +kernel
theorem dX5_isWon_31 : decode cX5_isWon 31 = .ok (.aload_n 0, 1) := by decide +kernel
theorem dX5_isWon_32 : decode cX5_isWon 32 = .ok (.getfield 7, 3) := by decide +kernel
theorem dX5_isWon_35 : decode cX5_isWon 35 = .ok (.lload 7, 2) := by decide +kernel
theorem dX5_isWon_37 : decode cX5_isWon 37 = .ok (.invokevirtual 22, 3) := by decide +kernel
theorem dX5_isWon_40 : decode cX5_isWon 40 = .ok (.lcmp, 1) := by decide +kernel
theorem dX5_isWon_41 : decode cX5_isWon 41 = .ok (.ifCond .le 7, 3) := by decide +kernel
theorem dX5_isWon_44 : decode cX5_isWon 44 = .ok (.iconst 1, 1) := by decide +kernel
theorem dX5_isWon_45 : decode cX5_isWon 45 = .ok (.goto 4, 3) := by decide +kernel
theorem dX5_isWon_48 : decode cX5_isWon 48 = .ok (.iconst 0, 1) := by decide +kernel
theorem dX5_isWon_49 : decode cX5_isWon 49 = .ok (.ireturn, 1) := by decide +kernel
set_option maxRecDepth 20000 in
theorem ggX5_leastTimes_X5_isWon : GoodIn wsX5_leastTimes wsX5_isWon := goodIn_r _ [12, 1, 2, 3, 4, 5, 6, 7, 13, 14, 15, 16, 17, 18, 19, 20, 21, 22, 23, 24, 25, 26, 27, 28, 29, 30] (by decide +kernel) (by decide +kernel)
set_option maxRecDepth 20000 in
theorem gX5_leastTimes_X5_isWon : GoodIn wsX5_leastTimes (wsV RX5 28 RX5 yX5_isWon wsX5_isWon) := goodIn_app (goodIn_of _ (by decide +kernel)) ggX5_leastTimes_X5_isWon
theorem dX5_leastTimes_0 : decode cX5_leastTimes 0 = .ok (.lload_n 1, 1) := by decide +kernel
theorem dX5_leastTimes_1 : decode cX5_leastTimes 1 = .ok (.lload_n 3, 1) := by decide +kernel
theorem dX5_leastTimes_2 : decode cX5_leastTimes 2 = .ok (.invokestatic 13, 3) := by decide +kernel
theorem dX5_leastTimes_5 : decode cX5_leastTimes 5 = .ok (.lstore 5, 2) := by decide +kernel
theorem dX5_leastTimes_7 : decode cX5_leastTimes 7 = .ok (.lload_n 1, 1) := by decide +kernel
theorem dX5_leastTimes_8 : decode cX5_leastTimes 8 = .ok (.lload_n 3, 1) := by decide +kernel
theorem dX5_leastTimes_9 : decode cX5_leastTimes 9 = .ok (.invokestatic 19, 3) := by decide +kernel
theorem dX5_leastTimes_12 : decode cX5_leastTimes 12 = .ok (.lstore 7, 2) := by decide +kernel
theorem dX5_leastTimes_14 : decode cX5_leastTimes 14 = .ok (.lload 7, 2) := by decide +kernel
theorem dX5_leastTimes_16 : decode cX5_leastTimes 16 = .ok (.lconst 0, 1) := by decide +kernel
theorem dX5_leastTimes_17 : decode cX5_leastTimes 17 = .ok (.lcmp, 1) := by decide +kernel
theorem dX5_leastTimes_18 : decode cX5_leastTimes 18 = .ok (.ifCond .gt 5, 3) := by decide +kernel
theorem dX5_leastTimes_21 : decode cX5_leastTimes 21 = .ok (.lconst 0, 1) := by decide +kernel
theorem dX5_leastTimes_22 : decode cX5_leastTimes 22 = .ok (.lreturn, 1) := by decide +kernel
theorem dX5_leastTimes_23 : decode cX5_leastTimes 23 = .ok (.lload 5, 2) := by decide +kernel
theorem dX5_leastTimes_25 : decode cX5_leastTimes 25 = .ok (.lload 7, 2) := by decide +kernel
theorem dX5_leastTimes_27 : decode cX5_leastTimes 27 = .ok (.ldiv, 1) := by decide +kernel
theorem dX5_leastTimes_28 : decode cX5_leastTimes 28 = .ok (.lstore 9, 2) := by decide +kernel
theorem dX5_leastTimes_30 : decode cX5_leastTimes 30 = .ok (.lconst 1, 1) := by decide +kernel
theorem dX5_leastTimes_31 : decode cX5_leastTimes 31 = .ok (.lload 9, 2) := by decide +kernel
theorem dX5_leastTimes_33 : decode cX5_leastTimes 33 = .ok (.lconst 1, 1) := by decide +kernel
theorem dX5_leastTimes_34 : decode cX5_leastTimes 34 = .ok (.lsub, 1) := by decide +kernel
theorem dX5_leastTimes_35 : decode cX5_leastTimes 35 = .ok (.invokestatic 13, 3) := by decide +kernel
theorem dX5_leastTimes_38 : decode cX5_leastTimes 38 = .ok (.lstore 11, 2) := by decide +kernel
theorem dX5_leastTimes_40 : decode cX5_leastTimes 40 = .ok (.lload 11, 2) := by decide +kernel
theorem dX5_leastTimes_42 : decode cX5_leastTimes 42 = .ok (.lload 9, 2) := by decide +kernel
theorem dX5_leastTimes_44 : decode cX5_leastTimes 44 = .ok (.lcmp, 1) := by decide +kernel
theorem dX5_leastTimes_45 : decode cX5_leastTimes 45 = .ok (.ifCond .gt 32, 3) := by decide +kernel
theorem dX5_leastTimes_48 : decode cX5_leastTimes 48 = .ok (.aload_n 0, 1) := by decide +kernel
theorem dX5_leastTimes_49 : decode cX5_leastTimes 49 = .ok (.lload 5, 2) := by decide +kernel
theorem dX5_leastTimes_51 : decode cX5_leastTimes 51 = .ok (.lload 11, 2) := by decide +kernel
theorem dX5_leastTimes_53 : decode cX5_leastTimes 53 = .ok (.lload 7, 2) := by decide +kernel
theorem dX5_leastTimes_55 : decode cX5_leastTimes 55 = .ok (.lmul, 1) := by decide +kernel
theorem dX5_leastTimes_56 : decode cX5_leastTimes 56 = .ok (.lsub, 1) := by decide +kernel
theorem dX5_leastTimes_57 : decode cX5_leastTimes 57 = .ok (.lload 7, 2) := by decide +kernel
theorem dX5_leastTimes_59 : decode cX5_leastTimes 59 = .ok (.invokevirtual 28, 3) := by decide +kernel
theorem dX5_leastTimes_62 : decode cX5_leastTimes 62 = .ok (.ifCond .ne 6, 3) := by decide +kernel
theorem dX5_leastTimes_65 : decode cX5_leastTimes 65 = .ok (.lload 11, 2) := by decide +kernel
theorem dX5_leastTimes_67 : decode cX5_leastTimes 67 = .ok (.lreturn, 1) := by decide +kernel
theorem dX5_leastTimes_68 : decode cX5_leastTimes 68 = .ok (.lload 11, 2) := by decide +kernel
theorem dX5_leastTimes_70 : decode cX5_leastTimes 70 = .ok (.lconst 1, 1) := by decide +kernel
theorem dX5_leastTimes_71 : decode cX5_leastTimes 71 = .ok (.ladd, 1) := by decide +kernel
theorem dX5_leastTimes_72 : decode cX5_leastTimes 72 = .ok (.lstore 11, 2) := by decide +kernel
theorem dX5_leastTimes_74 : decode cX5_leastTimes 74 = .ok (.goto (-34), 3) := by decide +kernel
theorem dX5_leastTimes_77 : decode cX5_leastTimes 77 = .ok (.lconst 0, 1) := by decide +kernel
theorem dX5_leastTimes_78 : decode cX5_leastTimes 78 = .ok (.lreturn, 1) := by decide +kernel
theorem dX6_init_0 : decode cX6_init 0 = .ok (.aload_n 0, 1) := by decide +kernel
theorem dX6_init_1 : decode cX6_init 1 = .ok (.invokespecial 3, 3) := by decide +kernel
theorem dX6_init_4 : decode cX6_init 4 = .ok (.aload_n 0, 1) := by decide +kernel
theorem dX6_init_5 : decode cX6_init 5 = .ok (.sipush 240, 3) := by decide +kernel
theorem dX6_init_8 : decode cX6_init 8 = .ok (.newarray .long, 2) := by decide +kernel
theorem dX6_init_10 : decode cX6_init 10 = .ok (.putfield 11, 3) := by decide +kernel
theorem dX6_init_13 : decode cX6_init 13 = .ok (.aload_n 0, 1) := by decide +kernel
theorem dX6_init_14 : decode cX6_init 14 = .ok (.getfield 11, 3) := by decide +kernel
theorem dX6_init_17 : decode cX6_init 17 = .ok (.iconst 0, 1) := by decide +kernel
theorem dX6_init_18 : decode cX6_init 18 = .ok (.lconst 1, 1) := by decide +kernel
theorem dX6_init_19 : decode cX6_init 19 = .ok (.lastore, 1) := by decide +kernel
theorem dX6_init_20 : decode cX6_init 20 = .ok (.iconst 1, 1) := by decide +kernel
theorem dX6_init_21 : decode cX6_init 21 = .ok (.istore_n 2, 1) := by decide +kernel
theorem dX6_init_22 : decode cX6_init 22 = .ok (.iconst 0, 1) := by decide +kernel
theorem dX6_init_23 : decode cX6_init 23 = .ok (.istore_n 3, 1) := by decide +kernel
theorem dX6_init_24 : decode cX6_init 24 = .ok (.iload_n 2, 1) := by decide +kernel
theorem dX6_init_25 : decode cX6_init 25 = .ok (.sipush 240, 3) := by decide +kernel
theorem dX6_init_28 : decode cX6_init 28 = .ok (.if_icmp .ge 77, 3) := by decide +kernel
theorem dX6_init_31 : decode cX6_init 31 = .ok (.aload_n 0, 1) := by decide +kernel
theorem dX6_init_32 : decode cX6_init 32 = .ok (.getfield 11, 3) := by decide +kernel
theorem dX6_init_35 : decode cX6_init 35 = .ok (.iload_n 2, 1) := by decide +kernel
theorem dX6_init_36 : decode cX6_init 36 = .ok (.iconst 1, 1) := by decide +kernel
theorem dX6_init_37 : decode cX6_init 37 = .ok (.isub, 1) := by decide +kernel
theorem dX6_init_38 : decode cX6_init 38 = .ok (.laload, 1) := by decide +kernel
theorem dX6_init_39 : decode cX6_init 39 = .ok (.ldc2_w 15, 3) := by decide +kernel
theorem dX6_init_42 : decode cX6_init 42 = .ok (.lcmp, 1) := by decide +kernel
theorem dX6_init_43 : decode cX6_init 43 = .ok (.ifCond .gt 62, 3) := by decide +kernel
theorem dX6_init_46 : decode cX6_init 46 = .ok (.aload_n 0, 1) := by decide +kernel
theorem dX6_init_47 : decode cX6_init 47 = .ok (.getfield 11, 3) := by decide +kernel
theorem dX6_init_50 : decode cX6_init 50 = .ok (.iload_n 2, 1) := by decide +kernel
theorem dX6_init_51 : decode cX6_init 51 = .ok (.iconst 1, 1) := by decide +kernel
theorem dX6_init_52 : decode cX6_init 52 = .ok (.isub, 1) := by decide +kernel
theorem dX6_init_53 : decode cX6_init 53 = .ok (.laload, 1) := by decide +kernel
theorem dX6_init_54 : decode cX6_init 54 = .ok (.lstore 4, 2) := by decide +kernel
theorem dX6_init_56 : decode cX6_init 56 = .ok (.iload_n 3, 1) := by decide +kernel
theorem dX6_init_57 : decode cX6_init 57 = .ok (.iload_n 2, 1) := by decide +kernel
theorem dX6_init_58 : decode cX6_init 58 = .ok (.iconst 1, 1) := by decide +kernel
theorem dX6_init_59 : decode cX6_init 59 = .ok (.isub, 1) := by decide +kernel
theorem dX6_init_60 : decode cX6_init 60 = .ok (.if_icmp .ge 24, 3) := by decide +kernel
theorem dX6_init_63 : decode cX6_init 63 = .ok (.iload_n 1, 1) := by decide +kernel
theorem dX6_init_64 : decode cX6_init 64 = .ok (.i2l, 1) := by decide +kernel
theorem dX6_init_65 : decode cX6_init 65 = .ok (.aload_n 0, 1) := by decide +kernel
theorem dX6_init_66 : decode cX6_init 66 = .ok (.getfield 11, 3) := by decide +kernel
theorem dX6_init_69 : decode cX6_init 69 = .ok (.iload_n 3, 1) := by decide +kernel
theorem dX6_init_70 : decode cX6_init 70 = .ok (.laload, 1) := by decide +kernel
theorem dX6_init_71 : decode cX6_init 71 = .ok (.lmul, 1) := by decide +kernel
theorem dX6_init_72 : decode cX6_init 72 = .ok (.lload 4, 2) := by decide +kernel
theorem dX6_init_74 : decode cX6_init 74 = .ok (.lcmp, 1) := by decide +kernel
theorem dX6_init_75 : decode cX6_init 75 = .ok (.ifCond .ge 9, 3) := by decide +kernel
theorem dX6_init_78 : decode cX6_init 78 = .ok (.iinc 3 1, 3) := by decide +kernel
theorem dX6_init_81 : decode cX6_init 81 = .ok (.goto (-25), 3) := by decide +kernel
theorem dX6_init_84 : decode cX6_init 84 = .ok (.aload_n 0, 1) := by decide +kernel
theorem dX6_init_85 : decode cX6_init 85 = .ok (.getfield 11, 3) := by decide +kernel
theorem dX6_init_88 : decode cX6_init 88 = .ok (.iload_n 2, 1) := by decide +kernel
theorem dX6_init_89 : decode cX6_init 89 = .ok (.lload 4, 2) := by decide +kernel
theorem dX6_init_91 : decode cX6_init 91 = .ok (.aload_n 0, 1) := by decide +kernel
theorem dX6_init_92 : decode cX6_init 92 = .ok (.getfield 11, 3) := by decide +kernel
theorem dX6_init_95 : decode cX6_init 95 = .ok (.iload_n 3, 1) := by decide +kernel
theorem dX6_init_96 : decode cX6_init 96 = .ok (.laload, 1) := by decide +kernel
theorem dX6_init_97 : decode cX6_init 97 = .ok (.ladd, 1) := by decide +kernel
theorem dX6_init_98 : decode cX6_init 98 = .ok (.lastore, 1) := by decide +kernel
theorem dX6_init_99 : decode cX6_init 99 = .ok (.iinc 2 1, 3) := by decide +kernel
theorem dX6_init_102 : decode cX6_init 102 = .ok (.goto (-78), 3) := by decide +kernel
theorem dX6_init_105 : decode cX6_init 105 = .ok (.aload_n 0, 1) := by decide +kernel
theorem dX6_init_106 : decode cX6_init 106 = .ok (.iload_n 2, 1) := by decide +kernel
theorem dX6_init_107 : decode cX6_init 107 = .ok (.putfield 17, 3) := by decide +kernel
theorem dX6_init_110 : decode cX6_init 110 = .ok (.return_, 1) := by decide +kernel
theorem dX6_numberAt_0 : decode cX6_numberAt 0 = .ok (.iload_n 1, 1) := by decide +kernel
theorem dX6_numberAt_1 : decode cX6_numberAt 1 = .ok (.ifCond .lt 33, 3) := by decide +kernel
theorem dX6_numberAt_4 : decode cX6_numberAt 4 = .ok (.iload_n 1, 1) := by decide +kernel
theorem dX6_numberAt_5 : decode cX6_numberAt 5 = .ok (.aload_n 0, 1) := by decide +kernel
theorem dX6_numberAt_6 : decode cX6_numberAt 6 = .ok (.getfield 17, 3) := by decide +kernel
theorem dX6_numberAt_9 : decode cX6_numberAt 9 = .ok (.if_icmp .ge 25, 3) := by decide +kernel
theorem dX6_numberAt_12 : decode cX6_numberAt 12 = .ok (.aload_n 0, 1) := by decide +kernel
theorem dX6_numberAt_13 : decode cX6_numberAt 13 = .ok (.getfield 11, 3) := by decide +kernel
theorem dX6_numberAt_16 : decode cX6_numberAt 16 = .ok (.iload_n 1, 1) := by decide +kernel
theorem dX6_numberAt_17 : decode cX6_numberAt 17 = .ok (.laload, 1) := by decide +kernel
theorem dX6_numberAt_18 : decode cX6_numberAt 18 = .ok (.ldc2_w 15, 3) := by decide +kernel
theorem dX6_numberAt_21 : decode cX6_numberAt 21 = .ok (.lcmp, 1) := by decide +kernel
theorem dX6_numberAt_22 : decode cX6_numberAt 22 = .ok (.ifCond .gt 12, 3) := by decide +kernel
theorem dX6_numberAt_25 : decode cX6_numberAt 25 = .ok (.aload_n 0, 1) := by decide +kernel
theorem dX6_numberAt_26 : decode cX6_numberAt 26 = .ok (.getfield 11, 3) := by decide +kernel
theorem dX6_numberAt_29 : decode cX6_numberAt 29 = .ok (.iload_n 1, 1) := by decide +kernel
theorem dX6_numberAt_30 : decode cX6_numberAt 30 = .ok (.laload, 1) := by decide +kernel
theorem dX6_numberAt_31 : decode cX6_numberAt 31 = .ok (.goto 6, 3) := by decide +kernel
theorem dX6_numberAt_34 : decode cX6_numberAt 34 = .ok (.ldc2_w 21, 3) := by decide +kernel
theorem dX6_numberAt_37 : decode cX6_numberAt 37 = .ok (.lreturn, 1) := by decide +kernel
theorem dX6_countOf_0 : decode cX6_countOf 0 = .ok (.lload_n 1, 1) := by decide +kernel
theorem dX6_countOf_1 : decode cX6_countOf 1 = .ok (.lstore_n 3, 1) := by decide +kernel
theorem dX6_countOf_2 : decode cX6_countOf 2 = .ok (.iconst 0, 1) := by decide +kernel
theorem dX6_countOf_3 : decode cX6_countOf 3 = .ok (.istore 5, 2) := by decide +kernel
theorem dX6_countOf_5 : decode cX6_countOf 5 = .ok (.aload_n 0, 1) := by decide +kernel
theorem dX6_countOf_6 : decode cX6_countOf 6 = .ok (.getfield 17, 3) := by decide +kernel
theorem dX6_countOf_9 : decode cX6_countOf 9 = .ok (.iconst 1, 1) := by decide +kernel
theorem dX6_countOf_10 : decode cX6_countOf 10 = .ok (.isub, 1) := by decide +kernel
theorem dX6_countOf_11 : decode cX6_countOf 11 = .ok (.istore 6, 2) := by decide +kernel
theorem dX6_countOf_13 : decode cX6_countOf 13 = .ok (.iload 6, 2) := by decide +kernel
theorem dX6_countOf_15 : decode cX6_countOf 15 = .ok (.ifCond .lt 34, 3) := by decide +kernel
theorem dX6_countOf_18 : decode cX6_countOf 18 = .ok (.aload_n 0, 1) := by decide +kernel
theorem dX6_countOf_19 : decode cX6_countOf 19 = .ok (.getfield 11, 3) := by decide +kernel
theorem dX6_countOf_22 : decode cX6_countOf 22 = .ok (.iload 6, 2) := by decide +kernel
theorem dX6_countOf_24 : decode cX6_countOf 24 = .ok (.laload, 1) := by decide +kernel
theorem dX6_countOf_25 : decode cX6_countOf 25 = .ok (.lload_n 3, 1) := by decide +kernel
theorem dX6_countOf_26 : decode cX6_countOf 26 = .ok (.lcmp, 1) := by decide +kernel
theorem dX6_countOf_27 : decode cX6_countOf 27 = .ok (.ifCond .gt 16, 3) := by decide +kernel
theorem dX6_countOf_30 : decode cX6_countOf 30 = .ok (.lload_n 3, 1) := by decide +kernel
theorem dX6_countOf_31 : decode cX6_countOf 31 = .ok (.aload_n 0, 1) := by decide +kernel
theorem dX6_countOf_32 : decode cX6_countOf 32 = .ok (.getfield 11, 3) := by decide +kernel
theorem dX6_countOf_35 : decode cX6_countOf 35 = .ok (.iload 6, 2) := by decide +kernel
theorem dX6_countOf_37 : decode cX6_countOf 37 = .ok (.laload, 1) := by decide +kernel
theorem dX6_countOf_38 : decode cX6_countOf 38 = .ok (.lsub, 1) := by decide +kernel
theorem dX6_countOf_39 : decode cX6_countOf 39 = .ok (.lstore_n 3, 1) := by decide +kernel
theorem dX6_countOf_40 : decode cX6_countOf 40 = .ok (.iinc 5 1, 3) := by decide +kernel
theorem dX6_countOf_43 : decode cX6_countOf 43 = .ok (.iinc 6 (-1), 3) := by decide +kernel
theorem dX6_countOf_46 : decode cX6_countOf 46 = .ok (.goto (-33), 3) := by decide +kernel
theorem dX6_countOf_49 : decode cX6_countOf 49 = .ok (.iload 5, 2) := by decide +kernel
theorem dX6_countOf_51 : decode cX6_countOf 51 = .ok (.ireturn, 1) := by decide +kernel
theorem dX6_endOf_0 : decode cX6_endOf 0 = .ok (.lload_n 1, 1) := by decide +kernel
theorem dX6_endOf_1 : decode cX6_endOf 1 = .ok (.lstore_n 3, 1) := by decide +kernel
theorem dX6_endOf_2 : decode cX6_endOf 2 = .ok (.lconst 0, 1) := by decide +kernel
theorem dX6_endOf_3 : decode cX6_endOf 3 = .ok (.lstore 5, 2) := by decide +kernel
theorem dX6_endOf_5 : decode cX6_endOf 5 = .ok (.aload_n 0, 1) := by decide +kernel
theorem dX6_endOf_6 : decode cX6_endOf 6 = .ok (.getfield 17, 3) := by decide +kernel
theorem dX6_endOf_9 : decode cX6_endOf 9 = .ok (.iconst 1, 1) := by decide +kernel
theorem dX6_endOf_10 : decode cX6_endOf 10 = .ok (.isub, 1) := by decide +kernel
theorem dX6_endOf_11 : decode cX6_endOf 11 = .ok (.istore 7, 2) := by decide +kernel
theorem dX6_endOf_13 : decode cX6_endOf 13 = .ok (.iload 7, 2) := by decide +kernel
theorem dX6_endOf_15 : decode cX6_endOf 15 = .ok (.ifCond .lt 40, 3) := by decide +kernel
theorem dX6_endOf_18 : decode cX6_endOf 18 = .ok (.aload_n 0, 1) := by decide +kernel
theorem dX6_endOf_19 : decode cX6_endOf 19 = .ok (.getfield 11, 3) := by decide +kernel
theorem dX6_endOf_22 : decode cX6_endOf 22 = .ok (.iload 7, 2) := by decide +kernel
theorem dX6_endOf_24 : decode cX6_endOf 24 = .ok (.laload, 1) := by decide +kernel
theorem dX6_endOf_25 : decode cX6_endOf 25 = .ok (.lload_n 3, 1) := by decide +kernel
theorem dX6_endOf_26 : decode cX6_endOf 26 = .ok (.lcmp, 1) := by decide +kernel
theorem dX6_endOf_27 : decode cX6_endOf 27 = .ok (.ifCond .gt 22, 3) := by decide +kernel
theorem dX6_endOf_30 : decode cX6_endOf 30 = .ok (.lload_n 3, 1) := by decide +kernel
theorem dX6_endOf_31 : decode cX6_endOf 31 = .ok (.aload_n 0, 1) := by decide +kernel
theorem dX6_endOf_32 : decode cX6_endOf 32 = .ok (.getfield 11, 3) := by decide +kernel
theorem dX6_endOf_35 : decode cX6_endOf 35 = .ok (.iload 7, 2) := by decide +kernel
theorem dX6_endOf_37 : decode cX6_endOf 37 = .ok (.laload, 1) := by decide +kernel
theorem dX6_endOf_38 : decode cX6_endOf 38 = .ok (.lsub, 1) := by decide +kernel
theorem dX6_endOf_39 : decode cX6_endOf 39 = .ok (.lstore_n 3, 1) := by decide +kernel
theorem dX6_endOf_40 : decode cX6_endOf 40 = .ok (.aload_n 0, 1) := by decide +kernel
theorem dX6_endOf_41 : decode cX6_endOf 41 = .ok (.getfield 11, 3) := by decide +kernel
theorem dX6_endOf_44 : decode cX6_endOf 44 = .ok (.iload 7, 2) := by decide +kernel
theorem dX6_endOf_46 : decode cX6_endOf 46 = .ok (.laload, 1) := by decide +kernel
theorem dX6_endOf_47 : decode cX6_endOf 47 = .ok (.lstore 5, 2) := by decide +kernel
theorem dX6_endOf_49 : decode cX6_endOf 49 = .ok (.iinc 7 (-1), 3) := by decide +kernel
theorem dX6_endOf_52 : decode cX6_endOf 52 = .ok (.goto (-39), 3) := by decide +kernel
theorem dX6_endOf_55 : decode cX6_endOf 55 = .ok (.lload 5, 2) := by decide +kernel
theorem dX6_endOf_57 : decode cX6_endOf 57 = .ok (.lreturn, 1) := by decide +kernel
theorem dX6_raised_0 : decode cX6_raised 0 = .ok (.lload_n 1, 1) := by decide +kernel
theorem dX6_raised_1 : decode cX6_raised 1 = .ok (.lstore_n 3, 1) := by decide +kernel
theorem dX6_raised_2 : decode cX6_raised 2 = .ok (.lconst 0, 1) := by decide +kernel
theorem dX6_raised_3 : decode cX6_raised 3 = .ok (.lstore 5, 2) := by decide +kernel
theorem dX6_raised_5 : decode cX6_raised 5 = .ok (.aload_n 0, 1) := by decide +kernel
theorem dX6_raised_6 : decode cX6_raised 6 = .ok (.getfield 17, 3) := by decide +kernel
theorem dX6_raised_9 : decode cX6_raised 9 = .ok (.iconst 2, 1) := by decide +kernel
theorem dX6_raised_10 : decode cX6_raised 10 = .ok (.isub, 1) := by decide +kernel
theorem dX6_raised_11 : decode cX6_raised 11 = .ok (.istore 7, 2) := by decide +kernel
theorem dX6_raised_13 : decode cX6_raised 13 = .ok (.iload 7, 2) := by decide +kernel
theorem dX6_raised_15 : decode cX6_raised 15 = .ok (.ifCond .lt 45, 3) := by decide +kernel
theorem dX6_raised_18 : decode cX6_raised 18 = .ok (.aload_n 0, 1) := by decide +kernel
theorem dX6_raised_19 : decode cX6_raised 19 = .ok (.getfield 11, 3) := by decide +kernel
theorem dX6_raised_22 : decode cX6_raised 22 = .ok (.iload 7, 2) := by decide +kernel
theorem dX6_raised_24 : decode cX6_raised 24 = .ok (.laload, 1) := by decide +kernel
theorem dX6_raised_25 : decode cX6_raised 25 = .ok (.lload_n 3, 1) := by decide +kernel
theorem dX6_raised_26 : decode cX6_raised 26 = .ok (.lcmp, 1) := by decide +kernel
theorem dX6_raised_27 : decode cX6_raised 27 = .ok (.ifCond .gt 27, 3) := by decide +kernel
theorem dX6_raised_30 : decode cX6_raised 30 = .ok (.lload_n 3, 1) := by decide +kernel
theorem dX6_raised_31 : decode cX6_raised 31 = .ok (.aload_n 0, 1) := by decide +kernel
theorem dX6_raised_32 : decode cX6_raised 32 = .ok (.getfield 11, 3) := by decide +kernel
theorem dX6_raised_35 : decode cX6_raised 35 = .ok (.iload 7, 2) := by decide +kernel
theorem dX6_raised_37 : decode cX6_raised 37 = .ok (.laload, 1) := by decide +kernel
theorem dX6_raised_38 : decode cX6_raised 38 = .ok (.lsub, 1) := by decide +kernel
theorem dX6_raised_39 : decode cX6_raised 39 = .ok (.lstore_n 3, 1) := by decide +kernel
theorem dX6_raised_40 : decode cX6_raised 40 = .ok (.lload 5, 2) := by decide +kernel
theorem dX6_raised_42 : decode cX6_raised 42 = .ok (.aload_n 0, 1) := by decide +kernel
theorem dX6_raised_43 : decode cX6_raised 43 = .ok (.getfield 11, 3) := by decide +kernel
theorem dX6_raised_46 : decode cX6_raised 46 = .ok (.iload 7, 2) := by decide +kernel
theorem dX6_raised_48 : decode cX6_raised 48 = .ok (.iconst 1, 1) := by decide +kernel
theorem dX6_raised_49 : decode cX6_raised 49 = .ok (.iadd, 1) := by decide +kernel
theorem dX6_raised_50 : decode cX6_raised 50 = .ok (.laload, 1) := by decide +kernel
theorem dX6_raised_51 : decode cX6_raised 51 = .ok (.ladd, 1) := by decide +kernel
theorem dX6_raised_52 : decode cX6_raised 52 = .ok (.lstore 5, 2) := by decide +kernel
theorem dX6_raised_54 : decode cX6_raised 54 = .ok (.iinc 7 (-1), 3) := by decide +kernel
theorem dX6_raised_57 : decode cX6_raised 57 = .ok (.goto (-44), 3) := by decide +kernel
theorem dX6_raised_60 : decode cX6_raised 60 = .ok (.lload 5, 2) := by decide +kernel
theorem dX6_raised_62 : decode cX6_raised 62 = .ok (.lreturn, 1) := by decide +kernel
theorem dX7_init_0 : decode cX7_init 0 = .ok (.aload_n 0, 1) := by decide +kernel
theorem dX7_init_1 : decode cX7_init 1 = .ok (.invokespecial 3, 3) := by decide +kernel
theorem dX7_init_4 : decode cX7_init 4 = .ok (.aload_n 0, 1) := by decide +kernel
theorem dX7_init_5 : decode cX7_init 5 = .ok (.bipush 10, 2) := by decide +kernel
theorem dX7_init_7 : decode cX7_init 7 = .ok (.anewarray 9, 3) := by decide +kernel
theorem dX7_init_10 : decode cX7_init 10 = .ok (.putfield 11, 3) := by decide +kernel
theorem dX7_init_13 : decode cX7_init 13 = .ok (.return_, 1) := by decide +kernel
set_option maxRecDepth 20000 in
theorem ggX7_sumsBy_X6_init : GoodIn wsX7_sumsBy wsX6_init := goodIn_r _ [7, 8, 9, 10, 11, 12, 13, 14, 16, 17] (by decide +kernel) (by decide +kernel)
set_option maxRecDepth 20000 in
theorem gX7_sumsBy_X6_init : GoodIn wsX7_sumsBy (wsX6_init) := ggX7_sumsBy_X6_init
theorem dX7_sumsBy_0 : decode cX7_sumsBy 0 = .ok (.iload_n 1, 1) := by decide +kernel
theorem dX7_sumsBy_1 : decode cX7_sumsBy 1 = .ok (.iconst 1, 1) := by decide +kernel
theorem dX7_sumsBy_2 : decode cX7_sumsBy 2 = .ok (.if_icmp .lt 13, 3) := by decide +kernel
theorem dX7_sumsBy_5 : decode cX7_sumsBy 5 = .ok (.iload_n 1, 1) := by decide +kernel
theorem dX7_sumsBy_6 : decode cX7_sumsBy 6 = .ok (.bipush 9, 2) := by decide +kernel
theorem dX7_sumsBy_8 : decode cX7_sumsBy 8 = .ok (.if_icmp .gt 7, 3) := by decide +kernel
theorem dX7_sumsBy_11 : decode cX7_sumsBy 11 = .ok (.iload_n 1, 1) := by decide +kernel
