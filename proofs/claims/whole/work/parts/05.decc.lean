theorem dX9_wonAt_67 : decode cX9_wonAt 67 = .ok (.imul, 1) := by decide +kernel
theorem dX9_wonAt_68 : decode cX9_wonAt 68 = .ok (.iadd, 1) := by decide +kernel
theorem dX9_wonAt_69 : decode cX9_wonAt 69 = .ok (.iload 7, 2) := by decide +kernel
theorem dX9_wonAt_71 : decode cX9_wonAt 71 = .ok (.iadd, 1) := by decide +kernel
theorem dX9_wonAt_72 : decode cX9_wonAt 72 = .ok (.iload_n 1, 1) := by decide +kernel
theorem dX9_wonAt_73 : decode cX9_wonAt 73 = .ok (.ifCond .ne 17, 3) := by decide +kernel
theorem dX9_wonAt_76 : decode cX9_wonAt 76 = .ok (.aload_n 0, 1) := by decide +kernel
theorem dX9_wonAt_77 : decode cX9_wonAt 77 = .ok (.iload 5, 2) := by decide +kernel
theorem dX9_wonAt_79 : decode cX9_wonAt 79 = .ok (.iload_n 2, 1) := by decide +kernel
theorem dX9_wonAt_80 : decode cX9_wonAt 80 = .ok (.iload 6, 2) := by decide +kernel
theorem dX9_wonAt_82 : decode cX9_wonAt 82 = .ok (.iload 7, 2) := by decide +kernel
theorem dX9_wonAt_84 : decode cX9_wonAt 84 = .ok (.invokevirtual 114, 3) := by decide +kernel
theorem dX9_wonAt_87 : decode cX9_wonAt 87 = .ok (.goto 14, 3) := by decide +kernel
theorem dX9_wonAt_90 : decode cX9_wonAt 90 = .ok (.aload_n 0, 1) := by decide +kernel
theorem dX9_wonAt_91 : decode cX9_wonAt 91 = .ok (.iload 5, 2) := by decide +kernel
theorem dX9_wonAt_93 : decode cX9_wonAt 93 = .ok (.iload_n 2, 1) := by decide +kernel
theorem dX9_wonAt_94 : decode cX9_wonAt 94 = .ok (.iload 6, 2) := by decide +kernel
theorem dX9_wonAt_96 : decode cX9_wonAt 96 = .ok (.iload 7, 2) := by decide +kernel
theorem dX9_wonAt_98 : decode cX9_wonAt 98 = .ok (.invokevirtual 118, 3) := by decide +kernel
theorem dX9_wonAt_101 : decode cX9_wonAt 101 = .ok (.bastore, 1) := by decide +kernel
theorem dX9_wonAt_102 : decode cX9_wonAt 102 = .ok (.iinc 7 1, 3) := by decide +kernel
theorem dX9_wonAt_105 : decode cX9_wonAt 105 = .ok (.goto (-59), 3) := by decide +kernel
theorem dX9_wonAt_108 : decode cX9_wonAt 108 = .ok (.iinc 6 1, 3) := by decide +kernel
theorem dX9_wonAt_111 : decode cX9_wonAt 111 = .ok (.goto (-75), 3) := by decide +kernel
theorem dX9_wonAt_114 : decode cX9_wonAt 114 = .ok (.aload_n 0, 1) := by decide +kernel
theorem dX9_wonAt_115 : decode cX9_wonAt 115 = .ok (.getfield 16, 3) := by decide +kernel
theorem dX9_wonAt_118 : decode cX9_wonAt 118 = .ok (.sipush 3721, 3) := by decide +kernel
theorem dX9_wonAt_121 : decode cX9_wonAt 121 = .ok (.iload 5, 2) := by decide +kernel
theorem dX9_wonAt_123 : decode cX9_wonAt 123 = .ok (.imul, 1) := by decide +kernel
theorem dX9_wonAt_124 : decode cX9_wonAt 124 = .ok (.bipush 61, 2) := by decide +kernel
theorem dX9_wonAt_126 : decode cX9_wonAt 126 = .ok (.iload_n 3, 1) := by decide +kernel
theorem dX9_wonAt_127 : decode cX9_wonAt 127 = .ok (.imul, 1) := by decide +kernel
theorem dX9_wonAt_128 : decode cX9_wonAt 128 = .ok (.iadd, 1) := by decide +kernel
theorem dX9_wonAt_129 : decode cX9_wonAt 129 = .ok (.iload 4, 2) := by decide +kernel
theorem dX9_wonAt_131 : decode cX9_wonAt 131 = .ok (.iadd, 1) := by decide +kernel
theorem dX9_wonAt_132 : decode cX9_wonAt 132 = .ok (.baload, 1) := by decide +kernel
theorem dX9_wonAt_133 : decode cX9_wonAt 133 = .ok (.ireturn, 1) := by decide +kernel
theorem dX9_goShares_0 : decode cX9_goShares 0 = .ok (.iload_n 3, 1) := by decide +kernel
theorem dX9_goShares_1 : decode cX9_goShares 1 = .ok (.ifCond .eq 8, 3) := by decide +kernel
theorem dX9_goShares_4 : decode cX9_goShares 4 = .ok (.iload 4, 2) := by decide +kernel
theorem dX9_goShares_6 : decode cX9_goShares 6 = .ok (.ifCond .ne 5, 3) := by decide +kernel
theorem dX9_goShares_9 : decode cX9_goShares 9 = .ok (.iload_n 2, 1) := by decide +kernel
theorem dX9_goShares_10 : decode cX9_goShares 10 = .ok (.ireturn, 1) := by decide +kernel
theorem dX9_goShares_11 : decode cX9_goShares 11 = .ok (.iconst 0, 1) := by decide +kernel
theorem dX9_goShares_12 : decode cX9_goShares 12 = .ok (.istore 5, 2) := by decide +kernel
theorem dX9_goShares_14 : decode cX9_goShares 14 = .ok (.iload_n 3, 1) := by decide +kernel
theorem dX9_goShares_15 : decode cX9_goShares 15 = .ok (.iload 4, 2) := by decide +kernel
theorem dX9_goShares_17 : decode cX9_goShares 17 = .ok (.isub, 1) := by decide +kernel
theorem dX9_goShares_18 : decode cX9_goShares 18 = .ok (.istore 6, 2) := by decide +kernel
theorem dX9_goShares_20 : decode cX9_goShares 20 = .ok (.iload 6, 2) := by decide +kernel
theorem dX9_goShares_22 : decode cX9_goShares 22 = .ok (.ifCond .lt 47, 3) := by decide +kernel
theorem dX9_goShares_25 : decode cX9_goShares 25 = .ok (.iload 5, 2) := by decide +kernel
theorem dX9_goShares_27 : decode cX9_goShares 27 = .ok (.ifCond .ne 25, 3) := by decide +kernel
theorem dX9_goShares_30 : decode cX9_goShares 30 = .ok (.aload_n 0, 1) := by decide +kernel
theorem dX9_goShares_31 : decode cX9_goShares 31 = .ok (.getfield 16, 3) := by decide +kernel
theorem dX9_goShares_34 : decode cX9_goShares 34 = .ok (.sipush 3721, 3) := by decide +kernel
theorem dX9_goShares_37 : decode cX9_goShares 37 = .ok (.iload_n 1, 1) := by decide +kernel
theorem dX9_goShares_38 : decode cX9_goShares 38 = .ok (.imul, 1) := by decide +kernel
theorem dX9_goShares_39 : decode cX9_goShares 39 = .ok (.bipush 61, 2) := by decide +kernel
theorem dX9_goShares_41 : decode cX9_goShares 41 = .ok (.iload 6, 2) := by decide +kernel
theorem dX9_goShares_43 : decode cX9_goShares 43 = .ok (.imul, 1) := by decide +kernel
theorem dX9_goShares_44 : decode cX9_goShares 44 = .ok (.iadd, 1) := by decide +kernel
theorem dX9_goShares_45 : decode cX9_goShares 45 = .ok (.iload 4, 2) := by decide +kernel
theorem dX9_goShares_47 : decode cX9_goShares 47 = .ok (.iadd, 1) := by decide +kernel
theorem dX9_goShares_48 : decode cX9_goShares 48 = .ok (.baload, 1) := by decide +kernel
theorem dX9_goShares_49 : decode cX9_goShares 49 = .ok (.ifCond .ne 7, 3) := by decide +kernel
theorem dX9_goShares_52 : decode cX9_goShares 52 = .ok (.iconst 1, 1) := by decide +kernel
theorem dX9_goShares_53 : decode cX9_goShares 53 = .ok (.goto 4, 3) := by decide +kernel
theorem dX9_goShares_56 : decode cX9_goShares 56 = .ok (.iconst 0, 1) := by decide +kernel
theorem dX9_goShares_57 : decode cX9_goShares 57 = .ok (.istore 5, 2) := by decide +kernel
theorem dX9_goShares_59 : decode cX9_goShares 59 = .ok (.iload 6, 2) := by decide +kernel
theorem dX9_goShares_61 : decode cX9_goShares 61 = .ok (.iload 4, 2) := by decide +kernel
theorem dX9_goShares_63 : decode cX9_goShares 63 = .ok (.isub, 1) := by decide +kernel
theorem dX9_goShares_64 : decode cX9_goShares 64 = .ok (.istore 6, 2) := by decide +kernel
theorem dX9_goShares_66 : decode cX9_goShares 66 = .ok (.goto (-46), 3) := by decide +kernel
theorem dX9_goShares_69 : decode cX9_goShares 69 = .ok (.iload 4, 2) := by decide +kernel
theorem dX9_goShares_71 : decode cX9_goShares 71 = .ok (.iload_n 3, 1) := by decide +kernel
theorem dX9_goShares_72 : decode cX9_goShares 72 = .ok (.isub, 1) := by decide +kernel
theorem dX9_goShares_73 : decode cX9_goShares 73 = .ok (.istore 6, 2) := by decide +kernel
theorem dX9_goShares_75 : decode cX9_goShares 75 = .ok (.iload 6, 2) := by decide +kernel
theorem dX9_goShares_77 : decode cX9_goShares 77 = .ok (.ifCond .lt 45, 3) := by decide +kernel
theorem dX9_goShares_80 : decode cX9_goShares 80 = .ok (.iload 5, 2) := by decide +kernel
theorem dX9_goShares_82 : decode cX9_goShares 82 = .ok (.ifCond .ne 24, 3) := by decide +kernel
theorem dX9_goShares_85 : decode cX9_goShares 85 = .ok (.aload_n 0, 1) := by decide +kernel
theorem dX9_goShares_86 : decode cX9_goShares 86 = .ok (.getfield 16, 3) := by decide +kernel
theorem dX9_goShares_89 : decode cX9_goShares 89 = .ok (.sipush 3721, 3) := by decide +kernel
theorem dX9_goShares_92 : decode cX9_goShares 92 = .ok (.iload_n 1, 1) := by decide +kernel
theorem dX9_goShares_93 : decode cX9_goShares 93 = .ok (.imul, 1) := by decide +kernel
theorem dX9_goShares_94 : decode cX9_goShares 94 = .ok (.bipush 61, 2) := by decide +kernel
theorem dX9_goShares_96 : decode cX9_goShares 96 = .ok (.iload_n 3, 1) := by decide +kernel
theorem dX9_goShares_97 : decode cX9_goShares 97 = .ok (.imul, 1) := by decide +kernel
theorem dX9_goShares_98 : decode cX9_goShares 98 = .ok (.iadd, 1) := by decide +kernel
theorem dX9_goShares_99 : decode cX9_goShares 99 = .ok (.iload 6, 2) := by decide +kernel
theorem dX9_goShares_101 : decode cX9_goShares 101 = .ok (.iadd, 1) := by decide +kernel
theorem dX9_goShares_102 : decode cX9_goShares 102 = .ok (.baload, 1) := by decide +kernel
theorem dX9_goShares_103 : decode cX9_goShares 103 = .ok (.ifCond .ne 7, 3) := by decide +kernel
theorem dX9_goShares_106 : decode cX9_goShares 106 = .ok (.iconst 1, 1) := by decide +kernel
theorem dX9_goShares_107 : decode cX9_goShares 107 = .ok (.goto 4, 3) := by decide +kernel
theorem dX9_goShares_110 : decode cX9_goShares 110 = .ok (.iconst 0, 1) := by decide +kernel
theorem dX9_goShares_111 : decode cX9_goShares 111 = .ok (.istore 5, 2) := by decide +kernel
theorem dX9_goShares_113 : decode cX9_goShares 113 = .ok (.iload 6, 2) := by decide +kernel
theorem dX9_goShares_115 : decode cX9_goShares 115 = .ok (.iload_n 3, 1) := by decide +kernel
theorem dX9_goShares_116 : decode cX9_goShares 116 = .ok (.isub, 1) := by decide +kernel
theorem dX9_goShares_117 : decode cX9_goShares 117 = .ok (.istore 6, 2) := by decide +kernel
theorem dX9_goShares_119 : decode cX9_goShares 119 = .ok (.goto (-44), 3) := by decide +kernel
theorem dX9_goShares_122 : decode cX9_goShares 122 = .ok (.iload 5, 2) := by decide +kernel
theorem dX9_goShares_124 : decode cX9_goShares 124 = .ok (.ireturn, 1) := by decide +kernel
theorem dX9_goBoth_0 : decode cX9_goBoth 0 = .ok (.iload_n 3, 1) := by decide +kernel
theorem dX9_goBoth_1 : decode cX9_goBoth 1 = .ok (.ifCond .ne 10, 3) := by decide +kernel
theorem dX9_goBoth_4 : decode cX9_goBoth 4 = .ok (.iload 4, 2) := by decide +kernel
theorem dX9_goBoth_6 : decode cX9_goBoth 6 = .ok (.ifCond .ne 5, 3) := by decide +kernel
theorem dX9_goBoth_9 : decode cX9_goBoth 9 = .ok (.iload_n 2, 1) := by decide +kernel
theorem dX9_goBoth_10 : decode cX9_goBoth 10 = .ok (.ireturn, 1) := by decide +kernel
theorem dX9_goBoth_11 : decode cX9_goBoth 11 = .ok (.iconst 0, 1) := by decide +kernel
theorem dX9_goBoth_12 : decode cX9_goBoth 12 = .ok (.istore 5, 2) := by decide +kernel
theorem dX9_goBoth_14 : decode cX9_goBoth 14 = .ok (.iconst 1, 1) := by decide +kernel
theorem dX9_goBoth_15 : decode cX9_goBoth 15 = .ok (.istore 6, 2) := by decide +kernel
theorem dX9_goBoth_17 : decode cX9_goBoth 17 = .ok (.iload 6, 2) := by decide +kernel
theorem dX9_goBoth_19 : decode cX9_goBoth 19 = .ok (.bipush 60, 2) := by decide +kernel
theorem dX9_goBoth_21 : decode cX9_goBoth 21 = .ok (.if_icmp .gt 122, 3) := by decide +kernel
theorem dX9_goBoth_24 : decode cX9_goBoth 24 = .ok (.iload 5, 2) := by decide +kernel
theorem dX9_goBoth_26 : decode cX9_goBoth 26 = .ok (.ifCond .ne 104, 3) := by decide +kernel
theorem dX9_goBoth_29 : decode cX9_goBoth 29 = .ok (.iload 6, 2) := by decide +kernel
theorem dX9_goBoth_31 : decode cX9_goBoth 31 = .ok (.iload_n 3, 1) := by decide +kernel
theorem dX9_goBoth_32 : decode cX9_goBoth 32 = .ok (.if_icmp .gt 27, 3) := by decide +kernel
theorem dX9_goBoth_35 : decode cX9_goBoth 35 = .ok (.aload_n 0, 1) := by decide +kernel
theorem dX9_goBoth_36 : decode cX9_goBoth 36 = .ok (.getfield 16, 3) := by decide +kernel
theorem dX9_goBoth_39 : decode cX9_goBoth 39 = .ok (.sipush 3721, 3) := by decide +kernel
theorem dX9_goBoth_42 : decode cX9_goBoth 42 = .ok (.iload_n 1, 1) := by decide +kernel
theorem dX9_goBoth_43 : decode cX9_goBoth 43 = .ok (.imul, 1) := by decide +kernel
theorem dX9_goBoth_44 : decode cX9_goBoth 44 = .ok (.bipush 61, 2) := by decide +kernel
theorem dX9_goBoth_46 : decode cX9_goBoth 46 = .ok (.iload_n 3, 1) := by decide +kernel
theorem dX9_goBoth_47 : decode cX9_goBoth 47 = .ok (.iload 6, 2) := by decide +kernel
theorem dX9_goBoth_49 : decode cX9_goBoth 49 = .ok (.isub, 1) := by decide +kernel
theorem dX9_goBoth_50 : decode cX9_goBoth 50 = .ok (.imul, 1) := by decide +kernel
theorem dX9_goBoth_51 : decode cX9_goBoth 51 = .ok (.iadd, 1) := by decide +kernel
theorem dX9_goBoth_52 : decode cX9_goBoth 52 = .ok (.iload 4, 2) := by decide +kernel
theorem dX9_goBoth_54 : decode cX9_goBoth 54 = .ok (.iadd, 1) := by decide +kernel
theorem dX9_goBoth_55 : decode cX9_goBoth 55 = .ok (.baload, 1) := by decide +kernel
theorem dX9_goBoth_56 : decode cX9_goBoth 56 = .ok (.ifCond .eq 74, 3) := by decide +kernel
theorem dX9_goBoth_59 : decode cX9_goBoth 59 = .ok (.iload 6, 2) := by decide +kernel
theorem dX9_goBoth_61 : decode cX9_goBoth 61 = .ok (.iload 4, 2) := by decide +kernel
theorem dX9_goBoth_63 : decode cX9_goBoth 63 = .ok (.if_icmp .gt 27, 3) := by decide +kernel
theorem dX9_goBoth_66 : decode cX9_goBoth 66 = .ok (.aload_n 0, 1) := by decide +kernel
theorem dX9_goBoth_67 : decode cX9_goBoth 67 = .ok (.getfield 16, 3) := by decide +kernel
theorem dX9_goBoth_70 : decode cX9_goBoth 70 = .ok (.sipush 3721, 3) := by decide +kernel
theorem dX9_goBoth_73 : decode cX9_goBoth 73 = .ok (.iload_n 1, 1) := by decide +kernel
theorem dX9_goBoth_74 : decode cX9_goBoth 74 = .ok (.imul, 1) := by decide +kernel
theorem dX9_goBoth_75 : decode cX9_goBoth 75 = .ok (.bipush 61, 2) := by decide +kernel
theorem dX9_goBoth_77 : decode cX9_goBoth 77 = .ok (.iload_n 3, 1) := by decide +kernel
theorem dX9_goBoth_78 : decode cX9_goBoth 78 = .ok (.imul, 1) := by decide +kernel
theorem dX9_goBoth_79 : decode cX9_goBoth 79 = .ok (.iadd, 1) := by decide +kernel
theorem dX9_goBoth_80 : decode cX9_goBoth 80 = .ok (.iload 4, 2) := by decide +kernel
theorem dX9_goBoth_82 : decode cX9_goBoth 82 = .ok (.iadd, 1) := by decide +kernel
theorem dX9_goBoth_83 : decode cX9_goBoth 83 = .ok (.iload 6, 2) := by decide +kernel
theorem dX9_goBoth_85 : decode cX9_goBoth 85 = .ok (.isub, 1) := by decide +kernel
theorem dX9_goBoth_86 : decode cX9_goBoth 86 = .ok (.baload, 1) := by decide +kernel
theorem dX9_goBoth_87 : decode cX9_goBoth 87 = .ok (.ifCond .eq 43, 3) := by decide +kernel
theorem dX9_goBoth_90 : decode cX9_goBoth 90 = .ok (.iload 6, 2) := by decide +kernel
theorem dX9_goBoth_92 : decode cX9_goBoth 92 = .ok (.iload_n 3, 1) := by decide +kernel
theorem dX9_goBoth_93 : decode cX9_goBoth 93 = .ok (.if_icmp .gt 41, 3) := by decide +kernel
theorem dX9_goBoth_96 : decode cX9_goBoth 96 = .ok (.iload 6, 2) := by decide +kernel
theorem dX9_goBoth_98 : decode cX9_goBoth 98 = .ok (.iload 4, 2) := by decide +kernel
theorem dX9_goBoth_100 : decode cX9_goBoth 100 = .ok (.if_icmp .gt 34, 3) := by decide +kernel
theorem dX9_goBoth_103 : decode cX9_goBoth 103 = .ok (.aload_n 0, 1) := by decide +kernel
theorem dX9_goBoth_104 : decode cX9_goBoth 104 = .ok (.getfield 16, 3) := by decide +kernel
theorem dX9_goBoth_107 : decode cX9_goBoth 107 = .ok (.sipush 3721, 3) := by decide +kernel
theorem dX9_goBoth_110 : decode cX9_goBoth 110 = .ok (.iload_n 1, 1) := by decide +kernel
theorem dX9_goBoth_111 : decode cX9_goBoth 111 = .ok (.imul, 1) := by decide +kernel
theorem dX9_goBoth_112 : decode cX9_goBoth 112 = .ok (.bipush 61, 2) := by decide +kernel
theorem dX9_goBoth_114 : decode cX9_goBoth 114 = .ok (.iload_n 3, 1) := by decide +kernel
theorem dX9_goBoth_115 : decode cX9_goBoth 115 = .ok (.iload 6, 2) := by decide +kernel
theorem dX9_goBoth_117 : decode cX9_goBoth 117 = .ok (.isub, 1) := by decide +kernel
theorem dX9_goBoth_118 : decode cX9_goBoth 118 = .ok (.imul, 1) := by decide +kernel
theorem dX9_goBoth_119 : decode cX9_goBoth 119 = .ok (.iadd, 1) := by decide +kernel
theorem dX9_goBoth_120 : decode cX9_goBoth 120 = .ok (.iload 4, 2) := by decide +kernel
theorem dX9_goBoth_122 : decode cX9_goBoth 122 = .ok (.iadd, 1) := by decide +kernel
theorem dX9_goBoth_123 : decode cX9_goBoth 123 = .ok (.iload 6, 2) := by decide +kernel
theorem dX9_goBoth_125 : decode cX9_goBoth 125 = .ok (.isub, 1) := by decide +kernel
theorem dX9_goBoth_126 : decode cX9_goBoth 126 = .ok (.baload, 1) := by decide +kernel
theorem dX9_goBoth_127 : decode cX9_goBoth 127 = .ok (.ifCond .ne 7, 3) := by decide +kernel
theorem dX9_goBoth_130 : decode cX9_goBoth 130 = .ok (.iconst 1, 1) := by decide +kernel
theorem dX9_goBoth_131 : decode cX9_goBoth 131 = .ok (.goto 4, 3) := by decide +kernel
theorem dX9_goBoth_134 : decode cX9_goBoth 134 = .ok (.iconst 0, 1) := by decide +kernel
theorem dX9_goBoth_135 : decode cX9_goBoth 135 = .ok (.istore 5, 2) := by decide +kernel
theorem dX9_goBoth_137 : decode cX9_goBoth 137 = .ok (.iinc 6 1, 3) := by decide +kernel
theorem dX9_goBoth_140 : decode cX9_goBoth 140 = .ok (.goto (-123), 3) := by decide +kernel
theorem dX9_goBoth_143 : decode cX9_goBoth 143 = .ok (.iload 5, 2) := by decide +kernel
theorem dX9_goBoth_145 : decode cX9_goBoth 145 = .ok (.ireturn, 1) := by decide +kernel
set_option maxRecDepth 20000 in
theorem ggX9_threeAt_X9_goThree : GoodIn wsX9_threeAt wsX9_goThree := goodIn_r _ [7, 2, 8, 9, 10, 11, 12, 13, 14, 15, 16, 17, 18, 19, 20, 21, 22, 23, 24, 25] (by decide +kernel) (by decide +kernel)
set_option maxRecDepth 20000 in
theorem gX9_threeAt_X9_goThree : GoodIn wsX9_threeAt (wsV RX9 121 RX9 yX9_goThree wsX9_goThree) := goodIn_app (goodIn_of _ (by decide +kernel)) ggX9_threeAt_X9_goThree
theorem dX9_threeAt_0 : decode cX9_threeAt 0 = .ok (.iload_n 1, 1) := by decide +kernel
theorem dX9_threeAt_1 : decode cX9_threeAt 1 = .ok (.ifCond .eq 7, 3) := by decide +kernel
theorem dX9_threeAt_4 : decode cX9_threeAt 4 = .ok (.iconst 1, 1) := by decide +kernel
theorem dX9_threeAt_5 : decode cX9_threeAt 5 = .ok (.goto 4, 3) := by decide +kernel
theorem dX9_threeAt_8 : decode cX9_threeAt 8 = .ok (.iconst 0, 1) := by decide +kernel
theorem dX9_threeAt_9 : decode cX9_threeAt 9 = .ok (.istore 5, 2) := by decide +kernel
theorem dX9_threeAt_11 : decode cX9_threeAt 11 = .ok (.aload_n 0, 1) := by decide +kernel
theorem dX9_threeAt_12 : decode cX9_threeAt 12 = .ok (.getfield 26, 3) := by decide +kernel
theorem dX9_threeAt_15 : decode cX9_threeAt 15 = .ok (.iload 5, 2) := by decide +kernel
theorem dX9_threeAt_17 : decode cX9_threeAt 17 = .ok (.baload, 1) := by decide +kernel
theorem dX9_threeAt_18 : decode cX9_threeAt 18 = .ok (.ifCond .ne 67, 3) := by decide +kernel
theorem dX9_threeAt_21 : decode cX9_threeAt 21 = .ok (.aload_n 0, 1) := by decide +kernel
theorem dX9_threeAt_22 : decode cX9_threeAt 22 = .ok (.getfield 26, 3) := by decide +kernel
theorem dX9_threeAt_25 : decode cX9_threeAt 25 = .ok (.iload 5, 2) := by decide +kernel
theorem dX9_threeAt_27 : decode cX9_threeAt 27 = .ok (.iconst 1, 1) := by decide +kernel
theorem dX9_threeAt_28 : decode cX9_threeAt 28 = .ok (.bastore, 1) := by decide +kernel
theorem dX9_threeAt_29 : decode cX9_threeAt 29 = .ok (.iconst 0, 1) := by decide +kernel
theorem dX9_threeAt_30 : decode cX9_threeAt 30 = .ok (.istore 6, 2) := by decide +kernel
theorem dX9_threeAt_32 : decode cX9_threeAt 32 = .ok (.iload 6, 2) := by decide +kernel
theorem dX9_threeAt_34 : decode cX9_threeAt 34 = .ok (.sipush 1331, 3) := by decide +kernel
theorem dX9_threeAt_37 : decode cX9_threeAt 37 = .ok (.if_icmp .ge 48, 3) := by decide +kernel
theorem dX9_threeAt_40 : decode cX9_threeAt 40 = .ok (.aload_n 0, 1) := by decide +kernel
theorem dX9_threeAt_41 : decode cX9_threeAt 41 = .ok (.getfield 23, 3) := by decide +kernel
theorem dX9_threeAt_44 : decode cX9_threeAt 44 = .ok (.sipush 1331, 3) := by decide +kernel
theorem dX9_threeAt_47 : decode cX9_threeAt 47 = .ok (.iload 5, 2) := by decide +kernel
theorem dX9_threeAt_49 : decode cX9_threeAt 49 = .ok (.imul, 1) := by decide +kernel
theorem dX9_threeAt_50 : decode cX9_threeAt 50 = .ok (.iload 6, 2) := by decide +kernel
theorem dX9_threeAt_52 : decode cX9_threeAt 52 = .ok (.iadd, 1) := by decide +kernel
theorem dX9_threeAt_53 : decode cX9_threeAt 53 = .ok (.aload_n 0, 1) := by decide +kernel
theorem dX9_threeAt_54 : decode cX9_threeAt 54 = .ok (.iload 5, 2) := by decide +kernel
theorem dX9_threeAt_56 : decode cX9_threeAt 56 = .ok (.iload_n 1, 1) := by decide +kernel
theorem dX9_threeAt_57 : decode cX9_threeAt 57 = .ok (.iload 6, 2) := by decide +kernel
theorem dX9_threeAt_59 : decode cX9_threeAt 59 = .ok (.bipush 121, 2) := by decide +kernel
theorem dX9_threeAt_61 : decode cX9_threeAt 61 = .ok (.idiv, 1) := by decide +kernel
theorem dX9_threeAt_62 : decode cX9_threeAt 62 = .ok (.iload 6, 2) := by decide +kernel
theorem dX9_threeAt_64 : decode cX9_threeAt 64 = .ok (.bipush 11, 2) := by decide +kernel
theorem dX9_threeAt_66 : decode cX9_threeAt 66 = .ok (.idiv, 1) := by decide +kernel
theorem dX9_threeAt_67 : decode cX9_threeAt 67 = .ok (.bipush 11, 2) := by decide +kernel
theorem dX9_threeAt_69 : decode cX9_threeAt 69 = .ok (.irem, 1) := by decide +kernel
theorem dX9_threeAt_70 : decode cX9_threeAt 70 = .ok (.iload 6, 2) := by decide +kernel
theorem dX9_threeAt_72 : decode cX9_threeAt 72 = .ok (.bipush 11, 2) := by decide +kernel
theorem dX9_threeAt_74 : decode cX9_threeAt 74 = .ok (.irem, 1) := by decide +kernel
theorem dX9_threeAt_75 : decode cX9_threeAt 75 = .ok (.invokevirtual 121, 3) := by decide +kernel
theorem dX9_threeAt_78 : decode cX9_threeAt 78 = .ok (.bastore, 1) := by decide +kernel
theorem dX9_threeAt_79 : decode cX9_threeAt 79 = .ok (.iinc 6 1, 3) := by decide +kernel
theorem dX9_threeAt_82 : decode cX9_threeAt 82 = .ok (.goto (-50), 3) := by decide +kernel
theorem dX9_threeAt_85 : decode cX9_threeAt 85 = .ok (.aload_n 0, 1) := by decide +kernel
theorem dX9_threeAt_86 : decode cX9_threeAt 86 = .ok (.getfield 23, 3) := by decide +kernel
theorem dX9_threeAt_89 : decode cX9_threeAt 89 = .ok (.sipush 1331, 3) := by decide +kernel
theorem dX9_threeAt_92 : decode cX9_threeAt 92 = .ok (.iload 5, 2) := by decide +kernel
theorem dX9_threeAt_94 : decode cX9_threeAt 94 = .ok (.imul, 1) := by decide +kernel
theorem dX9_threeAt_95 : decode cX9_threeAt 95 = .ok (.bipush 121, 2) := by decide +kernel
theorem dX9_threeAt_97 : decode cX9_threeAt 97 = .ok (.iload_n 2, 1) := by decide +kernel
theorem dX9_threeAt_98 : decode cX9_threeAt 98 = .ok (.imul, 1) := by decide +kernel
theorem dX9_threeAt_99 : decode cX9_threeAt 99 = .ok (.iadd, 1) := by decide +kernel
theorem dX9_threeAt_100 : decode cX9_threeAt 100 = .ok (.bipush 11, 2) := by decide +kernel
theorem dX9_threeAt_102 : decode cX9_threeAt 102 = .ok (.iload_n 3, 1) := by decide +kernel
theorem dX9_threeAt_103 : decode cX9_threeAt 103 = .ok (.imul, 1) := by decide +kernel
theorem dX9_threeAt_104 : decode cX9_threeAt 104 = .ok (.iadd, 1) := by decide +kernel
theorem dX9_threeAt_105 : decode cX9_threeAt 105 = .ok (.iload 4, 2) := by decide +kernel
theorem dX9_threeAt_107 : decode cX9_threeAt 107 = .ok (.iadd, 1) := by decide +kernel
theorem dX9_threeAt_108 : decode cX9_threeAt 108 = .ok (.baload, 1) := by decide +kernel
theorem dX9_threeAt_109 : decode cX9_threeAt 109 = .ok (.ireturn, 1) := by decide +kernel
theorem dX9_goThree_0 : decode cX9_goThree 0 = .ok (.iload_n 3, 1) := by decide +kernel
theorem dX9_goThree_1 : decode cX9_goThree 1 = .ok (.iload 4, 2) := by decide +kernel
theorem dX9_goThree_3 : decode cX9_goThree 3 = .ok (.iadd, 1) := by decide +kernel
theorem dX9_goThree_4 : decode cX9_goThree 4 = .ok (.iload 5, 2) := by decide +kernel
theorem dX9_goThree_6 : decode cX9_goThree 6 = .ok (.iadd, 1) := by decide +kernel
theorem dX9_goThree_7 : decode cX9_goThree 7 = .ok (.ifCond .ne 5, 3) := by decide +kernel
theorem dX9_goThree_10 : decode cX9_goThree 10 = .ok (.iload_n 2, 1) := by decide +kernel
theorem dX9_goThree_11 : decode cX9_goThree 11 = .ok (.ireturn, 1) := by decide +kernel
theorem dX9_goThree_12 : decode cX9_goThree 12 = .ok (.sipush 1331, 3) := by decide +kernel
theorem dX9_goThree_15 : decode cX9_goThree 15 = .ok (.iload_n 1, 1) := by decide +kernel
theorem dX9_goThree_16 : decode cX9_goThree 16 = .ok (.imul, 1) := by decide +kernel
theorem dX9_goThree_17 : decode cX9_goThree 17 = .ok (.bipush 121, 2) := by decide +kernel
theorem dX9_goThree_19 : decode cX9_goThree 19 = .ok (.iload_n 3, 1) := by decide +kernel
theorem dX9_goThree_20 : decode cX9_goThree 20 = .ok (.imul, 1) := by decide +kernel
theorem dX9_goThree_21 : decode cX9_goThree 21 = .ok (.iadd, 1) := by decide +kernel
theorem dX9_goThree_22 : decode cX9_goThree 22 = .ok (.bipush 11, 2) := by decide +kernel
theorem dX9_goThree_24 : decode cX9_goThree 24 = .ok (.iload 4, 2) := by decide +kernel
theorem dX9_goThree_26 : decode cX9_goThree 26 = .ok (.imul, 1) := by decide +kernel
theorem dX9_goThree_27 : decode cX9_goThree 27 = .ok (.iadd, 1) := by decide +kernel
theorem dX9_goThree_28 : decode cX9_goThree 28 = .ok (.iload 5, 2) := by decide +kernel
theorem dX9_goThree_30 : decode cX9_goThree 30 = .ok (.iadd, 1) := by decide +kernel
theorem dX9_goThree_31 : decode cX9_goThree 31 = .ok (.istore 6, 2) := by decide +kernel
theorem dX9_goThree_33 : decode cX9_goThree 33 = .ok (.iconst 0, 1) := by decide +kernel
theorem dX9_goThree_34 : decode cX9_goThree 34 = .ok (.istore 7, 2) := by decide +kernel
theorem dX9_goThree_36 : decode cX9_goThree 36 = .ok (.iconst 1, 1) := by decide +kernel
theorem dX9_goThree_37 : decode cX9_goThree 37 = .ok (.istore 8, 2) := by decide +kernel
theorem dX9_goThree_39 : decode cX9_goThree 39 = .ok (.iload 8, 2) := by decide +kernel
theorem dX9_goThree_41 : decode cX9_goThree 41 = .ok (.bipush 10, 2) := by decide +kernel
theorem dX9_goThree_43 : decode cX9_goThree 43 = .ok (.if_icmp .gt 123, 3) := by decide +kernel
theorem dX9_goThree_46 : decode cX9_goThree 46 = .ok (.iload 7, 2) := by decide +kernel
theorem dX9_goThree_48 : decode cX9_goThree 48 = .ok (.ifCond .ne 105, 3) := by decide +kernel
theorem dX9_goThree_51 : decode cX9_goThree 51 = .ok (.iload 8, 2) := by decide +kernel
theorem dX9_goThree_53 : decode cX9_goThree 53 = .ok (.iload_n 3, 1) := by decide +kernel
theorem dX9_goThree_54 : decode cX9_goThree 54 = .ok (.if_icmp .gt 19, 3) := by decide +kernel
theorem dX9_goThree_57 : decode cX9_goThree 57 = .ok (.aload_n 0, 1) := by decide +kernel
theorem dX9_goThree_58 : decode cX9_goThree 58 = .ok (.getfield 23, 3) := by decide +kernel
theorem dX9_goThree_61 : decode cX9_goThree 61 = .ok (.iload 6, 2) := by decide +kernel
theorem dX9_goThree_63 : decode cX9_goThree 63 = .ok (.bipush 121, 2) := by decide +kernel
theorem dX9_goThree_65 : decode cX9_goThree 65 = .ok (.iload 8, 2) := by decide +kernel
theorem dX9_goThree_67 : decode cX9_goThree 67 = .ok (.imul, 1) := by decide +kernel
theorem dX9_goThree_68 : decode cX9_goThree 68 = .ok (.isub, 1) := by decide +kernel
theorem dX9_goThree_69 : decode cX9_goThree 69 = .ok (.baload, 1) := by decide +kernel
theorem dX9_goThree_70 : decode cX9_goThree 70 = .ok (.ifCond .eq 83, 3) := by decide +kernel
theorem dX9_goThree_73 : decode cX9_goThree 73 = .ok (.iload 8, 2) := by decide +kernel
theorem dX9_goThree_75 : decode cX9_goThree 75 = .ok (.iload 4, 2) := by decide +kernel
theorem dX9_goThree_77 : decode cX9_goThree 77 = .ok (.if_icmp .gt 19, 3) := by decide +kernel
theorem dX9_goThree_80 : decode cX9_goThree 80 = .ok (.aload_n 0, 1) := by decide +kernel
theorem dX9_goThree_81 : decode cX9_goThree 81 = .ok (.getfield 23, 3) := by decide +kernel
theorem dX9_goThree_84 : decode cX9_goThree 84 = .ok (.iload 6, 2) := by decide +kernel
theorem dX9_goThree_86 : decode cX9_goThree 86 = .ok (.bipush 11, 2) := by decide +kernel
theorem dX9_goThree_88 : decode cX9_goThree 88 = .ok (.iload 8, 2) := by decide +kernel
theorem dX9_goThree_90 : decode cX9_goThree 90 = .ok (.imul, 1) := by decide +kernel
theorem dX9_goThree_91 : decode cX9_goThree 91 = .ok (.isub, 1) := by decide +kernel
theorem dX9_goThree_92 : decode cX9_goThree 92 = .ok (.baload, 1) := by decide +kernel
theorem dX9_goThree_93 : decode cX9_goThree 93 = .ok (.ifCond .eq 60, 3) := by decide +kernel
theorem dX9_goThree_96 : decode cX9_goThree 96 = .ok (.iload 8, 2) := by decide +kernel
theorem dX9_goThree_98 : decode cX9_goThree 98 = .ok (.iload 5, 2) := by decide +kernel
theorem dX9_goThree_100 : decode cX9_goThree 100 = .ok (.if_icmp .gt 16, 3) := by decide +kernel
theorem dX9_goThree_103 : decode cX9_goThree 103 = .ok (.aload_n 0, 1) := by decide +kernel
theorem dX9_goThree_104 : decode cX9_goThree 104 = .ok (.getfield 23, 3) := by decide +kernel
theorem dX9_goThree_107 : decode cX9_goThree 107 = .ok (.iload 6, 2) := by decide +kernel
theorem dX9_goThree_109 : decode cX9_goThree 109 = .ok (.iload 8, 2) := by decide +kernel
theorem dX9_goThree_111 : decode cX9_goThree 111 = .ok (.isub, 1) := by decide +kernel
theorem dX9_goThree_112 : decode cX9_goThree 112 = .ok (.baload, 1) := by decide +kernel
theorem dX9_goThree_113 : decode cX9_goThree 113 = .ok (.ifCond .eq 40, 3) := by decide +kernel
theorem dX9_goThree_116 : decode cX9_goThree 116 = .ok (.iload 8, 2) := by decide +kernel
theorem dX9_goThree_118 : decode cX9_goThree 118 = .ok (.iload_n 3, 1) := by decide +kernel
theorem dX9_goThree_119 : decode cX9_goThree 119 = .ok (.if_icmp .gt 38, 3) := by decide +kernel
theorem dX9_goThree_122 : decode cX9_goThree 122 = .ok (.iload 8, 2) := by decide +kernel
theorem dX9_goThree_124 : decode cX9_goThree 124 = .ok (.iload 4, 2) := by decide +kernel
theorem dX9_goThree_126 : decode cX9_goThree 126 = .ok (.if_icmp .gt 31, 3) := by decide +kernel
theorem dX9_goThree_129 : decode cX9_goThree 129 = .ok (.iload 8, 2) := by decide +kernel
theorem dX9_goThree_131 : decode cX9_goThree 131 = .ok (.iload 5, 2) := by decide +kernel
theorem dX9_goThree_133 : decode cX9_goThree 133 = .ok (.if_icmp .gt 24, 3) := by decide +kernel
theorem dX9_goThree_136 : decode cX9_goThree 136 = .ok (.aload_n 0, 1) := by decide +kernel
theorem dX9_goThree_137 : decode cX9_goThree 137 = .ok (.getfield 23, 3) := by decide +kernel
theorem dX9_goThree_140 : decode cX9_goThree 140 = .ok (.iload 6, 2) := by decide +kernel
theorem dX9_goThree_142 : decode cX9_goThree 142 = .ok (.sipush 133, 3) := by decide +kernel
theorem dX9_goThree_145 : decode cX9_goThree 145 = .ok (.iload 8, 2) := by decide +kernel
theorem dX9_goThree_147 : decode cX9_goThree 147 = .ok (.imul, 1) := by decide +kernel
theorem dX9_goThree_148 : decode cX9_goThree 148 = .ok (.isub, 1) := by decide +kernel
theorem dX9_goThree_149 : decode cX9_goThree 149 = .ok (.baload, 1) := by decide +kernel
theorem dX9_goThree_150 : decode cX9_goThree 150 = .ok (.ifCond .ne 7, 3) := by decide +kernel
theorem dX9_goThree_153 : decode cX9_goThree 153 = .ok (.iconst 1, 1) := by decide +kernel
theorem dX9_goThree_154 : decode cX9_goThree 154 = .ok (.goto 4, 3) := by decide +kernel
theorem dX9_goThree_157 : decode cX9_goThree 157 = .ok (.iconst 0, 1) := by decide +kernel
theorem dX9_goThree_158 : decode cX9_goThree 158 = .ok (.istore 7, 2) := by decide +kernel
theorem dX9_goThree_160 : decode cX9_goThree 160 = .ok (.iinc 8 1, 3) := by decide +kernel
theorem dX9_goThree_163 : decode cX9_goThree 163 = .ok (.goto (-124), 3) := by decide +kernel
theorem dX9_goThree_166 : decode cX9_goThree 166 = .ok (.iload 7, 2) := by decide +kernel
theorem dX9_goThree_168 : decode cX9_goThree 168 = .ok (.ireturn, 1) := by decide +kernel
set_option maxRecDepth 20000 in
theorem ggX9_byAll_X9_in : GoodIn wsX9_byAll wsX9_in := goodIn_r _ [6] (by decide +kernel) (by decide +kernel)
set_option maxRecDepth 20000 in
theorem gX9_byAll_X9_in : GoodIn wsX9_byAll (va_wsS RX9 50 yX9_in wsX9_in) := goodIn_app (goodIn_of _ (by decide +kernel)) ggX9_byAll_X9_in
set_option maxRecDepth 20000 in
theorem ggX9_byAll_X9_wonAt : GoodIn wsX9_byAll wsX9_wonAt := goodIn_r _ [10, 11, 12, 13, 14, 15, 5, 16, 17, 18, 19, 20, 31, 32, 33, 34, 35, 36, 37, 38, 39, 40, 41, 42, 43, 44, 45, 46, 47, 48] (by decide +kernel) (by decide +kernel)
set_option maxRecDepth 20000 in
theorem gX9_byAll_X9_wonAt : GoodIn wsX9_byAll (wsV RX9 127 RX9 yX9_wonAt wsX9_wonAt) := goodIn_app (goodIn_of _ (by decide +kernel)) ggX9_byAll_X9_wonAt
set_option maxRecDepth 20000 in
theorem ggX9_byAll_X9_threeAt : GoodIn wsX9_byAll wsX9_threeAt := goodIn_r _ [24, 25, 26, 27, 28, 29, 5, 30, 31, 32, 33, 34, 35, 36, 37, 38, 39, 40, 41, 42, 43, 44, 45, 46, 47, 48] (by decide +kernel) (by decide +kernel)
set_option maxRecDepth 20000 in
theorem gX9_byAll_X9_threeAt : GoodIn wsX9_byAll (wsV RX9 132 RX9 yX9_threeAt wsX9_threeAt) := goodIn_app (goodIn_of _ (by decide +kernel)) ggX9_byAll_X9_threeAt
theorem dX9_byAll_0 : decode cX9_byAll 0 = .ok (.iload_n 1, 1) := by decide +kernel
theorem dX9_byAll_1 : decode cX9_byAll 1 = .ok (.ifCond .eq 8, 3) := by decide +kernel
theorem dX9_byAll_4 : decode cX9_byAll 4 = .ok (.iload_n 1, 1) := by decide +kernel
theorem dX9_byAll_5 : decode cX9_byAll 5 = .ok (.iconst 1, 1) := by decide +kernel
theorem dX9_byAll_6 : decode cX9_byAll 6 = .ok (.if_icmp .ne 51, 3) := by decide +kernel
theorem dX9_byAll_9 : decode cX9_byAll 9 = .ok (.iload_n 3, 1) := by decide +kernel
theorem dX9_byAll_10 : decode cX9_byAll 10 = .ok (.i2l, 1) := by decide +kernel
theorem dX9_byAll_11 : decode cX9_byAll 11 = .ok (.lconst 0, 1) := by decide +kernel
theorem dX9_byAll_12 : decode cX9_byAll 12 = .ok (.ldc2_w 125, 3) := by decide +kernel
theorem dX9_byAll_15 : decode cX9_byAll 15 = .ok (.invokestatic 50, 3) := by decide +kernel
theorem dX9_byAll_18 : decode cX9_byAll 18 = .ok (.ifCond .eq 16, 3) := by decide +kernel
theorem dX9_byAll_21 : decode cX9_byAll 21 = .ok (.iload 4, 2) := by decide +kernel
theorem dX9_byAll_23 : decode cX9_byAll 23 = .ok (.i2l, 1) := by decide +kernel
theorem dX9_byAll_24 : decode cX9_byAll 24 = .ok (.lconst 0, 1) := by decide +kernel
theorem dX9_byAll_25 : decode cX9_byAll 25 = .ok (.ldc2_w 125, 3) := by decide +kernel
theorem dX9_byAll_28 : decode cX9_byAll 28 = .ok (.invokestatic 50, 3) := by decide +kernel
theorem dX9_byAll_31 : decode cX9_byAll 31 = .ok (.ifCond .ne 8, 3) := by decide +kernel
theorem dX9_byAll_34 : decode cX9_byAll 34 = .ok (.bipush (-2), 2) := by decide +kernel
theorem dX9_byAll_36 : decode cX9_byAll 36 = .ok (.goto 20, 3) := by decide +kernel
theorem dX9_byAll_39 : decode cX9_byAll 39 = .ok (.aload_n 0, 1) := by decide +kernel
theorem dX9_byAll_40 : decode cX9_byAll 40 = .ok (.iload_n 1, 1) := by decide +kernel
theorem dX9_byAll_41 : decode cX9_byAll 41 = .ok (.iload_n 2, 1) := by decide +kernel
theorem dX9_byAll_42 : decode cX9_byAll 42 = .ok (.iload_n 3, 1) := by decide +kernel
theorem dX9_byAll_43 : decode cX9_byAll 43 = .ok (.iload 4, 2) := by decide +kernel
theorem dX9_byAll_45 : decode cX9_byAll 45 = .ok (.invokevirtual 127, 3) := by decide +kernel
theorem dX9_byAll_48 : decode cX9_byAll 48 = .ok (.ifCond .eq 7, 3) := by decide +kernel
theorem dX9_byAll_51 : decode cX9_byAll 51 = .ok (.iconst 1, 1) := by decide +kernel
theorem dX9_byAll_52 : decode cX9_byAll 52 = .ok (.goto 4, 3) := by decide +kernel
theorem dX9_byAll_55 : decode cX9_byAll 55 = .ok (.iconst 0, 1) := by decide +kernel
theorem dX9_byAll_56 : decode cX9_byAll 56 = .ok (.ireturn, 1) := by decide +kernel
theorem dX9_byAll_57 : decode cX9_byAll 57 = .ok (.iload_n 1, 1) := by decide +kernel
theorem dX9_byAll_58 : decode cX9_byAll 58 = .ok (.iconst 3, 1) := by decide +kernel
theorem dX9_byAll_59 : decode cX9_byAll 59 = .ok (.if_icmp .ne 41, 3) := by decide +kernel
theorem dX9_byAll_62 : decode cX9_byAll 62 = .ok (.iload_n 3, 1) := by decide +kernel
theorem dX9_byAll_63 : decode cX9_byAll 63 = .ok (.i2l, 1) := by decide +kernel
theorem dX9_byAll_64 : decode cX9_byAll 64 = .ok (.lconst 0, 1) := by decide +kernel
theorem dX9_byAll_65 : decode cX9_byAll 65 = .ok (.ldc2_w 130, 3) := by decide +kernel
theorem dX9_byAll_68 : decode cX9_byAll 68 = .ok (.invokestatic 50, 3) := by decide +kernel
theorem dX9_byAll_71 : decode cX9_byAll 71 = .ok (.ifCond .eq 29, 3) := by decide +kernel
theorem dX9_byAll_74 : decode cX9_byAll 74 = .ok (.iload 4, 2) := by decide +kernel
theorem dX9_byAll_76 : decode cX9_byAll 76 = .ok (.i2l, 1) := by decide +kernel
theorem dX9_byAll_77 : decode cX9_byAll 77 = .ok (.lconst 0, 1) := by decide +kernel
theorem dX9_byAll_78 : decode cX9_byAll 78 = .ok (.ldc2_w 130, 3) := by decide +kernel
theorem dX9_byAll_81 : decode cX9_byAll 81 = .ok (.invokestatic 50, 3) := by decide +kernel
theorem dX9_byAll_84 : decode cX9_byAll 84 = .ok (.ifCond .eq 16, 3) := by decide +kernel
theorem dX9_byAll_87 : decode cX9_byAll 87 = .ok (.iload 5, 2) := by decide +kernel
theorem dX9_byAll_89 : decode cX9_byAll 89 = .ok (.i2l, 1) := by decide +kernel
theorem dX9_byAll_90 : decode cX9_byAll 90 = .ok (.lconst 0, 1) := by decide +kernel
theorem dX9_byAll_91 : decode cX9_byAll 91 = .ok (.ldc2_w 130, 3) := by decide +kernel
theorem dX9_byAll_94 : decode cX9_byAll 94 = .ok (.invokestatic 50, 3) := by decide +kernel
theorem dX9_byAll_97 : decode cX9_byAll 97 = .ok (.ifCond .ne 8, 3) := by decide +kernel
theorem dX9_byAll_100 : decode cX9_byAll 100 = .ok (.bipush (-2), 2) := by decide +kernel
theorem dX9_byAll_102 : decode cX9_byAll 102 = .ok (.goto 21, 3) := by decide +kernel
theorem dX9_byAll_105 : decode cX9_byAll 105 = .ok (.aload_n 0, 1) := by decide +kernel
theorem dX9_byAll_106 : decode cX9_byAll 106 = .ok (.iload_n 2, 1) := by decide +kernel
theorem dX9_byAll_107 : decode cX9_byAll 107 = .ok (.iload_n 3, 1) := by decide +kernel
theorem dX9_byAll_108 : decode cX9_byAll 108 = .ok (.iload 4, 2) := by decide +kernel
theorem dX9_byAll_110 : decode cX9_byAll 110 = .ok (.iload 5, 2) := by decide +kernel
theorem dX9_byAll_112 : decode cX9_byAll 112 = .ok (.invokevirtual 132, 3) := by decide +kernel
theorem dX9_byAll_115 : decode cX9_byAll 115 = .ok (.ifCond .eq 7, 3) := by decide +kernel
theorem dX9_byAll_118 : decode cX9_byAll 118 = .ok (.iconst 1, 1) := by decide +kernel
theorem dX9_byAll_119 : decode cX9_byAll 119 = .ok (.goto 4, 3) := by decide +kernel
theorem dX9_byAll_122 : decode cX9_byAll 122 = .ok (.iconst 0, 1) := by decide +kernel
theorem dX9_byAll_123 : decode cX9_byAll 123 = .ok (.ireturn, 1) := by decide +kernel
set_option maxRecDepth 20000 in
theorem ggX9_lostUpTo_X9_in : GoodIn wsX9_lostUpTo wsX9_in := goodIn_r _ [6] (by decide +kernel) (by decide +kernel)
set_option maxRecDepth 20000 in
theorem gX9_lostUpTo_X9_in : GoodIn wsX9_lostUpTo (va_wsS RX9 50 yX9_in wsX9_in) := goodIn_app (goodIn_of _ (by decide +kernel)) ggX9_lostUpTo_X9_in
set_option maxRecDepth 20000 in
theorem ggX9_lostUpTo_X9_threeAt : GoodIn wsX9_lostUpTo wsX9_threeAt := goodIn_r _ [10, 11, 12, 13, 14, 15, 5, 16, 31, 32, 33, 34, 35, 36, 37, 38, 39, 40, 41, 42, 43, 44, 45, 46, 47, 48] (by decide +kernel) (by decide +kernel)
set_option maxRecDepth 20000 in
theorem gX9_lostUpTo_X9_threeAt : GoodIn wsX9_lostUpTo (wsV RX9 132 RX9 yX9_threeAt wsX9_threeAt) := goodIn_app (goodIn_of _ (by decide +kernel)) ggX9_lostUpTo_X9_threeAt
set_option maxRecDepth 20000 in
theorem ggX9_lostUpTo_X9_wonAt : GoodIn wsX9_lostUpTo wsX9_wonAt := goodIn_r _ [20, 21, 22, 23, 24, 25, 5, 26, 27, 28, 29, 30, 31, 32, 33, 34, 35, 36, 37, 38, 39, 40, 41, 42, 43, 44, 45, 46, 47, 48] (by decide +kernel) (by decide +kernel)
set_option maxRecDepth 20000 in
theorem gX9_lostUpTo_X9_wonAt : GoodIn wsX9_lostUpTo (wsV RX9 127 RX9 yX9_wonAt wsX9_wonAt) := goodIn_app (goodIn_of _ (by decide +kernel)) ggX9_lostUpTo_X9_wonAt
theorem dX9_lostUpTo_0 : decode cX9_lostUpTo 0 = .ok (.iload_n 1, 1) := by decide +kernel
theorem dX9_lostUpTo_1 : decode cX9_lostUpTo 1 = .ok (.ifCond .eq 13, 3) := by decide +kernel
theorem dX9_lostUpTo_4 : decode cX9_lostUpTo 4 = .ok (.iload_n 1, 1) := by decide +kernel
theorem dX9_lostUpTo_5 : decode cX9_lostUpTo 5 = .ok (.iconst 1, 1) := by decide +kernel
theorem dX9_lostUpTo_6 : decode cX9_lostUpTo 6 = .ok (.if_icmp .eq 8, 3) := by decide +kernel
theorem dX9_lostUpTo_9 : decode cX9_lostUpTo 9 = .ok (.iload_n 1, 1) := by decide +kernel
theorem dX9_lostUpTo_10 : decode cX9_lostUpTo 10 = .ok (.iconst 3, 1) := by decide +kernel
theorem dX9_lostUpTo_11 : decode cX9_lostUpTo 11 = .ok (.if_icmp .ne 26, 3) := by decide +kernel
theorem dX9_lostUpTo_14 : decode cX9_lostUpTo 14 = .ok (.iload_n 3, 1) := by decide +kernel
theorem dX9_lostUpTo_15 : decode cX9_lostUpTo 15 = .ok (.i2l, 1) := by decide +kernel
theorem dX9_lostUpTo_16 : decode cX9_lostUpTo 16 = .ok (.lconst 1, 1) := by decide +kernel
theorem dX9_lostUpTo_17 : decode cX9_lostUpTo 17 = .ok (.iload_n 1, 1) := by decide +kernel
theorem dX9_lostUpTo_18 : decode cX9_lostUpTo 18 = .ok (.iconst 3, 1) := by decide +kernel
theorem dX9_lostUpTo_19 : decode cX9_lostUpTo 19 = .ok (.if_icmp .ne 9, 3) := by decide +kernel
theorem dX9_lostUpTo_22 : decode cX9_lostUpTo 22 = .ok (.ldc2_w 130, 3) := by decide +kernel
theorem dX9_lostUpTo_25 : decode cX9_lostUpTo 25 = .ok (.goto 6, 3) := by decide +kernel
theorem dX9_lostUpTo_28 : decode cX9_lostUpTo 28 = .ok (.ldc2_w 125, 3) := by decide +kernel
theorem dX9_lostUpTo_31 : decode cX9_lostUpTo 31 = .ok (.invokestatic 50, 3) := by decide +kernel
theorem dX9_lostUpTo_34 : decode cX9_lostUpTo 34 = .ok (.ifCond .ne 6, 3) := by decide +kernel
theorem dX9_lostUpTo_37 : decode cX9_lostUpTo 37 = .ok (.bipush (-2), 2) := by decide +kernel
theorem dX9_lostUpTo_39 : decode cX9_lostUpTo 39 = .ok (.ireturn, 1) := by decide +kernel
theorem dX9_lostUpTo_40 : decode cX9_lostUpTo 40 = .ok (.iconst 0, 1) := by decide +kernel
theorem dX9_lostUpTo_41 : decode cX9_lostUpTo 41 = .ok (.istore 4, 2) := by decide +kernel
theorem dX9_lostUpTo_43 : decode cX9_lostUpTo 43 = .ok (.iconst 0, 1) := by decide +kernel
theorem dX9_lostUpTo_44 : decode cX9_lostUpTo 44 = .ok (.istore 5, 2) := by decide +kernel
theorem dX9_lostUpTo_46 : decode cX9_lostUpTo 46 = .ok (.iload 5, 2) := by decide +kernel
theorem dX9_lostUpTo_48 : decode cX9_lostUpTo 48 = .ok (.iload_n 3, 1) := by decide +kernel
theorem dX9_lostUpTo_49 : decode cX9_lostUpTo 49 = .ok (.if_icmp .gt 93, 3) := by decide +kernel
theorem dX9_lostUpTo_52 : decode cX9_lostUpTo 52 = .ok (.iconst 0, 1) := by decide +kernel
theorem dX9_lostUpTo_53 : decode cX9_lostUpTo 53 = .ok (.istore 6, 2) := by decide +kernel
theorem dX9_lostUpTo_55 : decode cX9_lostUpTo 55 = .ok (.iload 6, 2) := by decide +kernel
theorem dX9_lostUpTo_57 : decode cX9_lostUpTo 57 = .ok (.iload_n 3, 1) := by decide +kernel
theorem dX9_lostUpTo_58 : decode cX9_lostUpTo 58 = .ok (.if_icmp .gt 78, 3) := by decide +kernel
theorem dX9_lostUpTo_61 : decode cX9_lostUpTo 61 = .ok (.iconst 0, 1) := by decide +kernel
theorem dX9_lostUpTo_62 : decode cX9_lostUpTo 62 = .ok (.istore 7, 2) := by decide +kernel
theorem dX9_lostUpTo_64 : decode cX9_lostUpTo 64 = .ok (.iload 7, 2) := by decide +kernel
theorem dX9_lostUpTo_66 : decode cX9_lostUpTo 66 = .ok (.iload_n 1, 1) := by decide +kernel
theorem dX9_lostUpTo_67 : decode cX9_lostUpTo 67 = .ok (.iconst 3, 1) := by decide +kernel
theorem dX9_lostUpTo_68 : decode cX9_lostUpTo 68 = .ok (.if_icmp .ne 7, 3) := by decide +kernel
theorem dX9_lostUpTo_71 : decode cX9_lostUpTo 71 = .ok (.iload_n 3, 1) := by decide +kernel
theorem dX9_lostUpTo_72 : decode cX9_lostUpTo 72 = .ok (.goto 4, 3) := by decide +kernel
theorem dX9_lostUpTo_75 : decode cX9_lostUpTo 75 = .ok (.iconst 0, 1) := by decide +kernel
theorem dX9_lostUpTo_76 : decode cX9_lostUpTo 76 = .ok (.if_icmp .gt 54, 3) := by decide +kernel
theorem dX9_lostUpTo_79 : decode cX9_lostUpTo 79 = .ok (.iload 4, 2) := by decide +kernel
theorem dX9_lostUpTo_81 : decode cX9_lostUpTo 81 = .ok (.iload_n 1, 1) := by decide +kernel
theorem dX9_lostUpTo_82 : decode cX9_lostUpTo 82 = .ok (.iconst 3, 1) := by decide +kernel
theorem dX9_lostUpTo_83 : decode cX9_lostUpTo 83 = .ok (.if_icmp .ne 20, 3) := by decide +kernel
theorem dX9_lostUpTo_86 : decode cX9_lostUpTo 86 = .ok (.aload_n 0, 1) := by decide +kernel
theorem dX9_lostUpTo_87 : decode cX9_lostUpTo 87 = .ok (.iload_n 2, 1) := by decide +kernel
theorem dX9_lostUpTo_88 : decode cX9_lostUpTo 88 = .ok (.iload 5, 2) := by decide +kernel
theorem dX9_lostUpTo_90 : decode cX9_lostUpTo 90 = .ok (.iload 6, 2) := by decide +kernel
theorem dX9_lostUpTo_92 : decode cX9_lostUpTo 92 = .ok (.iload 7, 2) := by decide +kernel
theorem dX9_lostUpTo_94 : decode cX9_lostUpTo 94 = .ok (.invokevirtual 132, 3) := by decide +kernel
theorem dX9_lostUpTo_97 : decode cX9_lostUpTo 97 = .ok (.ifCond .eq 23, 3) := by decide +kernel
theorem dX9_lostUpTo_100 : decode cX9_lostUpTo 100 = .ok (.goto 16, 3) := by decide +kernel
theorem dX9_lostUpTo_103 : decode cX9_lostUpTo 103 = .ok (.aload_n 0, 1) := by decide +kernel
theorem dX9_lostUpTo_104 : decode cX9_lostUpTo 104 = .ok (.iload_n 1, 1) := by decide +kernel
theorem dX9_lostUpTo_105 : decode cX9_lostUpTo 105 = .ok (.iload_n 2, 1) := by decide +kernel
theorem dX9_lostUpTo_106 : decode cX9_lostUpTo 106 = .ok (.iload 5, 2) := by decide +kernel
theorem dX9_lostUpTo_108 : decode cX9_lostUpTo 108 = .ok (.iload 6, 2) := by decide +kernel
theorem dX9_lostUpTo_110 : decode cX9_lostUpTo 110 = .ok (.invokevirtual 127, 3) := by decide +kernel
theorem dX9_lostUpTo_113 : decode cX9_lostUpTo 113 = .ok (.ifCond .eq 7, 3) := by decide +kernel
theorem dX9_lostUpTo_116 : decode cX9_lostUpTo 116 = .ok (.iconst 0, 1) := by decide +kernel
theorem dX9_lostUpTo_117 : decode cX9_lostUpTo 117 = .ok (.goto 4, 3) := by decide +kernel
theorem dX9_lostUpTo_120 : decode cX9_lostUpTo 120 = .ok (.iconst 1, 1) := by decide +kernel
theorem dX9_lostUpTo_121 : decode cX9_lostUpTo 121 = .ok (.iadd, 1) := by decide +kernel
theorem dX9_lostUpTo_122 : decode cX9_lostUpTo 122 = .ok (.istore 4, 2) := by decide +kernel
theorem dX9_lostUpTo_124 : decode cX9_lostUpTo 124 = .ok (.iinc 7 1, 3) := by decide +kernel
theorem dX9_lostUpTo_127 : decode cX9_lostUpTo 127 = .ok (.goto (-63), 3) := by decide +kernel
theorem dX9_lostUpTo_130 : decode cX9_lostUpTo 130 = .ok (.iinc 6 1, 3) := by decide +kernel
theorem dX9_lostUpTo_133 : decode cX9_lostUpTo 133 = .ok (.goto (-78), 3) := by decide +kernel
theorem dX9_lostUpTo_136 : decode cX9_lostUpTo 136 = .ok (.iinc 5 1, 3) := by decide +kernel
theorem dX9_lostUpTo_139 : decode cX9_lostUpTo 139 = .ok (.goto (-93), 3) := by decide +kernel
theorem dX9_lostUpTo_142 : decode cX9_lostUpTo 142 = .ok (.iload 4, 2) := by decide +kernel
theorem dX9_lostUpTo_144 : decode cX9_lostUpTo 144 = .ok (.ireturn, 1) := by decide +kernel
set_option maxRecDepth 20000 in
theorem ggX9_timesByAll_X9_isBy : GoodIn wsX9_timesByAll wsX9_isBy := goodIn_r _ [6, 7, 8, 9, 5, 10] (by decide +kernel) (by decide +kernel)
set_option maxRecDepth 20000 in
theorem gX9_timesByAll_X9_isBy : GoodIn wsX9_timesByAll (va_wsS RX9 95 yX9_isBy wsX9_isBy) := goodIn_app (goodIn_of _ (by decide +kernel)) ggX9_timesByAll_X9_isBy
set_option maxRecDepth 20000 in
theorem ggX9_timesByAll_X9_in : GoodIn wsX9_timesByAll wsX9_in := goodIn_r _ [10] (by decide +kernel) (by decide +kernel)
set_option maxRecDepth 20000 in
theorem gX9_timesByAll_X9_in : GoodIn wsX9_timesByAll (va_wsS RX9 50 yX9_in wsX9_in) := goodIn_app (goodIn_of _ (by decide +kernel)) ggX9_timesByAll_X9_in
theorem dX9_timesByAll_0 : decode cX9_timesByAll 0 = .ok (.iload_n 1, 1) := by decide +kernel
theorem dX9_timesByAll_1 : decode cX9_timesByAll 1 = .ok (.invokestatic 95, 3) := by decide +kernel
theorem dX9_timesByAll_4 : decode cX9_timesByAll 4 = .ok (.ifCond .eq 27, 3) := by decide +kernel
theorem dX9_timesByAll_7 : decode cX9_timesByAll 7 = .ok (.iload_n 2, 1) := by decide +kernel
theorem dX9_timesByAll_8 : decode cX9_timesByAll 8 = .ok (.i2l, 1) := by decide +kernel
theorem dX9_timesByAll_9 : decode cX9_timesByAll 9 = .ok (.lconst 0, 1) := by decide +kernel
theorem dX9_timesByAll_10 : decode cX9_timesByAll 10 = .ok (.ldc2_w 125, 3) := by decide +kernel
theorem dX9_timesByAll_13 : decode cX9_timesByAll 13 = .ok (.invokestatic 50, 3) := by decide +kernel
theorem dX9_timesByAll_16 : decode cX9_timesByAll 16 = .ok (.ifCond .eq 15, 3) := by decide +kernel
theorem dX9_timesByAll_19 : decode cX9_timesByAll 19 = .ok (.iload_n 3, 1) := by decide +kernel
theorem dX9_timesByAll_20 : decode cX9_timesByAll 20 = .ok (.i2l, 1) := by decide +kernel
theorem dX9_timesByAll_21 : decode cX9_timesByAll 21 = .ok (.lconst 0, 1) := by decide +kernel
theorem dX9_timesByAll_22 : decode cX9_timesByAll 22 = .ok (.ldc2_w 125, 3) := by decide +kernel
theorem dX9_timesByAll_25 : decode cX9_timesByAll 25 = .ok (.invokestatic 50, 3) := by decide +kernel
theorem dX9_timesByAll_28 : decode cX9_timesByAll 28 = .ok (.ifCond .ne 6, 3) := by decide +kernel
theorem dX9_timesByAll_31 : decode cX9_timesByAll 31 = .ok (.bipush (-2), 2) := by decide +kernel
theorem dX9_timesByAll_33 : decode cX9_timesByAll 33 = .ok (.ireturn, 1) := by decide +kernel
theorem dX9_timesByAll_34 : decode cX9_timesByAll 34 = .ok (.iconst 0, 1) := by decide +kernel
theorem dX9_timesByAll_35 : decode cX9_timesByAll 35 = .ok (.istore 4, 2) := by decide +kernel
theorem dX9_timesByAll_37 : decode cX9_timesByAll 37 = .ok (.iload 4, 2) := by decide +kernel
theorem dX9_timesByAll_39 : decode cX9_timesByAll 39 = .ok (.iload_n 2, 1) := by decide +kernel
theorem dX9_timesByAll_40 : decode cX9_timesByAll 40 = .ok (.if_icmp .gt 117, 3) := by decide +kernel
theorem dX9_timesByAll_43 : decode cX9_timesByAll 43 = .ok (.iconst 0, 1) := by decide +kernel
theorem dX9_timesByAll_44 : decode cX9_timesByAll 44 = .ok (.istore 5, 2) := by decide +kernel
theorem dX9_timesByAll_46 : decode cX9_timesByAll 46 = .ok (.iload 5, 2) := by decide +kernel
theorem dX9_timesByAll_48 : decode cX9_timesByAll 48 = .ok (.bipush 60, 2) := by decide +kernel
theorem dX9_timesByAll_50 : decode cX9_timesByAll 50 = .ok (.if_icmp .gt 101, 3) := by decide +kernel
theorem dX9_timesByAll_53 : decode cX9_timesByAll 53 = .ok (.iconst 0, 1) := by decide +kernel
theorem dX9_timesByAll_54 : decode cX9_timesByAll 54 = .ok (.istore 6, 2) := by decide +kernel
theorem dX9_timesByAll_56 : decode cX9_timesByAll 56 = .ok (.iconst 1, 1) := by decide +kernel
theorem dX9_timesByAll_57 : decode cX9_timesByAll 57 = .ok (.istore 7, 2) := by decide +kernel
theorem dX9_timesByAll_59 : decode cX9_timesByAll 59 = .ok (.iload 7, 2) := by decide +kernel
theorem dX9_timesByAll_61 : decode cX9_timesByAll 61 = .ok (.iload 5, 2) := by decide +kernel
theorem dX9_timesByAll_63 : decode cX9_timesByAll 63 = .ok (.if_icmp .gt 67, 3) := by decide +kernel
theorem dX9_timesByAll_66 : decode cX9_timesByAll 66 = .ok (.iload 7, 2) := by decide +kernel
theorem dX9_timesByAll_68 : decode cX9_timesByAll 68 = .ok (.iload 4, 2) := by decide +kernel
theorem dX9_timesByAll_70 : decode cX9_timesByAll 70 = .ok (.if_icmp .gt 60, 3) := by decide +kernel
theorem dX9_timesByAll_73 : decode cX9_timesByAll 73 = .ok (.iload_n 1, 1) := by decide +kernel
theorem dX9_timesByAll_74 : decode cX9_timesByAll 74 = .ok (.iload 7, 2) := by decide +kernel
theorem dX9_timesByAll_76 : decode cX9_timesByAll 76 = .ok (.imul, 1) := by decide +kernel
theorem dX9_timesByAll_77 : decode cX9_timesByAll 77 = .ok (.bipush 60, 2) := by decide +kernel
theorem dX9_timesByAll_79 : decode cX9_timesByAll 79 = .ok (.if_icmp .ge 10, 3) := by decide +kernel
theorem dX9_timesByAll_82 : decode cX9_timesByAll 82 = .ok (.iload_n 1, 1) := by decide +kernel
theorem dX9_timesByAll_83 : decode cX9_timesByAll 83 = .ok (.iload 7, 2) := by decide +kernel
theorem dX9_timesByAll_85 : decode cX9_timesByAll 85 = .ok (.imul, 1) := by decide +kernel
theorem dX9_timesByAll_86 : decode cX9_timesByAll 86 = .ok (.goto 5, 3) := by decide +kernel
theorem dX9_timesByAll_89 : decode cX9_timesByAll 89 = .ok (.bipush 60, 2) := by decide +kernel
theorem dX9_timesByAll_91 : decode cX9_timesByAll 91 = .ok (.istore 8, 2) := by decide +kernel
theorem dX9_timesByAll_93 : decode cX9_timesByAll 93 = .ok (.iload 6, 2) := by decide +kernel
theorem dX9_timesByAll_95 : decode cX9_timesByAll 95 = .ok (.ifCond .ne 22, 3) := by decide +kernel
theorem dX9_timesByAll_98 : decode cX9_timesByAll 98 = .ok (.aload_n 0, 1) := by decide +kernel
theorem dX9_timesByAll_99 : decode cX9_timesByAll 99 = .ok (.getfield 29, 3) := by decide +kernel
theorem dX9_timesByAll_102 : decode cX9_timesByAll 102 = .ok (.bipush 61, 2) := by decide +kernel
theorem dX9_timesByAll_104 : decode cX9_timesByAll 104 = .ok (.iload 4, 2) := by decide +kernel
theorem dX9_timesByAll_106 : decode cX9_timesByAll 106 = .ok (.iload 7, 2) := by decide +kernel
theorem dX9_timesByAll_108 : decode cX9_timesByAll 108 = .ok (.isub, 1) := by decide +kernel
theorem dX9_timesByAll_109 : decode cX9_timesByAll 109 = .ok (.imul, 1) := by decide +kernel
theorem dX9_timesByAll_110 : decode cX9_timesByAll 110 = .ok (.iload 8, 2) := by decide +kernel
theorem dX9_timesByAll_112 : decode cX9_timesByAll 112 = .ok (.iadd, 1) := by decide +kernel
theorem dX9_timesByAll_113 : decode cX9_timesByAll 113 = .ok (.baload, 1) := by decide +kernel
theorem dX9_timesByAll_114 : decode cX9_timesByAll 114 = .ok (.ifCond .ne 7, 3) := by decide +kernel
theorem dX9_timesByAll_117 : decode cX9_timesByAll 117 = .ok (.iconst 1, 1) := by decide +kernel
theorem dX9_timesByAll_118 : decode cX9_timesByAll 118 = .ok (.goto 4, 3) := by decide +kernel
theorem dX9_timesByAll_121 : decode cX9_timesByAll 121 = .ok (.iconst 0, 1) := by decide +kernel
theorem dX9_timesByAll_122 : decode cX9_timesByAll 122 = .ok (.istore 6, 2) := by decide +kernel
theorem dX9_timesByAll_124 : decode cX9_timesByAll 124 = .ok (.iinc 7 1, 3) := by decide +kernel
theorem dX9_timesByAll_127 : decode cX9_timesByAll 127 = .ok (.goto (-68), 3) := by decide +kernel
theorem dX9_timesByAll_130 : decode cX9_timesByAll 130 = .ok (.aload_n 0, 1) := by decide +kernel
theorem dX9_timesByAll_131 : decode cX9_timesByAll 131 = .ok (.getfield 29, 3) := by decide +kernel
theorem dX9_timesByAll_134 : decode cX9_timesByAll 134 = .ok (.bipush 61, 2) := by decide +kernel
theorem dX9_timesByAll_136 : decode cX9_timesByAll 136 = .ok (.iload 4, 2) := by decide +kernel
theorem dX9_timesByAll_138 : decode cX9_timesByAll 138 = .ok (.imul, 1) := by decide +kernel
theorem dX9_timesByAll_139 : decode cX9_timesByAll 139 = .ok (.iload 5, 2) := by decide +kernel
theorem dX9_timesByAll_141 : decode cX9_timesByAll 141 = .ok (.iadd, 1) := by decide +kernel
theorem dX9_timesByAll_142 : decode cX9_timesByAll 142 = .ok (.iload 6, 2) := by decide +kernel
theorem dX9_timesByAll_144 : decode cX9_timesByAll 144 = .ok (.bastore, 1) := by decide +kernel
theorem dX9_timesByAll_145 : decode cX9_timesByAll 145 = .ok (.iinc 5 1, 3) := by decide +kernel
theorem dX9_timesByAll_148 : decode cX9_timesByAll 148 = .ok (.goto (-102), 3) := by decide +kernel
theorem dX9_timesByAll_151 : decode cX9_timesByAll 151 = .ok (.iinc 4 1, 3) := by decide +kernel
theorem dX9_timesByAll_154 : decode cX9_timesByAll 154 = .ok (.goto (-117), 3) := by decide +kernel
theorem dX9_timesByAll_157 : decode cX9_timesByAll 157 = .ok (.aload_n 0, 1) := by decide +kernel
theorem dX9_timesByAll_158 : decode cX9_timesByAll 158 = .ok (.getfield 29, 3) := by decide +kernel
theorem dX9_timesByAll_161 : decode cX9_timesByAll 161 = .ok (.bipush 61, 2) := by decide +kernel
theorem dX9_timesByAll_163 : decode cX9_timesByAll 163 = .ok (.iload_n 2, 1) := by decide +kernel
theorem dX9_timesByAll_164 : decode cX9_timesByAll 164 = .ok (.imul, 1) := by decide +kernel
theorem dX9_timesByAll_165 : decode cX9_timesByAll 165 = .ok (.iload_n 3, 1) := by decide +kernel
theorem dX9_timesByAll_166 : decode cX9_timesByAll 166 = .ok (.iadd, 1) := by decide +kernel
theorem dX9_timesByAll_167 : decode cX9_timesByAll 167 = .ok (.baload, 1) := by decide +kernel
theorem dX9_timesByAll_168 : decode cX9_timesByAll 168 = .ok (.ifCond .eq 7, 3) := by decide +kernel
theorem dX9_timesByAll_171 : decode cX9_timesByAll 171 = .ok (.iconst 1, 1) := by decide +kernel
theorem dX9_timesByAll_172 : decode cX9_timesByAll 172 = .ok (.goto 4, 3) := by decide +kernel
theorem dX9_timesByAll_175 : decode cX9_timesByAll 175 = .ok (.iconst 0, 1) := by decide +kernel
theorem dX9_timesByAll_176 : decode cX9_timesByAll 176 = .ok (.ireturn, 1) := by decide +kernel
set_option maxRecDepth 20000 in
theorem ggX9_board_X9_in : GoodIn wsX9_board wsX9_in := goodIn_r _ [16] (by decide +kernel) (by decide +kernel)
set_option maxRecDepth 20000 in
theorem gX9_board_X9_in : GoodIn wsX9_board (va_wsS RX9 50 yX9_in wsX9_in) := goodIn_app (goodIn_of _ (by decide +kernel)) ggX9_board_X9_in
theorem dX9_board_0 : decode cX9_board 0 = .ok (.iload_n 1, 1) := by decide +kernel
theorem dX9_board_1 : decode cX9_board 1 = .ok (.iconst 3, 1) := by decide +kernel
theorem dX9_board_2 : decode cX9_board 2 = .ok (.if_icmp .ne 9, 3) := by decide +kernel
theorem dX9_board_5 : decode cX9_board 5 = .ok (.ldc2_w 130, 3) := by decide +kernel
theorem dX9_board_8 : decode cX9_board 8 = .ok (.goto 16, 3) := by decide +kernel
theorem dX9_board_11 : decode cX9_board 11 = .ok (.iload_n 2, 1) := by decide +kernel
theorem dX9_board_12 : decode cX9_board 12 = .ok (.ifCond .eq 9, 3) := by decide +kernel
theorem dX9_board_15 : decode cX9_board 15 = .ok (.ldc2_w 125, 3) := by decide +kernel
theorem dX9_board_18 : decode cX9_board 18 = .ok (.goto 6, 3) := by decide +kernel
theorem dX9_board_21 : decode cX9_board 21 = .ok (.ldc2_w 48, 3) := by decide +kernel
theorem dX9_board_24 : decode cX9_board 24 = .ok (.lstore 9, 2) := by decide +kernel
theorem dX9_board_26 : decode cX9_board 26 = .ok (.iload_n 1, 1) := by decide +kernel
theorem dX9_board_27 : decode cX9_board 27 = .ok (.i2l, 1) := by decide +kernel
theorem dX9_board_28 : decode cX9_board 28 = .ok (.lconst 0, 1) := by decide +kernel
theorem dX9_board_29 : decode cX9_board 29 = .ok (.ldc2_w 136, 3) := by decide +kernel
theorem dX9_board_32 : decode cX9_board 32 = .ok (.invokestatic 50, 3) := by decide +kernel
theorem dX9_board_35 : decode cX9_board 35 = .ok (.ifCond .eq 68, 3) := by decide +kernel
theorem dX9_board_38 : decode cX9_board 38 = .ok (.lload_n 3, 1) := by decide +kernel
theorem dX9_board_39 : decode cX9_board 39 = .ok (.lconst 0, 1) := by decide +kernel
theorem dX9_board_40 : decode cX9_board 40 = .ok (.lload 9, 2) := by decide +kernel
theorem dX9_board_42 : decode cX9_board 42 = .ok (.invokestatic 50, 3) := by decide +kernel
theorem dX9_board_45 : decode cX9_board 45 = .ok (.ifCond .eq 58, 3) := by decide +kernel
theorem dX9_board_48 : decode cX9_board 48 = .ok (.iload_n 1, 1) := by decide +kernel
theorem dX9_board_49 : decode cX9_board 49 = .ok (.iconst 2, 1) := by decide +kernel
theorem dX9_board_50 : decode cX9_board 50 = .ok (.if_icmp .ne 22, 3) := by decide +kernel
theorem dX9_board_53 : decode cX9_board 53 = .ok (.lload 5, 2) := by decide +kernel
theorem dX9_board_55 : decode cX9_board 55 = .ok (.lconst 1, 1) := by decide +kernel
theorem dX9_board_56 : decode cX9_board 56 = .ok (.ldc2_w 93, 3) := by decide +kernel
theorem dX9_board_59 : decode cX9_board 59 = .ok (.invokestatic 50, 3) := by decide +kernel
theorem dX9_board_62 : decode cX9_board 62 = .ok (.ifCond .eq 41, 3) := by decide +kernel
theorem dX9_board_65 : decode cX9_board 65 = .ok (.iload_n 2, 1) := by decide +kernel
theorem dX9_board_66 : decode cX9_board 66 = .ok (.ifCond .ne 37, 3) := by decide +kernel
theorem dX9_board_69 : decode cX9_board 69 = .ok (.goto 14, 3) := by decide +kernel
theorem dX9_board_72 : decode cX9_board 72 = .ok (.lload 5, 2) := by decide +kernel
theorem dX9_board_74 : decode cX9_board 74 = .ok (.lconst 0, 1) := by decide +kernel
theorem dX9_board_75 : decode cX9_board 75 = .ok (.lload 9, 2) := by decide +kernel
theorem dX9_board_77 : decode cX9_board 77 = .ok (.invokestatic 50, 3) := by decide +kernel
theorem dX9_board_80 : decode cX9_board 80 = .ok (.ifCond .eq 23, 3) := by decide +kernel
theorem dX9_board_83 : decode cX9_board 83 = .ok (.iload_n 1, 1) := by decide +kernel
theorem dX9_board_84 : decode cX9_board 84 = .ok (.iconst 3, 1) := by decide +kernel
theorem dX9_board_85 : decode cX9_board 85 = .ok (.if_icmp .ne 14, 3) := by decide +kernel
theorem dX9_board_88 : decode cX9_board 88 = .ok (.lload 7, 2) := by decide +kernel
theorem dX9_board_90 : decode cX9_board 90 = .ok (.lconst 0, 1) := by decide +kernel
theorem dX9_board_91 : decode cX9_board 91 = .ok (.lload 9, 2) := by decide +kernel
theorem dX9_board_93 : decode cX9_board 93 = .ok (.invokestatic 50, 3) := by decide +kernel
theorem dX9_board_96 : decode cX9_board 96 = .ok (.ifCond .eq 7, 3) := by decide +kernel
theorem dX9_board_99 : decode cX9_board 99 = .ok (.iconst 1, 1) := by decide +kernel
theorem dX9_board_100 : decode cX9_board 100 = .ok (.goto 4, 3) := by decide +kernel
theorem dX9_board_103 : decode cX9_board 103 = .ok (.iconst 0, 1) := by decide +kernel
theorem dX9_board_104 : decode cX9_board 104 = .ok (.istore 11, 2) := by decide +kernel
theorem dX9_board_106 : decode cX9_board 106 = .ok (.iload 11, 2) := by decide +kernel
theorem dX9_board_108 : decode cX9_board 108 = .ok (.ifCond .ne 6, 3) := by decide +kernel
theorem dX9_board_111 : decode cX9_board 111 = .ok (.bipush (-2), 2) := by decide +kernel
theorem dX9_board_113 : decode cX9_board 113 = .ok (.ireturn, 1) := by decide +kernel
theorem dX9_board_114 : decode cX9_board 114 = .ok (.aload_n 0, 1) := by decide +kernel
theorem dX9_board_115 : decode cX9_board 115 = .ok (.iload_n 1, 1) := by decide +kernel
theorem dX9_board_116 : decode cX9_board 116 = .ok (.putfield 32, 3) := by decide +kernel
theorem dX9_board_119 : decode cX9_board 119 = .ok (.aload_n 0, 1) := by decide +kernel
theorem dX9_board_120 : decode cX9_board 120 = .ok (.iload_n 2, 1) := by decide +kernel
theorem dX9_board_121 : decode cX9_board 121 = .ok (.putfield 138, 3) := by decide +kernel
theorem dX9_board_124 : decode cX9_board 124 = .ok (.aload_n 0, 1) := by decide +kernel
theorem dX9_board_125 : decode cX9_board 125 = .ok (.iload_n 1, 1) := by decide +kernel
theorem dX9_board_126 : decode cX9_board 126 = .ok (.iconst 2, 1) := by decide +kernel
theorem dX9_board_127 : decode cX9_board 127 = .ok (.if_icmp .ne 9, 3) := by decide +kernel
theorem dX9_board_130 : decode cX9_board 130 = .ok (.lload 5, 2) := by decide +kernel
theorem dX9_board_132 : decode cX9_board 132 = .ok (.l2i, 1) := by decide +kernel
theorem dX9_board_133 : decode cX9_board 133 = .ok (.goto 4, 3) := by decide +kernel
theorem dX9_board_136 : decode cX9_board 136 = .ok (.iconst 0, 1) := by decide +kernel
theorem dX9_board_137 : decode cX9_board 137 = .ok (.putfield 141, 3) := by decide +kernel
theorem dX9_board_140 : decode cX9_board 140 = .ok (.aload_n 0, 1) := by decide +kernel
theorem dX9_board_141 : decode cX9_board 141 = .ok (.iconst 0, 1) := by decide +kernel
theorem dX9_board_142 : decode cX9_board 142 = .ok (.putfield 144, 3) := by decide +kernel
theorem dX9_board_145 : decode cX9_board 145 = .ok (.aload_n 0, 1) := by decide +kernel
theorem dX9_board_146 : decode cX9_board 146 = .ok (.getfield 36, 3) := by decide +kernel
theorem dX9_board_149 : decode cX9_board 149 = .ok (.iconst 0, 1) := by decide +kernel
theorem dX9_board_150 : decode cX9_board 150 = .ok (.lload_n 3, 1) := by decide +kernel
theorem dX9_board_151 : decode cX9_board 151 = .ok (.lastore, 1) := by decide +kernel
theorem dX9_board_152 : decode cX9_board 152 = .ok (.aload_n 0, 1) := by decide +kernel
theorem dX9_board_153 : decode cX9_board 153 = .ok (.getfield 36, 3) := by decide +kernel
theorem dX9_board_156 : decode cX9_board 156 = .ok (.iconst 1, 1) := by decide +kernel
theorem dX9_board_157 : decode cX9_board 157 = .ok (.iload_n 1, 1) := by decide +kernel
theorem dX9_board_158 : decode cX9_board 158 = .ok (.iconst 2, 1) := by decide +kernel
theorem dX9_board_159 : decode cX9_board 159 = .ok (.if_icmp .ne 7, 3) := by decide +kernel
theorem dX9_board_162 : decode cX9_board 162 = .ok (.lconst 0, 1) := by decide +kernel
theorem dX9_board_163 : decode cX9_board 163 = .ok (.goto 5, 3) := by decide +kernel
theorem dX9_board_166 : decode cX9_board 166 = .ok (.lload 5, 2) := by decide +kernel
theorem dX9_board_168 : decode cX9_board 168 = .ok (.lastore, 1) := by decide +kernel
theorem dX9_board_169 : decode cX9_board 169 = .ok (.aload_n 0, 1) := by decide +kernel
theorem dX9_board_170 : decode cX9_board 170 = .ok (.getfield 36, 3) := by decide +kernel
theorem dX9_board_173 : decode cX9_board 173 = .ok (.iconst 2, 1) := by decide +kernel
theorem dX9_board_174 : decode cX9_board 174 = .ok (.iload_n 1, 1) := by decide +kernel
theorem dX9_board_175 : decode cX9_board 175 = .ok (.iconst 3, 1) := by decide +kernel
theorem dX9_board_176 : decode cX9_board 176 = .ok (.if_icmp .ne 8, 3) := by decide +kernel
theorem dX9_board_179 : decode cX9_board 179 = .ok (.lload 7, 2) := by decide +kernel
theorem dX9_board_181 : decode cX9_board 181 = .ok (.goto 4, 3) := by decide +kernel
theorem dX9_board_184 : decode cX9_board 184 = .ok (.lconst 0, 1) := by decide +kernel
theorem dX9_board_185 : decode cX9_board 185 = .ok (.lastore, 1) := by decide +kernel
theorem dX9_board_186 : decode cX9_board 186 = .ok (.aload_n 0, 1) := by decide +kernel
theorem dX9_board_187 : decode cX9_board 187 = .ok (.getfield 39, 3) := by decide +kernel
theorem dX9_board_190 : decode cX9_board 190 = .ok (.iconst 0, 1) := by decide +kernel
theorem dX9_board_191 : decode cX9_board 191 = .ok (.iload_n 1, 1) := by decide +kernel
theorem dX9_board_192 : decode cX9_board 192 = .ok (.iconst 2, 1) := by decide +kernel
theorem dX9_board_193 : decode cX9_board 193 = .ok (.if_icmp .ne 15, 3) := by decide +kernel
theorem dX9_board_196 : decode cX9_board 196 = .ok (.lload_n 3, 1) := by decide +kernel
theorem dX9_board_197 : decode cX9_board 197 = .ok (.lconst 0, 1) := by decide +kernel
theorem dX9_board_198 : decode cX9_board 198 = .ok (.lcmp, 1) := by decide +kernel
theorem dX9_board_199 : decode cX9_board 199 = .ok (.ifCond .le 9, 3) := by decide +kernel
theorem dX9_board_202 : decode cX9_board 202 = .ok (.lload_n 3, 1) := by decide +kernel
theorem dX9_board_203 : decode cX9_board 203 = .ok (.lconst 1, 1) := by decide +kernel
theorem dX9_board_204 : decode cX9_board 204 = .ok (.lsub, 1) := by decide +kernel
theorem dX9_board_205 : decode cX9_board 205 = .ok (.goto 4, 3) := by decide +kernel
theorem dX9_board_208 : decode cX9_board 208 = .ok (.lconst 0, 1) := by decide +kernel
theorem dX9_board_209 : decode cX9_board 209 = .ok (.lastore, 1) := by decide +kernel
theorem dX9_board_210 : decode cX9_board 210 = .ok (.aload_n 0, 1) := by decide +kernel
theorem dX9_board_211 : decode cX9_board 211 = .ok (.getfield 42, 3) := by decide +kernel
theorem dX9_board_214 : decode cX9_board 214 = .ok (.iconst 0, 1) := by decide +kernel
theorem dX9_board_215 : decode cX9_board 215 = .ok (.iconst 0, 1) := by decide +kernel
theorem dX9_board_216 : decode cX9_board 216 = .ok (.iastore, 1) := by decide +kernel
theorem dX9_board_217 : decode cX9_board 217 = .ok (.iconst 1, 1) := by decide +kernel
theorem dX9_board_218 : decode cX9_board 218 = .ok (.ireturn, 1) := by decide +kernel
theorem dX9_heap_0 : decode cX9_heap 0 = .ok (.aload_n 0, 1) := by decide +kernel
theorem dX9_heap_1 : decode cX9_heap 1 = .ok (.getfield 36, 3) := by decide +kernel
theorem dX9_heap_4 : decode cX9_heap 4 = .ok (.iconst 3, 1) := by decide +kernel
theorem dX9_heap_5 : decode cX9_heap 5 = .ok (.aload_n 0, 1) := by decide +kernel
theorem dX9_heap_6 : decode cX9_heap 6 = .ok (.getfield 144, 3) := by decide +kernel
theorem dX9_heap_9 : decode cX9_heap 9 = .ok (.imul, 1) := by decide +kernel
theorem dX9_heap_10 : decode cX9_heap 10 = .ok (.iload_n 1, 1) := by decide +kernel
theorem dX9_heap_11 : decode cX9_heap 11 = .ok (.iadd, 1) := by decide +kernel
theorem dX9_heap_12 : decode cX9_heap 12 = .ok (.laload, 1) := by decide +kernel
theorem dX9_heap_13 : decode cX9_heap 13 = .ok (.lreturn, 1) := by decide +kernel
set_option maxRecDepth 20000 in
theorem ggX9_canMove_X9_heap : GoodIn wsX9_canMove wsX9_heap := goodIn_r _ [8, 9, 3, 10, 11, 12, 13, 14, 15, 16, 17, 18, 19, 20, 21, 22, 23, 24, 25, 26, 27] (by decide +kernel) (by decide +kernel)
set_option maxRecDepth 20000 in
theorem gX9_canMove_X9_heap : GoodIn wsX9_canMove (wsV RX9 147 RX9 yX9_heap wsX9_heap) := goodIn_app (goodIn_of _ (by decide +kernel)) ggX9_canMove_X9_heap
theorem dX9_canMove_0 : decode cX9_canMove 0 = .ok (.aload_n 0, 1) := by decide +kernel
theorem dX9_canMove_1 : decode cX9_canMove 1 = .ok (.getfield 32, 3) := by decide +kernel
theorem dX9_canMove_4 : decode cX9_canMove 4 = .ok (.ifCond .ne 29, 3) := by decide +kernel
theorem dX9_canMove_7 : decode cX9_canMove 7 = .ok (.aload_n 0, 1) := by decide +kernel
theorem dX9_canMove_8 : decode cX9_canMove 8 = .ok (.iconst 0, 1) := by decide +kernel
theorem dX9_canMove_9 : decode cX9_canMove 9 = .ok (.invokevirtual 147, 3) := by decide +kernel
theorem dX9_canMove_12 : decode cX9_canMove 12 = .ok (.lconst 0, 1) := by decide +kernel
theorem dX9_canMove_13 : decode cX9_canMove 13 = .ok (.lcmp, 1) := by decide +kernel
theorem dX9_canMove_14 : decode cX9_canMove 14 = .ok (.ifCond .le 17, 3) := by decide +kernel
theorem dX9_canMove_17 : decode cX9_canMove 17 = .ok (.aload_n 0, 1) := by decide +kernel
theorem dX9_canMove_18 : decode cX9_canMove 18 = .ok (.iconst 1, 1) := by decide +kernel
theorem dX9_canMove_19 : decode cX9_canMove 19 = .ok (.invokevirtual 147, 3) := by decide +kernel
theorem dX9_canMove_22 : decode cX9_canMove 22 = .ok (.lconst 0, 1) := by decide +kernel
theorem dX9_canMove_23 : decode cX9_canMove 23 = .ok (.lcmp, 1) := by decide +kernel
theorem dX9_canMove_24 : decode cX9_canMove 24 = .ok (.ifCond .le 7, 3) := by decide +kernel
theorem dX9_canMove_27 : decode cX9_canMove 27 = .ok (.iconst 1, 1) := by decide +kernel
theorem dX9_canMove_28 : decode cX9_canMove 28 = .ok (.goto 4, 3) := by decide +kernel
theorem dX9_canMove_31 : decode cX9_canMove 31 = .ok (.iconst 0, 1) := by decide +kernel
theorem dX9_canMove_32 : decode cX9_canMove 32 = .ok (.ireturn, 1) := by decide +kernel
theorem dX9_canMove_33 : decode cX9_canMove 33 = .ok (.aload_n 0, 1) := by decide +kernel
theorem dX9_canMove_34 : decode cX9_canMove 34 = .ok (.getfield 32, 3) := by decide +kernel
theorem dX9_canMove_37 : decode cX9_canMove 37 = .ok (.iconst 2, 1) := by decide +kernel
theorem dX9_canMove_38 : decode cX9_canMove 38 = .ok (.if_icmp .ne 35, 3) := by decide +kernel
theorem dX9_canMove_41 : decode cX9_canMove 41 = .ok (.aload_n 0, 1) := by decide +kernel
theorem dX9_canMove_42 : decode cX9_canMove 42 = .ok (.iconst 0, 1) := by decide +kernel
theorem dX9_canMove_43 : decode cX9_canMove 43 = .ok (.invokevirtual 147, 3) := by decide +kernel
theorem dX9_canMove_46 : decode cX9_canMove 46 = .ok (.lconst 0, 1) := by decide +kernel
theorem dX9_canMove_47 : decode cX9_canMove 47 = .ok (.lcmp, 1) := by decide +kernel
theorem dX9_canMove_48 : decode cX9_canMove 48 = .ok (.ifCond .le 21, 3) := by decide +kernel
theorem dX9_canMove_51 : decode cX9_canMove 51 = .ok (.aload_n 0, 1) := by decide +kernel
theorem dX9_canMove_52 : decode cX9_canMove 52 = .ok (.getfield 39, 3) := by decide +kernel
theorem dX9_canMove_55 : decode cX9_canMove 55 = .ok (.aload_n 0, 1) := by decide +kernel
theorem dX9_canMove_56 : decode cX9_canMove 56 = .ok (.getfield 144, 3) := by decide +kernel
theorem dX9_canMove_59 : decode cX9_canMove 59 = .ok (.laload, 1) := by decide +kernel
theorem dX9_canMove_60 : decode cX9_canMove 60 = .ok (.lconst 0, 1) := by decide +kernel
theorem dX9_canMove_61 : decode cX9_canMove 61 = .ok (.lcmp, 1) := by decide +kernel
theorem dX9_canMove_62 : decode cX9_canMove 62 = .ok (.ifCond .le 7, 3) := by decide +kernel
theorem dX9_canMove_65 : decode cX9_canMove 65 = .ok (.iconst 1, 1) := by decide +kernel
theorem dX9_canMove_66 : decode cX9_canMove 66 = .ok (.goto 34, 3) := by decide +kernel
theorem dX9_canMove_69 : decode cX9_canMove 69 = .ok (.iconst 0, 1) := by decide +kernel
theorem dX9_canMove_70 : decode cX9_canMove 70 = .ok (.goto 30, 3) := by decide +kernel
theorem dX9_canMove_73 : decode cX9_canMove 73 = .ok (.aload_n 0, 1) := by decide +kernel
theorem dX9_canMove_74 : decode cX9_canMove 74 = .ok (.iconst 0, 1) := by decide +kernel
theorem dX9_canMove_75 : decode cX9_canMove 75 = .ok (.invokevirtual 147, 3) := by decide +kernel
theorem dX9_canMove_78 : decode cX9_canMove 78 = .ok (.aload_n 0, 1) := by decide +kernel
theorem dX9_canMove_79 : decode cX9_canMove 79 = .ok (.iconst 1, 1) := by decide +kernel
theorem dX9_canMove_80 : decode cX9_canMove 80 = .ok (.invokevirtual 147, 3) := by decide +kernel
theorem dX9_canMove_83 : decode cX9_canMove 83 = .ok (.ladd, 1) := by decide +kernel
theorem dX9_canMove_84 : decode cX9_canMove 84 = .ok (.aload_n 0, 1) := by decide +kernel
theorem dX9_canMove_85 : decode cX9_canMove 85 = .ok (.iconst 2, 1) := by decide +kernel
theorem dX9_canMove_86 : decode cX9_canMove 86 = .ok (.invokevirtual 147, 3) := by decide +kernel
theorem dX9_canMove_89 : decode cX9_canMove 89 = .ok (.ladd, 1) := by decide +kernel
theorem dX9_canMove_90 : decode cX9_canMove 90 = .ok (.lconst 0, 1) := by decide +kernel
theorem dX9_canMove_91 : decode cX9_canMove 91 = .ok (.lcmp, 1) := by decide +kernel
theorem dX9_canMove_92 : decode cX9_canMove 92 = .ok (.ifCond .le 7, 3) := by decide +kernel
theorem dX9_canMove_95 : decode cX9_canMove 95 = .ok (.iconst 1, 1) := by decide +kernel
theorem dX9_canMove_96 : decode cX9_canMove 96 = .ok (.goto 4, 3) := by decide +kernel
theorem dX9_canMove_99 : decode cX9_canMove 99 = .ok (.iconst 0, 1) := by decide +kernel
theorem dX9_canMove_100 : decode cX9_canMove 100 = .ok (.ireturn, 1) := by decide +kernel
set_option maxRecDepth 20000 in
theorem ggX9_isWon_X9_heap : GoodIn wsX9_isWon wsX9_heap := goodIn_r _ [10, 11, 5, 65, 66, 67, 68, 69, 70, 71, 72, 73, 74, 75, 76, 77, 78, 79, 80, 81, 82] (by decide +kernel) (by decide +kernel)
set_option maxRecDepth 20000 in
theorem gX9_isWon_X9_heap : GoodIn wsX9_isWon (wsV RX9 147 RX9 yX9_heap wsX9_heap) := goodIn_app (goodIn_of _ (by decide +kernel)) ggX9_isWon_X9_heap
set_option maxRecDepth 20000 in
theorem ggX9_isWon_X9_wonAt : GoodIn wsX9_isWon wsX9_wonAt := goodIn_r _ [15, 16, 17, 18, 19, 20, 9, 21, 22, 23, 24, 25, 65, 66, 67, 68, 69, 70, 71, 72, 73, 74, 75, 76, 77, 78, 79, 80, 81, 82] (by decide +kernel) (by decide +kernel)
set_option maxRecDepth 20000 in
theorem gX9_isWon_X9_wonAt : GoodIn wsX9_isWon (wsV RX9 127 RX9 yX9_wonAt wsX9_wonAt) := goodIn_app (goodIn_of _ (by decide +kernel)) ggX9_isWon_X9_wonAt
set_option maxRecDepth 20000 in
theorem ggX9_isWon_X9_isShares : GoodIn wsX9_isWon wsX9_isShares := goodIn_r _ [28, 29] (by decide +kernel) (by decide +kernel)
set_option maxRecDepth 20000 in
theorem gX9_isWon_X9_isShares : GoodIn wsX9_isWon (va_wsS RX9 58 yX9_isShares wsX9_isShares) := goodIn_app (goodIn_of _ (by decide +kernel)) ggX9_isWon_X9_isShares
set_option maxRecDepth 20000 in
theorem ggX9_isWon_X9_isBoth : GoodIn wsX9_isWon wsX9_isBoth := goodIn_r _ [33, 34, 35, 36, 9, 37, 38, 65, 66, 67, 68, 69, 70, 71, 72, 73, 74, 75, 76, 77, 78, 79, 80, 81, 82] (by decide +kernel) (by decide +kernel)
set_option maxRecDepth 20000 in
theorem gX9_isWon_X9_isBoth : GoodIn wsX9_isWon (wsV RX9 68 RX9 yX9_isBoth wsX9_isBoth) := goodIn_app (goodIn_of _ (by decide +kernel)) ggX9_isWon_X9_isBoth
set_option maxRecDepth 20000 in
theorem ggX9_isWon_X9_isTimes : GoodIn wsX9_isWon wsX9_isTimes := goodIn_r _ [42, 43, 44, 45, 9, 46, 47, 48, 49, 50, 51, 52, 53, 54, 65, 66, 67, 68, 69, 70, 71, 72, 73, 74, 75, 76, 77, 78, 79, 80, 81, 82] (by decide +kernel) (by decide +kernel)
set_option maxRecDepth 20000 in
theorem gX9_isWon_X9_isTimes : GoodIn wsX9_isWon (wsV RX9 110 RX9 yX9_isTimes wsX9_isTimes) := goodIn_app (goodIn_of _ (by decide +kernel)) ggX9_isWon_X9_isTimes
set_option maxRecDepth 20000 in
theorem ggX9_isWon_X9_threeAt : GoodIn wsX9_isWon wsX9_threeAt := goodIn_r _ [58, 59, 60, 61, 62, 63, 9, 64, 65, 66, 67, 68, 69, 70, 71, 72, 73, 74, 75, 76, 77, 78, 79, 80, 81, 82] (by decide +kernel) (by decide +kernel)
set_option maxRecDepth 20000 in
theorem gX9_isWon_X9_threeAt : GoodIn wsX9_isWon (wsV RX9 132 RX9 yX9_threeAt wsX9_threeAt) := goodIn_app (goodIn_of _ (by decide +kernel)) ggX9_isWon_X9_threeAt
theorem dX9_isWon_0 : decode cX9_isWon 0 = .ok (.aload_n 0, 1) := by decide +kernel
theorem dX9_isWon_1 : decode cX9_isWon 1 = .ok (.getfield 32, 3) := by decide +kernel
theorem dX9_isWon_4 : decode cX9_isWon 4 = .ok (.tableswitch 136 0 2 #[28, 70, 113], 28) := by decide +kernel
theorem dX9_isWon_32 : decode cX9_isWon 32 = .ok (.aload_n 0, 1) := by decide +kernel
theorem dX9_isWon_33 : decode cX9_isWon 33 = .ok (.getfield 138, 3) := by decide +kernel
theorem dX9_isWon_36 : decode cX9_isWon 36 = .ok (.ifCond .eq 24, 3) := by decide +kernel
theorem dX9_isWon_39 : decode cX9_isWon 39 = .ok (.aload_n 0, 1) := by decide +kernel
theorem dX9_isWon_40 : decode cX9_isWon 40 = .ok (.iconst 0, 1) := by decide +kernel
theorem dX9_isWon_41 : decode cX9_isWon 41 = .ok (.iconst 1, 1) := by decide +kernel
theorem dX9_isWon_42 : decode cX9_isWon 42 = .ok (.aload_n 0, 1) := by decide +kernel
theorem dX9_isWon_43 : decode cX9_isWon 43 = .ok (.iconst 0, 1) := by decide +kernel
theorem dX9_isWon_44 : decode cX9_isWon 44 = .ok (.invokevirtual 147, 3) := by decide +kernel
theorem dX9_isWon_47 : decode cX9_isWon 47 = .ok (.l2i, 1) := by decide +kernel
theorem dX9_isWon_48 : decode cX9_isWon 48 = .ok (.aload_n 0, 1) := by decide +kernel
theorem dX9_isWon_49 : decode cX9_isWon 49 = .ok (.iconst 1, 1) := by decide +kernel
theorem dX9_isWon_50 : decode cX9_isWon 50 = .ok (.invokevirtual 147, 3) := by decide +kernel
theorem dX9_isWon_53 : decode cX9_isWon 53 = .ok (.l2i, 1) := by decide +kernel
theorem dX9_isWon_54 : decode cX9_isWon 54 = .ok (.invokevirtual 127, 3) := by decide +kernel
theorem dX9_isWon_57 : decode cX9_isWon 57 = .ok (.goto 16, 3) := by decide +kernel
theorem dX9_isWon_60 : decode cX9_isWon 60 = .ok (.aload_n 0, 1) := by decide +kernel
theorem dX9_isWon_61 : decode cX9_isWon 61 = .ok (.iconst 0, 1) := by decide +kernel
theorem dX9_isWon_62 : decode cX9_isWon 62 = .ok (.invokevirtual 147, 3) := by decide +kernel
theorem dX9_isWon_65 : decode cX9_isWon 65 = .ok (.aload_n 0, 1) := by decide +kernel
theorem dX9_isWon_66 : decode cX9_isWon 66 = .ok (.iconst 1, 1) := by decide +kernel
theorem dX9_isWon_67 : decode cX9_isWon 67 = .ok (.invokevirtual 147, 3) := by decide +kernel
theorem dX9_isWon_70 : decode cX9_isWon 70 = .ok (.invokestatic 58, 3) := by decide +kernel
theorem dX9_isWon_73 : decode cX9_isWon 73 = .ok (.ireturn, 1) := by decide +kernel
theorem dX9_isWon_74 : decode cX9_isWon 74 = .ok (.aload_n 0, 1) := by decide +kernel
theorem dX9_isWon_75 : decode cX9_isWon 75 = .ok (.getfield 138, 3) := by decide +kernel
theorem dX9_isWon_78 : decode cX9_isWon 78 = .ok (.ifCond .eq 24, 3) := by decide +kernel
theorem dX9_isWon_81 : decode cX9_isWon 81 = .ok (.aload_n 0, 1) := by decide +kernel
theorem dX9_isWon_82 : decode cX9_isWon 82 = .ok (.iconst 1, 1) := by decide +kernel
theorem dX9_isWon_83 : decode cX9_isWon 83 = .ok (.iconst 1, 1) := by decide +kernel
theorem dX9_isWon_84 : decode cX9_isWon 84 = .ok (.aload_n 0, 1) := by decide +kernel
theorem dX9_isWon_85 : decode cX9_isWon 85 = .ok (.iconst 0, 1) := by decide +kernel
theorem dX9_isWon_86 : decode cX9_isWon 86 = .ok (.invokevirtual 147, 3) := by decide +kernel
theorem dX9_isWon_89 : decode cX9_isWon 89 = .ok (.l2i, 1) := by decide +kernel
theorem dX9_isWon_90 : decode cX9_isWon 90 = .ok (.aload_n 0, 1) := by decide +kernel
theorem dX9_isWon_91 : decode cX9_isWon 91 = .ok (.iconst 1, 1) := by decide +kernel
theorem dX9_isWon_92 : decode cX9_isWon 92 = .ok (.invokevirtual 147, 3) := by decide +kernel
theorem dX9_isWon_95 : decode cX9_isWon 95 = .ok (.l2i, 1) := by decide +kernel
theorem dX9_isWon_96 : decode cX9_isWon 96 = .ok (.invokevirtual 127, 3) := by decide +kernel
theorem dX9_isWon_99 : decode cX9_isWon 99 = .ok (.goto 17, 3) := by decide +kernel
theorem dX9_isWon_102 : decode cX9_isWon 102 = .ok (.aload_n 0, 1) := by decide +kernel
theorem dX9_isWon_103 : decode cX9_isWon 103 = .ok (.aload_n 0, 1) := by decide +kernel
theorem dX9_isWon_104 : decode cX9_isWon 104 = .ok (.iconst 0, 1) := by decide +kernel
theorem dX9_isWon_105 : decode cX9_isWon 105 = .ok (.invokevirtual 147, 3) := by decide +kernel
theorem dX9_isWon_108 : decode cX9_isWon 108 = .ok (.aload_n 0, 1) := by decide +kernel
theorem dX9_isWon_109 : decode cX9_isWon 109 = .ok (.iconst 1, 1) := by decide +kernel
theorem dX9_isWon_110 : decode cX9_isWon 110 = .ok (.invokevirtual 147, 3) := by decide +kernel
theorem dX9_isWon_113 : decode cX9_isWon 113 = .ok (.invokevirtual 68, 3) := by decide +kernel
theorem dX9_isWon_116 : decode cX9_isWon 116 = .ok (.ireturn, 1) := by decide +kernel
theorem dX9_isWon_117 : decode cX9_isWon 117 = .ok (.aload_n 0, 1) := by decide +kernel
theorem dX9_isWon_118 : decode cX9_isWon 118 = .ok (.aload_n 0, 1) := by decide +kernel
theorem dX9_isWon_119 : decode cX9_isWon 119 = .ok (.getfield 141, 3) := by decide +kernel
theorem dX9_isWon_122 : decode cX9_isWon 122 = .ok (.aload_n 0, 1) := by decide +kernel
theorem dX9_isWon_123 : decode cX9_isWon 123 = .ok (.iconst 0, 1) := by decide +kernel
theorem dX9_isWon_124 : decode cX9_isWon 124 = .ok (.invokevirtual 147, 3) := by decide +kernel
theorem dX9_isWon_127 : decode cX9_isWon 127 = .ok (.aload_n 0, 1) := by decide +kernel
theorem dX9_isWon_128 : decode cX9_isWon 128 = .ok (.getfield 39, 3) := by decide +kernel
theorem dX9_isWon_131 : decode cX9_isWon 131 = .ok (.aload_n 0, 1) := by decide +kernel
theorem dX9_isWon_132 : decode cX9_isWon 132 = .ok (.getfield 144, 3) := by decide +kernel
theorem dX9_isWon_135 : decode cX9_isWon 135 = .ok (.laload, 1) := by decide +kernel
theorem dX9_isWon_136 : decode cX9_isWon 136 = .ok (.invokevirtual 110, 3) := by decide +kernel
theorem dX9_isWon_139 : decode cX9_isWon 139 = .ok (.ireturn, 1) := by decide +kernel
theorem dX9_isWon_140 : decode cX9_isWon 140 = .ok (.aload_n 0, 1) := by decide +kernel
theorem dX9_isWon_141 : decode cX9_isWon 141 = .ok (.aload_n 0, 1) := by decide +kernel
theorem dX9_isWon_142 : decode cX9_isWon 142 = .ok (.getfield 138, 3) := by decide +kernel
theorem dX9_isWon_145 : decode cX9_isWon 145 = .ok (.aload_n 0, 1) := by decide +kernel
theorem dX9_isWon_146 : decode cX9_isWon 146 = .ok (.iconst 0, 1) := by decide +kernel
theorem dX9_isWon_147 : decode cX9_isWon 147 = .ok (.invokevirtual 147, 3) := by decide +kernel
theorem dX9_isWon_150 : decode cX9_isWon 150 = .ok (.l2i, 1) := by decide +kernel
theorem dX9_isWon_151 : decode cX9_isWon 151 = .ok (.aload_n 0, 1) := by decide +kernel
theorem dX9_isWon_152 : decode cX9_isWon 152 = .ok (.iconst 1, 1) := by decide +kernel
theorem dX9_isWon_153 : decode cX9_isWon 153 = .ok (.invokevirtual 147, 3) := by decide +kernel
theorem dX9_isWon_156 : decode cX9_isWon 156 = .ok (.l2i, 1) := by decide +kernel
theorem dX9_isWon_157 : decode cX9_isWon 157 = .ok (.aload_n 0, 1) := by decide +kernel
theorem dX9_isWon_158 : decode cX9_isWon 158 = .ok (.iconst 2, 1) := by decide +kernel
theorem dX9_isWon_159 : decode cX9_isWon 159 = .ok (.invokevirtual 147, 3) := by decide +kernel
theorem dX9_isWon_162 : decode cX9_isWon 162 = .ok (.l2i, 1) := by decide +kernel
theorem dX9_isWon_163 : decode cX9_isWon 163 = .ok (.invokevirtual 132, 3) := by decide +kernel
theorem dX9_isWon_166 : decode cX9_isWon 166 = .ok (.ireturn, 1) := by decide +kernel
set_option maxRecDepth 20000 in
theorem ggX9_mayMove_X9_canMove : GoodIn wsX9_mayMove wsX9_canMove := goodIn_r _ [8, 2, 3, 1, 9, 10, 11, 7, 12, 13, 14, 15, 16, 17, 18, 19, 20, 21, 22, 23, 24, 25, 26, 27, 28, 29, 30, 31] (by decide +kernel) (by decide +kernel)
set_option maxRecDepth 20000 in
theorem gX9_mayMove_X9_canMove : GoodIn wsX9_mayMove (wsV RX9 151 RX9 yX9_canMove wsX9_canMove) := goodIn_app (goodIn_of _ (by decide +kernel)) ggX9_mayMove_X9_canMove
set_option maxRecDepth 20000 in
theorem ggX9_mayMove_X9_heap : GoodIn wsX9_mayMove wsX9_heap := goodIn_r _ [12, 13, 1, 14, 15, 16, 17, 18, 19, 20, 21, 22, 23, 24, 25, 26, 27, 28, 29, 30, 31] (by decide +kernel) (by decide +kernel)
set_option maxRecDepth 20000 in
theorem gX9_mayMove_X9_heap : GoodIn wsX9_mayMove (wsV RX9 147 RX9 yX9_heap wsX9_heap) := goodIn_app (goodIn_of _ (by decide +kernel)) ggX9_mayMove_X9_heap
theorem dX9_mayMove_0 : decode cX9_mayMove 0 = .ok (.aload_n 0, 1) := by decide +kernel
theorem dX9_mayMove_1 : decode cX9_mayMove 1 = .ok (.invokevirtual 151, 3) := by decide +kernel
theorem dX9_mayMove_4 : decode cX9_mayMove 4 = .ok (.ifCond .eq 19, 3) := by decide +kernel
theorem dX9_mayMove_7 : decode cX9_mayMove 7 = .ok (.aload_n 0, 1) := by decide +kernel
theorem dX9_mayMove_8 : decode cX9_mayMove 8 = .ok (.getfield 144, 3) := by decide +kernel
theorem dX9_mayMove_11 : decode cX9_mayMove 11 = .ok (.sipush 200, 3) := by decide +kernel
theorem dX9_mayMove_14 : decode cX9_mayMove 14 = .ok (.if_icmp .eq 9, 3) := by decide +kernel
theorem dX9_mayMove_17 : decode cX9_mayMove 17 = .ok (.lload_n 2, 1) := by decide +kernel
theorem dX9_mayMove_18 : decode cX9_mayMove 18 = .ok (.lconst 1, 1) := by decide +kernel
theorem dX9_mayMove_19 : decode cX9_mayMove 19 = .ok (.lcmp, 1) := by decide +kernel
theorem dX9_mayMove_20 : decode cX9_mayMove 20 = .ok (.ifCond .ge 5, 3) := by decide +kernel
theorem dX9_mayMove_23 : decode cX9_mayMove 23 = .ok (.iconst 0, 1) := by decide +kernel
theorem dX9_mayMove_24 : decode cX9_mayMove 24 = .ok (.ireturn, 1) := by decide +kernel
theorem dX9_mayMove_25 : decode cX9_mayMove 25 = .ok (.aload_n 0, 1) := by decide +kernel
theorem dX9_mayMove_26 : decode cX9_mayMove 26 = .ok (.getfield 32, 3) := by decide +kernel
theorem dX9_mayMove_29 : decode cX9_mayMove 29 = .ok (.ifCond .ne 49, 3) := by decide +kernel
theorem dX9_mayMove_32 : decode cX9_mayMove 32 = .ok (.aload_n 0, 1) := by decide +kernel
theorem dX9_mayMove_33 : decode cX9_mayMove 33 = .ok (.iload_n 1, 1) := by decide +kernel
theorem dX9_mayMove_34 : decode cX9_mayMove 34 = .ok (.invokevirtual 147, 3) := by decide +kernel
theorem dX9_mayMove_37 : decode cX9_mayMove 37 = .ok (.aload_n 0, 1) := by decide +kernel
theorem dX9_mayMove_38 : decode cX9_mayMove 38 = .ok (.iconst 1, 1) := by decide +kernel
theorem dX9_mayMove_39 : decode cX9_mayMove 39 = .ok (.iload_n 1, 1) := by decide +kernel
theorem dX9_mayMove_40 : decode cX9_mayMove 40 = .ok (.isub, 1) := by decide +kernel
theorem dX9_mayMove_41 : decode cX9_mayMove 41 = .ok (.invokevirtual 147, 3) := by decide +kernel
theorem dX9_mayMove_44 : decode cX9_mayMove 44 = .ok (.lcmp, 1) := by decide +kernel
theorem dX9_mayMove_45 : decode cX9_mayMove 45 = .ok (.ifCond .lt 31, 3) := by decide +kernel
theorem dX9_mayMove_48 : decode cX9_mayMove 48 = .ok (.lload_n 2, 1) := by decide +kernel
theorem dX9_mayMove_49 : decode cX9_mayMove 49 = .ok (.aload_n 0, 1) := by decide +kernel
theorem dX9_mayMove_50 : decode cX9_mayMove 50 = .ok (.iload_n 1, 1) := by decide +kernel
theorem dX9_mayMove_51 : decode cX9_mayMove 51 = .ok (.invokevirtual 147, 3) := by decide +kernel
theorem dX9_mayMove_54 : decode cX9_mayMove 54 = .ok (.lcmp, 1) := by decide +kernel
theorem dX9_mayMove_55 : decode cX9_mayMove 55 = .ok (.ifCond .gt 21, 3) := by decide +kernel
theorem dX9_mayMove_58 : decode cX9_mayMove 58 = .ok (.lload_n 2, 1) := by decide +kernel
theorem dX9_mayMove_59 : decode cX9_mayMove 59 = .ok (.aload_n 0, 1) := by decide +kernel
theorem dX9_mayMove_60 : decode cX9_mayMove 60 = .ok (.iconst 1, 1) := by decide +kernel
theorem dX9_mayMove_61 : decode cX9_mayMove 61 = .ok (.iload_n 1, 1) := by decide +kernel
theorem dX9_mayMove_62 : decode cX9_mayMove 62 = .ok (.isub, 1) := by decide +kernel
theorem dX9_mayMove_63 : decode cX9_mayMove 63 = .ok (.invokevirtual 147, 3) := by decide +kernel
theorem dX9_mayMove_66 : decode cX9_mayMove 66 = .ok (.lrem, 1) := by decide +kernel
theorem dX9_mayMove_67 : decode cX9_mayMove 67 = .ok (.lconst 0, 1) := by decide +kernel
theorem dX9_mayMove_68 : decode cX9_mayMove 68 = .ok (.lcmp, 1) := by decide +kernel
theorem dX9_mayMove_69 : decode cX9_mayMove 69 = .ok (.ifCond .ne 7, 3) := by decide +kernel
theorem dX9_mayMove_72 : decode cX9_mayMove 72 = .ok (.iconst 1, 1) := by decide +kernel
theorem dX9_mayMove_73 : decode cX9_mayMove 73 = .ok (.goto 4, 3) := by decide +kernel
theorem dX9_mayMove_76 : decode cX9_mayMove 76 = .ok (.iconst 0, 1) := by decide +kernel
theorem dX9_mayMove_77 : decode cX9_mayMove 77 = .ok (.ireturn, 1) := by decide +kernel
theorem dX9_mayMove_78 : decode cX9_mayMove 78 = .ok (.aload_n 0, 1) := by decide +kernel
theorem dX9_mayMove_79 : decode cX9_mayMove 79 = .ok (.getfield 32, 3) := by decide +kernel
theorem dX9_mayMove_82 : decode cX9_mayMove 82 = .ok (.iconst 2, 1) := by decide +kernel
theorem dX9_mayMove_83 : decode cX9_mayMove 83 = .ok (.if_icmp .ne 33, 3) := by decide +kernel
theorem dX9_mayMove_86 : decode cX9_mayMove 86 = .ok (.lload_n 2, 1) := by decide +kernel
theorem dX9_mayMove_87 : decode cX9_mayMove 87 = .ok (.aload_n 0, 1) := by decide +kernel
theorem dX9_mayMove_88 : decode cX9_mayMove 88 = .ok (.iconst 0, 1) := by decide +kernel
theorem dX9_mayMove_89 : decode cX9_mayMove 89 = .ok (.invokevirtual 147, 3) := by decide +kernel
theorem dX9_mayMove_92 : decode cX9_mayMove 92 = .ok (.lcmp, 1) := by decide +kernel
theorem dX9_mayMove_93 : decode cX9_mayMove 93 = .ok (.ifCond .gt 21, 3) := by decide +kernel
theorem dX9_mayMove_96 : decode cX9_mayMove 96 = .ok (.lload_n 2, 1) := by decide +kernel
theorem dX9_mayMove_97 : decode cX9_mayMove 97 = .ok (.aload_n 0, 1) := by decide +kernel
theorem dX9_mayMove_98 : decode cX9_mayMove 98 = .ok (.getfield 39, 3) := by decide +kernel
theorem dX9_mayMove_101 : decode cX9_mayMove 101 = .ok (.aload_n 0, 1) := by decide +kernel
theorem dX9_mayMove_102 : decode cX9_mayMove 102 = .ok (.getfield 144, 3) := by decide +kernel
theorem dX9_mayMove_105 : decode cX9_mayMove 105 = .ok (.laload, 1) := by decide +kernel
theorem dX9_mayMove_106 : decode cX9_mayMove 106 = .ok (.lcmp, 1) := by decide +kernel
theorem dX9_mayMove_107 : decode cX9_mayMove 107 = .ok (.ifCond .gt 7, 3) := by decide +kernel
theorem dX9_mayMove_110 : decode cX9_mayMove 110 = .ok (.iconst 1, 1) := by decide +kernel
theorem dX9_mayMove_111 : decode cX9_mayMove 111 = .ok (.goto 4, 3) := by decide +kernel
theorem dX9_mayMove_114 : decode cX9_mayMove 114 = .ok (.iconst 0, 1) := by decide +kernel
theorem dX9_mayMove_115 : decode cX9_mayMove 115 = .ok (.ireturn, 1) := by decide +kernel
theorem dX9_mayMove_116 : decode cX9_mayMove 116 = .ok (.aload_n 0, 1) := by decide +kernel
theorem dX9_mayMove_117 : decode cX9_mayMove 117 = .ok (.getfield 32, 3) := by decide +kernel
theorem dX9_mayMove_120 : decode cX9_mayMove 120 = .ok (.iconst 1, 1) := by decide +kernel
theorem dX9_mayMove_121 : decode cX9_mayMove 121 = .ok (.if_icmp .ne 7, 3) := by decide +kernel
theorem dX9_mayMove_124 : decode cX9_mayMove 124 = .ok (.iconst 2, 1) := by decide +kernel
theorem dX9_mayMove_125 : decode cX9_mayMove 125 = .ok (.goto 4, 3) := by decide +kernel
theorem dX9_mayMove_128 : decode cX9_mayMove 128 = .ok (.iconst 3, 1) := by decide +kernel
theorem dX9_mayMove_129 : decode cX9_mayMove 129 = .ok (.istore 4, 2) := by decide +kernel
theorem dX9_mayMove_131 : decode cX9_mayMove 131 = .ok (.iload_n 1, 1) := by decide +kernel
theorem dX9_mayMove_132 : decode cX9_mayMove 132 = .ok (.iload 4, 2) := by decide +kernel
theorem dX9_mayMove_134 : decode cX9_mayMove 134 = .ok (.if_icmp .ge 19, 3) := by decide +kernel
theorem dX9_mayMove_137 : decode cX9_mayMove 137 = .ok (.lload_n 2, 1) := by decide +kernel
theorem dX9_mayMove_138 : decode cX9_mayMove 138 = .ok (.aload_n 0, 1) := by decide +kernel
theorem dX9_mayMove_139 : decode cX9_mayMove 139 = .ok (.iload_n 1, 1) := by decide +kernel
theorem dX9_mayMove_140 : decode cX9_mayMove 140 = .ok (.invokevirtual 147, 3) := by decide +kernel
theorem dX9_mayMove_143 : decode cX9_mayMove 143 = .ok (.lcmp, 1) := by decide +kernel
theorem dX9_mayMove_144 : decode cX9_mayMove 144 = .ok (.ifCond .gt 7, 3) := by decide +kernel
theorem dX9_mayMove_147 : decode cX9_mayMove 147 = .ok (.iconst 1, 1) := by decide +kernel
theorem dX9_mayMove_148 : decode cX9_mayMove 148 = .ok (.goto 4, 3) := by decide +kernel
theorem dX9_mayMove_151 : decode cX9_mayMove 151 = .ok (.iconst 0, 1) := by decide +kernel
theorem dX9_mayMove_152 : decode cX9_mayMove 152 = .ok (.ireturn, 1) := by decide +kernel
theorem dX9_mayMove_153 : decode cX9_mayMove 153 = .ok (.lload_n 2, 1) := by decide +kernel
theorem dX9_mayMove_154 : decode cX9_mayMove 154 = .ok (.aload_n 0, 1) := by decide +kernel
theorem dX9_mayMove_155 : decode cX9_mayMove 155 = .ok (.iconst 0, 1) := by decide +kernel
theorem dX9_mayMove_156 : decode cX9_mayMove 156 = .ok (.invokevirtual 147, 3) := by decide +kernel
theorem dX9_mayMove_159 : decode cX9_mayMove 159 = .ok (.lcmp, 1) := by decide +kernel
theorem dX9_mayMove_160 : decode cX9_mayMove 160 = .ok (.ifCond .gt 35, 3) := by decide +kernel
theorem dX9_mayMove_163 : decode cX9_mayMove 163 = .ok (.lload_n 2, 1) := by decide +kernel
theorem dX9_mayMove_164 : decode cX9_mayMove 164 = .ok (.aload_n 0, 1) := by decide +kernel
theorem dX9_mayMove_165 : decode cX9_mayMove 165 = .ok (.iconst 1, 1) := by decide +kernel
theorem dX9_mayMove_166 : decode cX9_mayMove 166 = .ok (.invokevirtual 147, 3) := by decide +kernel
theorem dX9_mayMove_169 : decode cX9_mayMove 169 = .ok (.lcmp, 1) := by decide +kernel
theorem dX9_mayMove_170 : decode cX9_mayMove 170 = .ok (.ifCond .gt 25, 3) := by decide +kernel
theorem dX9_mayMove_173 : decode cX9_mayMove 173 = .ok (.aload_n 0, 1) := by decide +kernel
theorem dX9_mayMove_174 : decode cX9_mayMove 174 = .ok (.getfield 32, 3) := by decide +kernel
theorem dX9_mayMove_177 : decode cX9_mayMove 177 = .ok (.iconst 1, 1) := by decide +kernel
theorem dX9_mayMove_178 : decode cX9_mayMove 178 = .ok (.if_icmp .eq 13, 3) := by decide +kernel
theorem dX9_mayMove_181 : decode cX9_mayMove 181 = .ok (.lload_n 2, 1) := by decide +kernel
theorem dX9_mayMove_182 : decode cX9_mayMove 182 = .ok (.aload_n 0, 1) := by decide +kernel
theorem dX9_mayMove_183 : decode cX9_mayMove 183 = .ok (.iconst 2, 1) := by decide +kernel
theorem dX9_mayMove_184 : decode cX9_mayMove 184 = .ok (.invokevirtual 147, 3) := by decide +kernel
theorem dX9_mayMove_187 : decode cX9_mayMove 187 = .ok (.lcmp, 1) := by decide +kernel
theorem dX9_mayMove_188 : decode cX9_mayMove 188 = .ok (.ifCond .gt 7, 3) := by decide +kernel
theorem dX9_mayMove_191 : decode cX9_mayMove 191 = .ok (.iconst 1, 1) := by decide +kernel
theorem dX9_mayMove_192 : decode cX9_mayMove 192 = .ok (.goto 4, 3) := by decide +kernel
theorem dX9_mayMove_195 : decode cX9_mayMove 195 = .ok (.iconst 0, 1) := by decide +kernel
theorem dX9_mayMove_196 : decode cX9_mayMove 196 = .ok (.ireturn, 1) := by decide +kernel
set_option maxRecDepth 20000 in
theorem ggX9_move_X9_in : GoodIn wsX9_move wsX9_in := goodIn_r _ [13] (by decide +kernel) (by decide +kernel)
set_option maxRecDepth 20000 in
theorem gX9_move_X9_in : GoodIn wsX9_move (va_wsS RX9 50 yX9_in wsX9_in) := goodIn_app (goodIn_of _ (by decide +kernel)) ggX9_move_X9_in
set_option maxRecDepth 20000 in
theorem ggX9_move_X9_mayMove : GoodIn wsX9_move wsX9_mayMove := goodIn_r _ [17, 5, 1, 8, 18, 19, 20, 12, 21, 22, 23, 24, 25, 4, 82, 83, 84, 85, 86, 87, 88, 89, 90, 91, 92, 93, 94, 95, 96, 97, 98, 99] (by decide +kernel) (by decide +kernel)
set_option maxRecDepth 20000 in
theorem gX9_move_X9_mayMove : GoodIn wsX9_move (wsV RX9 155 RX9 yX9_mayMove wsX9_mayMove) := goodIn_app (goodIn_of _ (by decide +kernel)) ggX9_move_X9_mayMove
set_option maxRecDepth 20000 in
theorem ggX9_move_X9_isWon : GoodIn wsX9_move wsX9_isWon := goodIn_r _ [29, 1, 30, 7, 8, 5, 22, 23, 24, 12, 25, 4, 31, 32, 33, 34, 35, 36, 37, 38, 39, 40, 41, 42, 43, 44, 45, 46, 47, 2, 48, 49, 50, 51, 52, 53, 54, 55, 56, 57, 58, 59, 60, 61, 62, 63, 64, 65, 66, 67, 68, 69, 70, 71, 6, 72, 73, 74, 75, 76, 77, 78, 79, 80, 81, 82, 83, 84, 85, 86, 87, 88, 89, 90, 91, 92, 93, 94, 95, 96, 97, 98, 99] (by decide +kernel) (by decide +kernel)
set_option maxRecDepth 20000 in
theorem gX9_move_X9_isWon : GoodIn wsX9_move (wsV RX9 159 RX9 yX9_isWon wsX9_isWon) := goodIn_app (goodIn_of _ (by decide +kernel)) ggX9_move_X9_isWon
set_option maxRecDepth 20000 in
theorem ggX9_move_X9_canMove : GoodIn wsX9_move wsX9_canMove := goodIn_r _ [21, 1, 8, 5, 22, 23, 24, 12, 25, 4, 82, 83, 84, 85, 86, 87, 88, 89, 90, 91, 92, 93, 94, 95, 96, 97, 98, 99] (by decide +kernel) (by decide +kernel)
set_option maxRecDepth 20000 in
theorem gX9_move_X9_canMove : GoodIn wsX9_move (wsV RX9 151 RX9 yX9_canMove wsX9_canMove) := goodIn_app (goodIn_of _ (by decide +kernel)) ggX9_move_X9_canMove
theorem dX9_move_0 : decode cX9_move 0 = .ok (.iload_n 1, 1) := by decide +kernel
theorem dX9_move_1 : decode cX9_move 1 = .ok (.i2l, 1) := by decide +kernel
theorem dX9_move_2 : decode cX9_move 2 = .ok (.lconst 0, 1) := by decide +kernel
theorem dX9_move_3 : decode cX9_move 3 = .ok (.aload_n 0, 1) := by decide +kernel
theorem dX9_move_4 : decode cX9_move 4 = .ok (.getfield 32, 3) := by decide +kernel
theorem dX9_move_7 : decode cX9_move 7 = .ok (.ifCond .ne 7, 3) := by decide +kernel
theorem dX9_move_10 : decode cX9_move 10 = .ok (.lconst 1, 1) := by decide +kernel
theorem dX9_move_11 : decode cX9_move 11 = .ok (.goto 32, 3) := by decide +kernel
theorem dX9_move_14 : decode cX9_move 14 = .ok (.aload_n 0, 1) := by decide +kernel
theorem dX9_move_15 : decode cX9_move 15 = .ok (.getfield 32, 3) := by decide +kernel
theorem dX9_move_18 : decode cX9_move 18 = .ok (.iconst 1, 1) := by decide +kernel
theorem dX9_move_19 : decode cX9_move 19 = .ok (.if_icmp .ne 9, 3) := by decide +kernel
theorem dX9_move_22 : decode cX9_move 22 = .ok (.ldc2_w 46, 3) := by decide +kernel
theorem dX9_move_25 : decode cX9_move 25 = .ok (.goto 18, 3) := by decide +kernel
theorem dX9_move_28 : decode cX9_move 28 = .ok (.aload_n 0, 1) := by decide +kernel
theorem dX9_move_29 : decode cX9_move 29 = .ok (.getfield 32, 3) := by decide +kernel
theorem dX9_move_32 : decode cX9_move 32 = .ok (.iconst 2, 1) := by decide +kernel
theorem dX9_move_33 : decode cX9_move 33 = .ok (.if_icmp .ne 7, 3) := by decide +kernel
theorem dX9_move_36 : decode cX9_move 36 = .ok (.lconst 0, 1) := by decide +kernel
theorem dX9_move_37 : decode cX9_move 37 = .ok (.goto 6, 3) := by decide +kernel
theorem dX9_move_40 : decode cX9_move 40 = .ok (.ldc2_w 136, 3) := by decide +kernel
theorem dX9_move_43 : decode cX9_move 43 = .ok (.invokestatic 50, 3) := by decide +kernel
theorem dX9_move_46 : decode cX9_move 46 = .ok (.ifCond .ne 6, 3) := by decide +kernel
theorem dX9_move_49 : decode cX9_move 49 = .ok (.bipush (-2), 2) := by decide +kernel
theorem dX9_move_51 : decode cX9_move 51 = .ok (.ireturn, 1) := by decide +kernel
theorem dX9_move_52 : decode cX9_move 52 = .ok (.aload_n 0, 1) := by decide +kernel
theorem dX9_move_53 : decode cX9_move 53 = .ok (.iload_n 1, 1) := by decide +kernel
theorem dX9_move_54 : decode cX9_move 54 = .ok (.lload_n 2, 1) := by decide +kernel
theorem dX9_move_55 : decode cX9_move 55 = .ok (.invokevirtual 155, 3) := by decide +kernel
theorem dX9_move_58 : decode cX9_move 58 = .ok (.ifCond .ne 6, 3) := by decide +kernel
theorem dX9_move_61 : decode cX9_move 61 = .ok (.bipush (-3), 2) := by decide +kernel
theorem dX9_move_63 : decode cX9_move 63 = .ok (.ireturn, 1) := by decide +kernel
theorem dX9_move_64 : decode cX9_move 64 = .ok (.aload_n 0, 1) := by decide +kernel
theorem dX9_move_65 : decode cX9_move 65 = .ok (.invokevirtual 159, 3) := by decide +kernel
theorem dX9_move_68 : decode cX9_move 68 = .ok (.istore 4, 2) := by decide +kernel
theorem dX9_move_70 : decode cX9_move 70 = .ok (.aload_n 0, 1) := by decide +kernel
theorem dX9_move_71 : decode cX9_move 71 = .ok (.getfield 32, 3) := by decide +kernel
theorem dX9_move_74 : decode cX9_move 74 = .ok (.iconst 1, 1) := by decide +kernel
theorem dX9_move_75 : decode cX9_move 75 = .ok (.if_icmp .ne 7, 3) := by decide +kernel
theorem dX9_move_78 : decode cX9_move 78 = .ok (.iconst 2, 1) := by decide +kernel
theorem dX9_move_79 : decode cX9_move 79 = .ok (.goto 4, 3) := by decide +kernel
theorem dX9_move_82 : decode cX9_move 82 = .ok (.iconst 3, 1) := by decide +kernel
theorem dX9_move_83 : decode cX9_move 83 = .ok (.istore 5, 2) := by decide +kernel
theorem dX9_move_85 : decode cX9_move 85 = .ok (.iconst 0, 1) := by decide +kernel
theorem dX9_move_86 : decode cX9_move 86 = .ok (.istore 6, 2) := by decide +kernel
theorem dX9_move_88 : decode cX9_move 88 = .ok (.iload 6, 2) := by decide +kernel
theorem dX9_move_90 : decode cX9_move 90 = .ok (.iconst 3, 1) := by decide +kernel
theorem dX9_move_91 : decode cX9_move 91 = .ok (.if_icmp .ge 84, 3) := by decide +kernel
theorem dX9_move_94 : decode cX9_move 94 = .ok (.iload_n 1, 1) := by decide +kernel
theorem dX9_move_95 : decode cX9_move 95 = .ok (.iload 5, 2) := by decide +kernel
theorem dX9_move_97 : decode cX9_move 97 = .ok (.if_icmp .ge 17, 3) := by decide +kernel
theorem dX9_move_100 : decode cX9_move 100 = .ok (.iload 6, 2) := by decide +kernel
theorem dX9_move_102 : decode cX9_move 102 = .ok (.iload_n 1, 1) := by decide +kernel
theorem dX9_move_103 : decode cX9_move 103 = .ok (.if_icmp .ne 7, 3) := by decide +kernel
theorem dX9_move_106 : decode cX9_move 106 = .ok (.iconst 1, 1) := by decide +kernel
theorem dX9_move_107 : decode cX9_move 107 = .ok (.goto 19, 3) := by decide +kernel
theorem dX9_move_110 : decode cX9_move 110 = .ok (.iconst 0, 1) := by decide +kernel
theorem dX9_move_111 : decode cX9_move 111 = .ok (.goto 15, 3) := by decide +kernel
theorem dX9_move_114 : decode cX9_move 114 = .ok (.iload 6, 2) := by decide +kernel
theorem dX9_move_116 : decode cX9_move 116 = .ok (.iload 5, 2) := by decide +kernel
theorem dX9_move_118 : decode cX9_move 118 = .ok (.if_icmp .ge 7, 3) := by decide +kernel
theorem dX9_move_121 : decode cX9_move 121 = .ok (.iconst 1, 1) := by decide +kernel
theorem dX9_move_122 : decode cX9_move 122 = .ok (.goto 4, 3) := by decide +kernel
theorem dX9_move_125 : decode cX9_move 125 = .ok (.iconst 0, 1) := by decide +kernel
theorem dX9_move_126 : decode cX9_move 126 = .ok (.istore 7, 2) := by decide +kernel
theorem dX9_move_128 : decode cX9_move 128 = .ok (.aload_n 0, 1) := by decide +kernel
theorem dX9_move_129 : decode cX9_move 129 = .ok (.getfield 36, 3) := by decide +kernel
theorem dX9_move_132 : decode cX9_move 132 = .ok (.iconst 3, 1) := by decide +kernel
theorem dX9_move_133 : decode cX9_move 133 = .ok (.aload_n 0, 1) := by decide +kernel
theorem dX9_move_134 : decode cX9_move 134 = .ok (.getfield 144, 3) := by decide +kernel
theorem dX9_move_137 : decode cX9_move 137 = .ok (.imul, 1) := by decide +kernel
theorem dX9_move_138 : decode cX9_move 138 = .ok (.iconst 3, 1) := by decide +kernel
theorem dX9_move_139 : decode cX9_move 139 = .ok (.iadd, 1) := by decide +kernel
theorem dX9_move_140 : decode cX9_move 140 = .ok (.iload 6, 2) := by decide +kernel
theorem dX9_move_142 : decode cX9_move 142 = .ok (.iadd, 1) := by decide +kernel
theorem dX9_move_143 : decode cX9_move 143 = .ok (.aload_n 0, 1) := by decide +kernel
theorem dX9_move_144 : decode cX9_move 144 = .ok (.getfield 36, 3) := by decide +kernel
theorem dX9_move_147 : decode cX9_move 147 = .ok (.iconst 3, 1) := by decide +kernel
theorem dX9_move_148 : decode cX9_move 148 = .ok (.aload_n 0, 1) := by decide +kernel
theorem dX9_move_149 : decode cX9_move 149 = .ok (.getfield 144, 3) := by decide +kernel
theorem dX9_move_152 : decode cX9_move 152 = .ok (.imul, 1) := by decide +kernel
theorem dX9_move_153 : decode cX9_move 153 = .ok (.iload 6, 2) := by decide +kernel
theorem dX9_move_155 : decode cX9_move 155 = .ok (.iadd, 1) := by decide +kernel
theorem dX9_move_156 : decode cX9_move 156 = .ok (.laload, 1) := by decide +kernel
theorem dX9_move_157 : decode cX9_move 157 = .ok (.iload 7, 2) := by decide +kernel
theorem dX9_move_159 : decode cX9_move 159 = .ok (.ifCond .eq 7, 3) := by decide +kernel
theorem dX9_move_162 : decode cX9_move 162 = .ok (.lload_n 2, 1) := by decide +kernel
theorem dX9_move_163 : decode cX9_move 163 = .ok (.goto 4, 3) := by decide +kernel
theorem dX9_move_166 : decode cX9_move 166 = .ok (.lconst 0, 1) := by decide +kernel
theorem dX9_move_167 : decode cX9_move 167 = .ok (.lsub, 1) := by decide +kernel
theorem dX9_move_168 : decode cX9_move 168 = .ok (.lastore, 1) := by decide +kernel
theorem dX9_move_169 : decode cX9_move 169 = .ok (.iinc 6 1, 3) := by decide +kernel
theorem dX9_move_172 : decode cX9_move 172 = .ok (.goto (-84), 3) := by decide +kernel
theorem dX9_move_175 : decode cX9_move 175 = .ok (.aload_n 0, 1) := by decide +kernel
theorem dX9_move_176 : decode cX9_move 176 = .ok (.getfield 32, 3) := by decide +kernel
theorem dX9_move_179 : decode cX9_move 179 = .ok (.iconst 2, 1) := by decide +kernel
theorem dX9_move_180 : decode cX9_move 180 = .ok (.if_icmp .eq 7, 3) := by decide +kernel
theorem dX9_move_183 : decode cX9_move 183 = .ok (.lconst 0, 1) := by decide +kernel
theorem dX9_move_184 : decode cX9_move 184 = .ok (.goto 30, 3) := by decide +kernel
theorem dX9_move_187 : decode cX9_move 187 = .ok (.lload_n 2, 1) := by decide +kernel
theorem dX9_move_188 : decode cX9_move 188 = .ok (.ldc2_w 48, 3) := by decide +kernel
theorem dX9_move_191 : decode cX9_move 191 = .ok (.aload_n 0, 1) := by decide +kernel
theorem dX9_move_192 : decode cX9_move 192 = .ok (.getfield 141, 3) := by decide +kernel
theorem dX9_move_195 : decode cX9_move 195 = .ok (.i2l, 1) := by decide +kernel
theorem dX9_move_196 : decode cX9_move 196 = .ok (.ldiv, 1) := by decide +kernel
theorem dX9_move_197 : decode cX9_move 197 = .ok (.lcmp, 1) := by decide +kernel
theorem dX9_move_198 : decode cX9_move 198 = .ok (.ifCond .le 9, 3) := by decide +kernel
theorem dX9_move_201 : decode cX9_move 201 = .ok (.ldc2_w 48, 3) := by decide +kernel
theorem dX9_move_204 : decode cX9_move 204 = .ok (.goto 10, 3) := by decide +kernel
theorem dX9_move_207 : decode cX9_move 207 = .ok (.aload_n 0, 1) := by decide +kernel
theorem dX9_move_208 : decode cX9_move 208 = .ok (.getfield 141, 3) := by decide +kernel
theorem dX9_move_211 : decode cX9_move 211 = .ok (.i2l, 1) := by decide +kernel
theorem dX9_move_212 : decode cX9_move 212 = .ok (.lload_n 2, 1) := by decide +kernel
theorem dX9_move_213 : decode cX9_move 213 = .ok (.lmul, 1) := by decide +kernel
theorem dX9_move_214 : decode cX9_move 214 = .ok (.lstore 6, 2) := by decide +kernel
theorem dX9_move_216 : decode cX9_move 216 = .ok (.aload_n 0, 1) := by decide +kernel
theorem dX9_move_217 : decode cX9_move 217 = .ok (.getfield 39, 3) := by decide +kernel
theorem dX9_move_220 : decode cX9_move 220 = .ok (.aload_n 0, 1) := by decide +kernel
theorem dX9_move_221 : decode cX9_move 221 = .ok (.getfield 144, 3) := by decide +kernel
theorem dX9_move_224 : decode cX9_move 224 = .ok (.iconst 1, 1) := by decide +kernel
theorem dX9_move_225 : decode cX9_move 225 = .ok (.iadd, 1) := by decide +kernel
theorem dX9_move_226 : decode cX9_move 226 = .ok (.lload 6, 2) := by decide +kernel
theorem dX9_move_228 : decode cX9_move 228 = .ok (.lastore, 1) := by decide +kernel
theorem dX9_move_229 : decode cX9_move 229 = .ok (.aload_n 0, 1) := by decide +kernel
theorem dX9_move_230 : decode cX9_move 230 = .ok (.dup, 1) := by decide +kernel
theorem dX9_move_231 : decode cX9_move 231 = .ok (.getfield 144, 3) := by decide +kernel
theorem dX9_move_234 : decode cX9_move 234 = .ok (.iconst 1, 1) := by decide +kernel
theorem dX9_move_235 : decode cX9_move 235 = .ok (.iadd, 1) := by decide +kernel
theorem dX9_move_236 : decode cX9_move 236 = .ok (.putfield 144, 3) := by decide +kernel
theorem dX9_move_239 : decode cX9_move 239 = .ok (.aload_n 0, 1) := by decide +kernel
theorem dX9_move_240 : decode cX9_move 240 = .ok (.getfield 42, 3) := by decide +kernel
theorem dX9_move_243 : decode cX9_move 243 = .ok (.aload_n 0, 1) := by decide +kernel
theorem dX9_move_244 : decode cX9_move 244 = .ok (.getfield 144, 3) := by decide +kernel
theorem dX9_move_247 : decode cX9_move 247 = .ok (.aload_n 0, 1) := by decide +kernel
theorem dX9_move_248 : decode cX9_move 248 = .ok (.getfield 42, 3) := by decide +kernel
theorem dX9_move_251 : decode cX9_move 251 = .ok (.aload_n 0, 1) := by decide +kernel
theorem dX9_move_252 : decode cX9_move 252 = .ok (.getfield 144, 3) := by decide +kernel
theorem dX9_move_255 : decode cX9_move 255 = .ok (.iconst 1, 1) := by decide +kernel
theorem dX9_move_256 : decode cX9_move 256 = .ok (.isub, 1) := by decide +kernel
theorem dX9_move_257 : decode cX9_move 257 = .ok (.iaload, 1) := by decide +kernel
theorem dX9_move_258 : decode cX9_move 258 = .ok (.iload 4, 2) := by decide +kernel
theorem dX9_move_260 : decode cX9_move 260 = .ok (.ifCond .eq 14, 3) := by decide +kernel
theorem dX9_move_263 : decode cX9_move 263 = .ok (.aload_n 0, 1) := by decide +kernel
theorem dX9_move_264 : decode cX9_move 264 = .ok (.invokevirtual 159, 3) := by decide +kernel
theorem dX9_move_267 : decode cX9_move 267 = .ok (.ifCond .eq 7, 3) := by decide +kernel
theorem dX9_move_270 : decode cX9_move 270 = .ok (.iconst 1, 1) := by decide +kernel
theorem dX9_move_271 : decode cX9_move 271 = .ok (.goto 4, 3) := by decide +kernel
theorem dX9_move_274 : decode cX9_move 274 = .ok (.iconst 0, 1) := by decide +kernel
theorem dX9_move_275 : decode cX9_move 275 = .ok (.iadd, 1) := by decide +kernel
theorem dX9_move_276 : decode cX9_move 276 = .ok (.iastore, 1) := by decide +kernel
theorem dX9_move_277 : decode cX9_move 277 = .ok (.aload_n 0, 1) := by decide +kernel
theorem dX9_move_278 : decode cX9_move 278 = .ok (.invokevirtual 151, 3) := by decide +kernel
theorem dX9_move_281 : decode cX9_move 281 = .ok (.ifCond .eq 7, 3) := by decide +kernel
theorem dX9_move_284 : decode cX9_move 284 = .ok (.iconst 1, 1) := by decide +kernel
theorem dX9_move_285 : decode cX9_move 285 = .ok (.goto 4, 3) := by decide +kernel
theorem dX9_move_288 : decode cX9_move 288 = .ok (.iconst 2, 1) := by decide +kernel
theorem dX9_move_289 : decode cX9_move 289 = .ok (.ireturn, 1) := by decide +kernel
theorem dX9_undo_0 : decode cX9_undo 0 = .ok (.aload_n 0, 1) := by decide +kernel
theorem dX9_undo_1 : decode cX9_undo 1 = .ok (.getfield 144, 3) := by decide +kernel
theorem dX9_undo_4 : decode cX9_undo 4 = .ok (.ifCond .ne 6, 3) := by decide +kernel
theorem dX9_undo_7 : decode cX9_undo 7 = .ok (.bipush (-3), 2) := by decide +kernel
theorem dX9_undo_9 : decode cX9_undo 9 = .ok (.ireturn, 1) := by decide +kernel
theorem dX9_undo_10 : decode cX9_undo 10 = .ok (.aload_n 0, 1) := by decide +kernel
theorem dX9_undo_11 : decode cX9_undo 11 = .ok (.dup, 1) := by decide +kernel
theorem dX9_undo_12 : decode cX9_undo 12 = .ok (.getfield 144, 3) := by decide +kernel
theorem dX9_undo_15 : decode cX9_undo 15 = .ok (.iconst 1, 1) := by decide +kernel
theorem dX9_undo_16 : decode cX9_undo 16 = .ok (.isub, 1) := by decide +kernel
theorem dX9_undo_17 : decode cX9_undo 17 = .ok (.putfield 144, 3) := by decide +kernel
theorem dX9_undo_20 : decode cX9_undo 20 = .ok (.aload_n 0, 1) := by decide +kernel
theorem dX9_undo_21 : decode cX9_undo 21 = .ok (.getfield 144, 3) := by decide +kernel
theorem dX9_undo_24 : decode cX9_undo 24 = .ok (.ireturn, 1) := by decide +kernel
set_option maxRecDepth 20000 in
theorem ggX9_about_X9_heap : GoodIn wsX9_about wsX9_heap := goodIn_r _ [10, 11, 2, 71, 72, 73, 74, 75, 76, 77, 78, 79, 80, 81, 82, 83, 84, 85, 86, 87, 88] (by decide +kernel) (by decide +kernel)
set_option maxRecDepth 20000 in
theorem gX9_about_X9_heap : GoodIn wsX9_about (wsV RX9 147 RX9 yX9_heap wsX9_heap) := goodIn_app (goodIn_of _ (by decide +kernel)) ggX9_about_X9_heap
set_option maxRecDepth 20000 in
theorem ggX9_about_X9_isWon : GoodIn wsX9_about wsX9_isWon := goodIn_r _ [15, 4, 16, 17, 1, 2, 6, 7, 8, 9, 10, 11, 18, 19, 20, 21, 22, 23, 24, 25, 26, 27, 28, 29, 30, 31, 32, 33, 34, 35, 36, 37, 38, 39, 40, 41, 42, 43, 44, 45, 46, 47, 48, 49, 50, 51, 52, 53, 54, 55, 56, 57, 58, 59, 60, 61, 62, 63, 64, 65, 66, 67, 68, 69, 70, 71, 72, 73, 74, 75, 76, 77, 78, 79, 80, 81, 82, 83, 84, 85, 86, 87, 88] (by decide +kernel) (by decide +kernel)
set_option maxRecDepth 20000 in
theorem gX9_about_X9_isWon : GoodIn wsX9_about (wsV RX9 159 RX9 yX9_isWon wsX9_isWon) := goodIn_app (goodIn_of _ (by decide +kernel)) ggX9_about_X9_isWon
theorem dX9_about_0 : decode cX9_about 0 = .ok (.iload_n 1, 1) := by decide +kernel
theorem dX9_about_1 : decode cX9_about 1 = .ok (.tableswitch 111 0 8 #[51, 51, 51, 57, 67, 73, 86, 94, 105], 51) := by decide +kernel
theorem dX9_about_52 : decode cX9_about 52 = .ok (.aload_n 0, 1) := by decide +kernel
theorem dX9_about_53 : decode cX9_about 53 = .ok (.iload_n 1, 1) := by decide +kernel
theorem dX9_about_54 : decode cX9_about 54 = .ok (.invokevirtual 147, 3) := by decide +kernel
theorem dX9_about_57 : decode cX9_about 57 = .ok (.lreturn, 1) := by decide +kernel
theorem dX9_about_58 : decode cX9_about 58 = .ok (.aload_n 0, 1) := by decide +kernel
theorem dX9_about_59 : decode cX9_about 59 = .ok (.getfield 39, 3) := by decide +kernel
theorem dX9_about_62 : decode cX9_about 62 = .ok (.aload_n 0, 1) := by decide +kernel
theorem dX9_about_63 : decode cX9_about 63 = .ok (.getfield 144, 3) := by decide +kernel
theorem dX9_about_66 : decode cX9_about 66 = .ok (.laload, 1) := by decide +kernel
theorem dX9_about_67 : decode cX9_about 67 = .ok (.lreturn, 1) := by decide +kernel
theorem dX9_about_68 : decode cX9_about 68 = .ok (.aload_n 0, 1) := by decide +kernel
theorem dX9_about_69 : decode cX9_about 69 = .ok (.getfield 144, 3) := by decide +kernel
theorem dX9_about_72 : decode cX9_about 72 = .ok (.i2l, 1) := by decide +kernel
theorem dX9_about_73 : decode cX9_about 73 = .ok (.lreturn, 1) := by decide +kernel
theorem dX9_about_74 : decode cX9_about 74 = .ok (.aload_n 0, 1) := by decide +kernel
theorem dX9_about_75 : decode cX9_about 75 = .ok (.invokevirtual 159, 3) := by decide +kernel
theorem dX9_about_78 : decode cX9_about 78 = .ok (.ifCond .eq 7, 3) := by decide +kernel
theorem dX9_about_81 : decode cX9_about 81 = .ok (.lconst 1, 1) := by decide +kernel
theorem dX9_about_82 : decode cX9_about 82 = .ok (.goto 4, 3) := by decide +kernel
theorem dX9_about_85 : decode cX9_about 85 = .ok (.lconst 0, 1) := by decide +kernel
theorem dX9_about_86 : decode cX9_about 86 = .ok (.lreturn, 1) := by decide +kernel
theorem dX9_about_87 : decode cX9_about 87 = .ok (.aload_n 0, 1) := by decide +kernel
theorem dX9_about_88 : decode cX9_about 88 = .ok (.getfield 144, 3) := by decide +kernel
theorem dX9_about_91 : decode cX9_about 91 = .ok (.iconst 2, 1) := by decide +kernel
theorem dX9_about_92 : decode cX9_about 92 = .ok (.irem, 1) := by decide +kernel
theorem dX9_about_93 : decode cX9_about 93 = .ok (.i2l, 1) := by decide +kernel
theorem dX9_about_94 : decode cX9_about 94 = .ok (.lreturn, 1) := by decide +kernel
theorem dX9_about_95 : decode cX9_about 95 = .ok (.aload_n 0, 1) := by decide +kernel
theorem dX9_about_96 : decode cX9_about 96 = .ok (.getfield 42, 3) := by decide +kernel
theorem dX9_about_99 : decode cX9_about 99 = .ok (.aload_n 0, 1) := by decide +kernel
theorem dX9_about_100 : decode cX9_about 100 = .ok (.getfield 144, 3) := by decide +kernel
theorem dX9_about_103 : decode cX9_about 103 = .ok (.iaload, 1) := by decide +kernel
theorem dX9_about_104 : decode cX9_about 104 = .ok (.i2l, 1) := by decide +kernel
theorem dX9_about_105 : decode cX9_about 105 = .ok (.lreturn, 1) := by decide +kernel
theorem dX9_about_106 : decode cX9_about 106 = .ok (.aload_n 0, 1) := by decide +kernel
theorem dX9_about_107 : decode cX9_about 107 = .ok (.getfield 32, 3) := by decide +kernel
theorem dX9_about_110 : decode cX9_about 110 = .ok (.i2l, 1) := by decide +kernel
theorem dX9_about_111 : decode cX9_about 111 = .ok (.lreturn, 1) := by decide +kernel
theorem dX9_about_112 : decode cX9_about 112 = .ok (.ldc2_w 62, 3) := by decide +kernel
theorem dX9_about_115 : decode cX9_about 115 = .ok (.lreturn, 1) := by decide +kernel
set_option maxRecDepth 20000 in
theorem ggX9_digest_X9_about : GoodIn wsX9_digest wsX9_about := goodIn_r _ [7, 8, 9, 10, 11, 12, 13, 14, 15, 6, 16, 17, 18, 19, 20, 21, 22, 23, 24, 25, 26, 27, 28, 29, 30, 31, 32, 33, 34, 35, 36, 37, 38, 39, 40, 41, 42, 43, 44, 45, 46, 47, 48, 49, 50, 51, 52, 53, 54, 55, 56, 57, 58, 59, 60, 61, 62, 63, 64, 65, 66, 67, 68, 69, 70, 71, 72, 73, 74, 75, 76, 77, 78, 79, 80, 81, 82, 83, 84, 85, 86, 87, 88, 89, 90, 91, 92, 93, 94] (by decide +kernel) (by decide +kernel)
set_option maxRecDepth 20000 in
theorem gX9_digest_X9_about : GoodIn wsX9_digest (wsV RX9 166 RX9 yX9_about wsX9_about) := goodIn_app (goodIn_of _ (by decide +kernel)) ggX9_digest_X9_about
theorem dX9_digest_0 : decode cX9_digest 0 = .ok (.ldc2_w 162, 3) := by decide +kernel
theorem dX9_digest_3 : decode cX9_digest 3 = .ok (.lstore_n 1, 1) := by decide +kernel
theorem dX9_digest_4 : decode cX9_digest 4 = .ok (.iconst 0, 1) := by decide +kernel
theorem dX9_digest_5 : decode cX9_digest 5 = .ok (.istore_n 3, 1) := by decide +kernel
theorem dX9_digest_6 : decode cX9_digest 6 = .ok (.iload_n 3, 1) := by decide +kernel
theorem dX9_digest_7 : decode cX9_digest 7 = .ok (.bipush 9, 2) := by decide +kernel
theorem dX9_digest_9 : decode cX9_digest 9 = .ok (.if_icmp .ge 21, 3) := by decide +kernel
theorem dX9_digest_12 : decode cX9_digest 12 = .ok (.ldc2_w 164, 3) := by decide +kernel
theorem dX9_digest_15 : decode cX9_digest 15 = .ok (.lload_n 1, 1) := by decide +kernel
theorem dX9_digest_16 : decode cX9_digest 16 = .ok (.lmul, 1) := by decide +kernel
theorem dX9_digest_17 : decode cX9_digest 17 = .ok (.aload_n 0, 1) := by decide +kernel
theorem dX9_digest_18 : decode cX9_digest 18 = .ok (.iload_n 3, 1) := by decide +kernel
theorem dX9_digest_19 : decode cX9_digest 19 = .ok (.invokevirtual 166, 3) := by decide +kernel
theorem dX9_digest_22 : decode cX9_digest 22 = .ok (.ladd, 1) := by decide +kernel
theorem dX9_digest_23 : decode cX9_digest 23 = .ok (.lstore_n 1, 1) := by decide +kernel
theorem dX9_digest_24 : decode cX9_digest 24 = .ok (.iinc 3 1, 3) := by decide +kernel
theorem dX9_digest_27 : decode cX9_digest 27 = .ok (.goto (-21), 3) := by decide +kernel
theorem dX9_digest_30 : decode cX9_digest 30 = .ok (.lload_n 1, 1) := by decide +kernel
theorem dX9_digest_31 : decode cX9_digest 31 = .ok (.lreturn, 1) := by decide +kernel
theorem dJ13_bitCount_95d88_0 : decode cJ13_bitCount_95d88 0 = .ok (.lload_n 0, 1) := by decide +kernel
theorem dJ13_bitCount_95d88_1 : decode cJ13_bitCount_95d88 1 = .ok (.lload_n 0, 1) := by decide +kernel
theorem dJ13_bitCount_95d88_2 : decode cJ13_bitCount_95d88 2 = .ok (.iconst 1, 1) := by decide +kernel
theorem dJ13_bitCount_95d88_3 : decode cJ13_bitCount_95d88 3 = .ok (.lushr, 1) := by decide +kernel
theorem dJ13_bitCount_95d88_4 : decode cJ13_bitCount_95d88 4 = .ok (.ldc2_w 314, 3) := by decide +kernel
theorem dJ13_bitCount_95d88_7 : decode cJ13_bitCount_95d88 7 = .ok (.land, 1) := by decide +kernel
theorem dJ13_bitCount_95d88_8 : decode cJ13_bitCount_95d88 8 = .ok (.lsub, 1) := by decide +kernel
theorem dJ13_bitCount_95d88_9 : decode cJ13_bitCount_95d88 9 = .ok (.lstore_n 0, 1) := by decide +kernel
theorem dJ13_bitCount_95d88_10 : decode cJ13_bitCount_95d88 10 = .ok (.lload_n 0, 1) := by decide +kernel
theorem dJ13_bitCount_95d88_11 : decode cJ13_bitCount_95d88 11 = .ok (.ldc2_w 316, 3) := by decide +kernel
theorem dJ13_bitCount_95d88_14 : decode cJ13_bitCount_95d88 14 = .ok (.land, 1) := by decide +kernel
theorem dJ13_bitCount_95d88_15 : decode cJ13_bitCount_95d88 15 = .ok (.lload_n 0, 1) := by decide +kernel
theorem dJ13_bitCount_95d88_16 : decode cJ13_bitCount_95d88 16 = .ok (.iconst 2, 1) := by decide +kernel
theorem dJ13_bitCount_95d88_17 : decode cJ13_bitCount_95d88 17 = .ok (.lushr, 1) := by decide +kernel
theorem dJ13_bitCount_95d88_18 : decode cJ13_bitCount_95d88 18 = .ok (.ldc2_w 316, 3) := by decide +kernel
theorem dJ13_bitCount_95d88_21 : decode cJ13_bitCount_95d88 21 = .ok (.land, 1) := by decide +kernel
theorem dJ13_bitCount_95d88_22 : decode cJ13_bitCount_95d88 22 = .ok (.ladd, 1) := by decide +kernel
theorem dJ13_bitCount_95d88_23 : decode cJ13_bitCount_95d88 23 = .ok (.lstore_n 0, 1) := by decide +kernel
theorem dJ13_bitCount_95d88_24 : decode cJ13_bitCount_95d88 24 = .ok (.lload_n 0, 1) := by decide +kernel
theorem dJ13_bitCount_95d88_25 : decode cJ13_bitCount_95d88 25 = .ok (.lload_n 0, 1) := by decide +kernel
theorem dJ13_bitCount_95d88_26 : decode cJ13_bitCount_95d88 26 = .ok (.iconst 4, 1) := by decide +kernel
theorem dJ13_bitCount_95d88_27 : decode cJ13_bitCount_95d88 27 = .ok (.lushr, 1) := by decide +kernel
theorem dJ13_bitCount_95d88_28 : decode cJ13_bitCount_95d88 28 = .ok (.ladd, 1) := by decide +kernel
theorem dJ13_bitCount_95d88_29 : decode cJ13_bitCount_95d88 29 = .ok (.ldc2_w 318, 3) := by decide +kernel
theorem dJ13_bitCount_95d88_32 : decode cJ13_bitCount_95d88 32 = .ok (.land, 1) := by decide +kernel
theorem dJ13_bitCount_95d88_33 : decode cJ13_bitCount_95d88 33 = .ok (.lstore_n 0, 1) := by decide +kernel
theorem dJ13_bitCount_95d88_34 : decode cJ13_bitCount_95d88 34 = .ok (.lload_n 0, 1) := by decide +kernel
theorem dJ13_bitCount_95d88_35 : decode cJ13_bitCount_95d88 35 = .ok (.lload_n 0, 1) := by decide +kernel
theorem dJ13_bitCount_95d88_36 : decode cJ13_bitCount_95d88 36 = .ok (.bipush 8, 2) := by decide +kernel
theorem dJ13_bitCount_95d88_38 : decode cJ13_bitCount_95d88 38 = .ok (.lushr, 1) := by decide +kernel
theorem dJ13_bitCount_95d88_39 : decode cJ13_bitCount_95d88 39 = .ok (.ladd, 1) := by decide +kernel
theorem dJ13_bitCount_95d88_40 : decode cJ13_bitCount_95d88 40 = .ok (.lstore_n 0, 1) := by decide +kernel
theorem dJ13_bitCount_95d88_41 : decode cJ13_bitCount_95d88 41 = .ok (.lload_n 0, 1) := by decide +kernel
theorem dJ13_bitCount_95d88_42 : decode cJ13_bitCount_95d88 42 = .ok (.lload_n 0, 1) := by decide +kernel
theorem dJ13_bitCount_95d88_43 : decode cJ13_bitCount_95d88 43 = .ok (.bipush 16, 2) := by decide +kernel
theorem dJ13_bitCount_95d88_45 : decode cJ13_bitCount_95d88 45 = .ok (.lushr, 1) := by decide +kernel
theorem dJ13_bitCount_95d88_46 : decode cJ13_bitCount_95d88 46 = .ok (.ladd, 1) := by decide +kernel
theorem dJ13_bitCount_95d88_47 : decode cJ13_bitCount_95d88 47 = .ok (.lstore_n 0, 1) := by decide +kernel
theorem dJ13_bitCount_95d88_48 : decode cJ13_bitCount_95d88 48 = .ok (.lload_n 0, 1) := by decide +kernel
theorem dJ13_bitCount_95d88_49 : decode cJ13_bitCount_95d88 49 = .ok (.lload_n 0, 1) := by decide +kernel
theorem dJ13_bitCount_95d88_50 : decode cJ13_bitCount_95d88 50 = .ok (.bipush 32, 2) := by decide +kernel
theorem dJ13_bitCount_95d88_52 : decode cJ13_bitCount_95d88 52 = .ok (.lushr, 1) := by decide +kernel
theorem dJ13_bitCount_95d88_53 : decode cJ13_bitCount_95d88 53 = .ok (.ladd, 1) := by decide +kernel
theorem dJ13_bitCount_95d88_54 : decode cJ13_bitCount_95d88 54 = .ok (.lstore_n 0, 1) := by decide +kernel
theorem dJ13_bitCount_95d88_55 : decode cJ13_bitCount_95d88 55 = .ok (.lload_n 0, 1) := by decide +kernel
theorem dJ13_bitCount_95d88_56 : decode cJ13_bitCount_95d88 56 = .ok (.l2i, 1) := by decide +kernel
theorem dJ13_bitCount_95d88_57 : decode cJ13_bitCount_95d88 57 = .ok (.bipush 127, 2) := by decide +kernel
theorem dJ13_bitCount_95d88_59 : decode cJ13_bitCount_95d88 59 = .ok (.iand, 1) := by decide +kernel
theorem dJ13_bitCount_95d88_60 : decode cJ13_bitCount_95d88 60 = .ok (.ireturn, 1) := by decide +kernel
theorem dJ9_abs_067f4_0 : decode cJ9_abs_067f4 0 = .ok (.lload_n 0, 1) := by decide +kernel
theorem dJ9_abs_067f4_1 : decode cJ9_abs_067f4 1 = .ok (.lconst 0, 1) := by decide +kernel
theorem dJ9_abs_067f4_2 : decode cJ9_abs_067f4 2 = .ok (.lcmp, 1) := by decide +kernel
theorem dJ9_abs_067f4_3 : decode cJ9_abs_067f4 3 = .ok (.ifCond .ge 8, 3) := by decide +kernel
theorem dJ9_abs_067f4_6 : decode cJ9_abs_067f4 6 = .ok (.lload_n 0, 1) := by decide +kernel
theorem dJ9_abs_067f4_7 : decode cJ9_abs_067f4 7 = .ok (.lneg, 1) := by decide +kernel
theorem dJ9_abs_067f4_8 : decode cJ9_abs_067f4 8 = .ok (.goto 4, 3) := by decide +kernel
theorem dJ9_abs_067f4_11 : decode cJ9_abs_067f4 11 = .ok (.lload_n 0, 1) := by decide +kernel
theorem dJ9_abs_067f4_12 : decode cJ9_abs_067f4 12 = .ok (.lreturn, 1) := by decide +kernel
theorem dJ9_max_7cf53_0 : decode cJ9_max_7cf53 0 = .ok (.iload_n 0, 1) := by decide +kernel
theorem dJ9_max_7cf53_1 : decode cJ9_max_7cf53 1 = .ok (.iload_n 1, 1) := by decide +kernel
theorem dJ9_max_7cf53_2 : decode cJ9_max_7cf53 2 = .ok (.if_icmp .lt 7, 3) := by decide +kernel
theorem dJ9_max_7cf53_5 : decode cJ9_max_7cf53 5 = .ok (.iload_n 0, 1) := by decide +kernel
theorem dJ9_max_7cf53_6 : decode cJ9_max_7cf53 6 = .ok (.goto 4, 3) := by decide +kernel
theorem dJ9_max_7cf53_9 : decode cJ9_max_7cf53 9 = .ok (.iload_n 1, 1) := by decide +kernel
theorem dJ9_max_7cf53_10 : decode cJ9_max_7cf53 10 = .ok (.ireturn, 1) := by decide +kernel
theorem dJ9_max_f86c9_0 : decode cJ9_max_f86c9 0 = .ok (.lload_n 0, 1) := by decide +kernel
theorem dJ9_max_f86c9_1 : decode cJ9_max_f86c9 1 = .ok (.lload_n 2, 1) := by decide +kernel
theorem dJ9_max_f86c9_2 : decode cJ9_max_f86c9 2 = .ok (.lcmp, 1) := by decide +kernel
theorem dJ9_max_f86c9_3 : decode cJ9_max_f86c9 3 = .ok (.ifCond .lt 7, 3) := by decide +kernel
theorem dJ9_max_f86c9_6 : decode cJ9_max_f86c9 6 = .ok (.lload_n 0, 1) := by decide +kernel
theorem dJ9_max_f86c9_7 : decode cJ9_max_f86c9 7 = .ok (.goto 4, 3) := by decide +kernel
theorem dJ9_max_f86c9_10 : decode cJ9_max_f86c9 10 = .ok (.lload_n 2, 1) := by decide +kernel
theorem dJ9_max_f86c9_11 : decode cJ9_max_f86c9 11 = .ok (.lreturn, 1) := by decide +kernel
theorem dJ9_min_7cf53_0 : decode cJ9_min_7cf53 0 = .ok (.iload_n 0, 1) := by decide +kernel
theorem dJ9_min_7cf53_1 : decode cJ9_min_7cf53 1 = .ok (.iload_n 1, 1) := by decide +kernel
theorem dJ9_min_7cf53_2 : decode cJ9_min_7cf53 2 = .ok (.if_icmp .gt 7, 3) := by decide +kernel
theorem dJ9_min_7cf53_5 : decode cJ9_min_7cf53 5 = .ok (.iload_n 0, 1) := by decide +kernel
theorem dJ9_min_7cf53_6 : decode cJ9_min_7cf53 6 = .ok (.goto 4, 3) := by decide +kernel
theorem dJ9_min_7cf53_9 : decode cJ9_min_7cf53 9 = .ok (.iload_n 1, 1) := by decide +kernel
theorem dJ9_min_7cf53_10 : decode cJ9_min_7cf53 10 = .ok (.ireturn, 1) := by decide +kernel
theorem dJ9_min_f86c9_0 : decode cJ9_min_f86c9 0 = .ok (.lload_n 0, 1) := by decide +kernel
theorem dJ9_min_f86c9_1 : decode cJ9_min_f86c9 1 = .ok (.lload_n 2, 1) := by decide +kernel
theorem dJ9_min_f86c9_2 : decode cJ9_min_f86c9 2 = .ok (.lcmp, 1) := by decide +kernel
theorem dJ9_min_f86c9_3 : decode cJ9_min_f86c9 3 = .ok (.ifCond .gt 7, 3) := by decide +kernel
theorem dJ9_min_f86c9_6 : decode cJ9_min_f86c9 6 = .ok (.lload_n 0, 1) := by decide +kernel
theorem dJ9_min_f86c9_7 : decode cJ9_min_f86c9 7 = .ok (.goto 4, 3) := by decide +kernel
theorem dJ9_min_f86c9_10 : decode cJ9_min_f86c9 10 = .ok (.lload_n 2, 1) := by decide +kernel
theorem dJ9_min_f86c9_11 : decode cJ9_min_f86c9 11 = .ok (.lreturn, 1) := by decide +kernel
