set_option maxRecDepth 20000 in
theorem ggX6_dot_X6_cellOf : GoodIn wsX6_dot wsX6_cellOf := goodIn_r _ [7, 8, 9, 10, 11, 12, 13, 14, 15, 16, 17, 18, 19, 20, 21, 22, 23, 24, 25, 26, 27, 28, 29, 30, 31, 32, 33, 34, 35] (by decide +kernel) (by decide +kernel)
set_option maxRecDepth 20000 in
theorem gX6_dot_X6_cellOf : GoodIn wsX6_dot (wsV RX6 177 RX6 yX6_cellOf wsX6_cellOf) := goodIn_app (goodIn_of _ (by decide +kernel)) ggX6_dot_X6_cellOf
theorem dX6_dot_0 : decode cX6_dot 0 = .ok (.sipush 640, 3) := by decide +kernel
theorem dX6_dot_3 : decode cX6_dot 3 = .ok (.iload_n 1, 1) := by decide +kernel
theorem dX6_dot_4 : decode cX6_dot 4 = .ok (.imul, 1) := by decide +kernel
theorem dX6_dot_5 : decode cX6_dot 5 = .ok (.aload_n 0, 1) := by decide +kernel
theorem dX6_dot_6 : decode cX6_dot 6 = .ok (.iload_n 3, 1) := by decide +kernel
theorem dX6_dot_7 : decode cX6_dot 7 = .ok (.iload 4, 2) := by decide +kernel
theorem dX6_dot_9 : decode cX6_dot 9 = .ok (.invokevirtual 177, 3) := by decide +kernel
theorem dX6_dot_12 : decode cX6_dot 12 = .ok (.iadd, 1) := by decide +kernel
theorem dX6_dot_13 : decode cX6_dot 13 = .ok (.istore 5, 2) := by decide +kernel
theorem dX6_dot_15 : decode cX6_dot 15 = .ok (.iconst 3, 1) := by decide +kernel
theorem dX6_dot_16 : decode cX6_dot 16 = .ok (.iload 4, 2) := by decide +kernel
theorem dX6_dot_18 : decode cX6_dot 18 = .ok (.iconst 4, 1) := by decide +kernel
theorem dX6_dot_19 : decode cX6_dot 19 = .ok (.irem, 1) := by decide +kernel
theorem dX6_dot_20 : decode cX6_dot 20 = .ok (.isub, 1) := by decide +kernel
theorem dX6_dot_21 : decode cX6_dot 21 = .ok (.istore 6, 2) := by decide +kernel
theorem dX6_dot_23 : decode cX6_dot 23 = .ok (.iload 6, 2) := by decide +kernel
theorem dX6_dot_25 : decode cX6_dot 25 = .ok (.iconst 3, 1) := by decide +kernel
theorem dX6_dot_26 : decode cX6_dot 26 = .ok (.if_icmp .ne 12, 3) := by decide +kernel
theorem dX6_dot_29 : decode cX6_dot 29 = .ok (.bipush 64, 2) := by decide +kernel
theorem dX6_dot_31 : decode cX6_dot 31 = .ok (.iload_n 3, 1) := by decide +kernel
theorem dX6_dot_32 : decode cX6_dot 32 = .ok (.iconst 2, 1) := by decide +kernel
theorem dX6_dot_33 : decode cX6_dot 33 = .ok (.irem, 1) := by decide +kernel
theorem dX6_dot_34 : decode cX6_dot 34 = .ok (.ishl, 1) := by decide +kernel
theorem dX6_dot_35 : decode cX6_dot 35 = .ok (.goto 13, 3) := by decide +kernel
theorem dX6_dot_38 : decode cX6_dot 38 = .ok (.iconst 1, 1) := by decide +kernel
theorem dX6_dot_39 : decode cX6_dot 39 = .ok (.iload 6, 2) := by decide +kernel
theorem dX6_dot_41 : decode cX6_dot 41 = .ok (.iconst 3, 1) := by decide +kernel
theorem dX6_dot_42 : decode cX6_dot 42 = .ok (.iload_n 3, 1) := by decide +kernel
theorem dX6_dot_43 : decode cX6_dot 43 = .ok (.iconst 2, 1) := by decide +kernel
theorem dX6_dot_44 : decode cX6_dot 44 = .ok (.irem, 1) := by decide +kernel
theorem dX6_dot_45 : decode cX6_dot 45 = .ok (.imul, 1) := by decide +kernel
theorem dX6_dot_46 : decode cX6_dot 46 = .ok (.iadd, 1) := by decide +kernel
theorem dX6_dot_47 : decode cX6_dot 47 = .ok (.ishl, 1) := by decide +kernel
theorem dX6_dot_48 : decode cX6_dot 48 = .ok (.istore 7, 2) := by decide +kernel
theorem dX6_dot_50 : decode cX6_dot 50 = .ok (.aload_n 0, 1) := by decide +kernel
theorem dX6_dot_51 : decode cX6_dot 51 = .ok (.getfield 72, 3) := by decide +kernel
theorem dX6_dot_54 : decode cX6_dot 54 = .ok (.iload 5, 2) := by decide +kernel
theorem dX6_dot_56 : decode cX6_dot 56 = .ok (.aload_n 0, 1) := by decide +kernel
theorem dX6_dot_57 : decode cX6_dot 57 = .ok (.getfield 72, 3) := by decide +kernel
theorem dX6_dot_60 : decode cX6_dot 60 = .ok (.iload 5, 2) := by decide +kernel
theorem dX6_dot_62 : decode cX6_dot 62 = .ok (.iaload, 1) := by decide +kernel
theorem dX6_dot_63 : decode cX6_dot 63 = .ok (.sipush 10240, 3) := by decide +kernel
theorem dX6_dot_66 : decode cX6_dot 66 = .ok (.if_icmp .ge 9, 3) := by decide +kernel
theorem dX6_dot_69 : decode cX6_dot 69 = .ok (.sipush 10240, 3) := by decide +kernel
theorem dX6_dot_72 : decode cX6_dot 72 = .ok (.goto 10, 3) := by decide +kernel
theorem dX6_dot_75 : decode cX6_dot 75 = .ok (.aload_n 0, 1) := by decide +kernel
theorem dX6_dot_76 : decode cX6_dot 76 = .ok (.getfield 72, 3) := by decide +kernel
theorem dX6_dot_79 : decode cX6_dot 79 = .ok (.iload 5, 2) := by decide +kernel
theorem dX6_dot_81 : decode cX6_dot 81 = .ok (.iaload, 1) := by decide +kernel
theorem dX6_dot_82 : decode cX6_dot 82 = .ok (.iload 7, 2) := by decide +kernel
theorem dX6_dot_84 : decode cX6_dot 84 = .ok (.ior, 1) := by decide +kernel
theorem dX6_dot_85 : decode cX6_dot 85 = .ok (.iastore, 1) := by decide +kernel
theorem dX6_dot_86 : decode cX6_dot 86 = .ok (.aload_n 0, 1) := by decide +kernel
theorem dX6_dot_87 : decode cX6_dot 87 = .ok (.getfield 75, 3) := by decide +kernel
theorem dX6_dot_90 : decode cX6_dot 90 = .ok (.iload 5, 2) := by decide +kernel
theorem dX6_dot_92 : decode cX6_dot 92 = .ok (.dup2, 1) := by decide +kernel
theorem dX6_dot_93 : decode cX6_dot 93 = .ok (.iaload, 1) := by decide +kernel
theorem dX6_dot_94 : decode cX6_dot 94 = .ok (.iconst 1, 1) := by decide +kernel
theorem dX6_dot_95 : decode cX6_dot 95 = .ok (.iload_n 2, 1) := by decide +kernel
theorem dX6_dot_96 : decode cX6_dot 96 = .ok (.ishl, 1) := by decide +kernel
theorem dX6_dot_97 : decode cX6_dot 97 = .ok (.ior, 1) := by decide +kernel
theorem dX6_dot_98 : decode cX6_dot 98 = .ok (.iastore, 1) := by decide +kernel
theorem dX6_dot_99 : decode cX6_dot 99 = .ok (.return_, 1) := by decide +kernel
set_option maxRecDepth 20000 in
theorem ggX6_lineOf_X6_floor : GoodIn wsX6_lineOf wsX6_floor := goodIn_r _ [4] (by decide +kernel) (by decide +kernel)
set_option maxRecDepth 20000 in
theorem gX6_lineOf_X6_floor : GoodIn wsX6_lineOf (va_wsS RX6 135 yX6_floor wsX6_floor) := goodIn_app (goodIn_of _ (by decide +kernel)) ggX6_lineOf_X6_floor
set_option maxRecDepth 20000 in
theorem ggX6_lineOf_X6_dot : GoodIn wsX6_lineOf wsX6_dot := goodIn_r _ [8, 9, 10, 11, 12, 13, 3, 14, 15, 16, 17, 18, 19, 20, 21, 22, 23, 24, 25, 26, 27, 28, 29, 30, 31, 32, 33, 34, 35, 36, 37, 38, 39, 40, 41, 42] (by decide +kernel) (by decide +kernel)
set_option maxRecDepth 20000 in
theorem gX6_lineOf_X6_dot : GoodIn wsX6_lineOf (wsV RX6 180 RX6 yX6_dot wsX6_dot) := goodIn_app (goodIn_of _ (by decide +kernel)) ggX6_lineOf_X6_dot
theorem dX6_lineOf_0 : decode cX6_lineOf 0 = .ok (.iload 5, 2) := by decide +kernel
theorem dX6_lineOf_2 : decode cX6_lineOf 2 = .ok (.iload_n 3, 1) := by decide +kernel
theorem dX6_lineOf_3 : decode cX6_lineOf 3 = .ok (.if_icmp .le 10, 3) := by decide +kernel
theorem dX6_lineOf_6 : decode cX6_lineOf 6 = .ok (.iload 5, 2) := by decide +kernel
theorem dX6_lineOf_8 : decode cX6_lineOf 8 = .ok (.iload_n 3, 1) := by decide +kernel
theorem dX6_lineOf_9 : decode cX6_lineOf 9 = .ok (.isub, 1) := by decide +kernel
theorem dX6_lineOf_10 : decode cX6_lineOf 10 = .ok (.goto 7, 3) := by decide +kernel
theorem dX6_lineOf_13 : decode cX6_lineOf 13 = .ok (.iload_n 3, 1) := by decide +kernel
theorem dX6_lineOf_14 : decode cX6_lineOf 14 = .ok (.iload 5, 2) := by decide +kernel
theorem dX6_lineOf_16 : decode cX6_lineOf 16 = .ok (.isub, 1) := by decide +kernel
theorem dX6_lineOf_17 : decode cX6_lineOf 17 = .ok (.istore 7, 2) := by decide +kernel
theorem dX6_lineOf_19 : decode cX6_lineOf 19 = .ok (.iload 6, 2) := by decide +kernel
theorem dX6_lineOf_21 : decode cX6_lineOf 21 = .ok (.iload 4, 2) := by decide +kernel
theorem dX6_lineOf_23 : decode cX6_lineOf 23 = .ok (.if_icmp .le 11, 3) := by decide +kernel
theorem dX6_lineOf_26 : decode cX6_lineOf 26 = .ok (.iload 6, 2) := by decide +kernel
theorem dX6_lineOf_28 : decode cX6_lineOf 28 = .ok (.iload 4, 2) := by decide +kernel
theorem dX6_lineOf_30 : decode cX6_lineOf 30 = .ok (.isub, 1) := by decide +kernel
theorem dX6_lineOf_31 : decode cX6_lineOf 31 = .ok (.goto 8, 3) := by decide +kernel
theorem dX6_lineOf_34 : decode cX6_lineOf 34 = .ok (.iload 4, 2) := by decide +kernel
theorem dX6_lineOf_36 : decode cX6_lineOf 36 = .ok (.iload 6, 2) := by decide +kernel
theorem dX6_lineOf_38 : decode cX6_lineOf 38 = .ok (.isub, 1) := by decide +kernel
theorem dX6_lineOf_39 : decode cX6_lineOf 39 = .ok (.istore 8, 2) := by decide +kernel
theorem dX6_lineOf_41 : decode cX6_lineOf 41 = .ok (.iload 7, 2) := by decide +kernel
theorem dX6_lineOf_43 : decode cX6_lineOf 43 = .ok (.iload 8, 2) := by decide +kernel
theorem dX6_lineOf_45 : decode cX6_lineOf 45 = .ok (.if_icmp .le 8, 3) := by decide +kernel
theorem dX6_lineOf_48 : decode cX6_lineOf 48 = .ok (.iload 7, 2) := by decide +kernel
theorem dX6_lineOf_50 : decode cX6_lineOf 50 = .ok (.goto 5, 3) := by decide +kernel
theorem dX6_lineOf_53 : decode cX6_lineOf 53 = .ok (.iload 8, 2) := by decide +kernel
theorem dX6_lineOf_55 : decode cX6_lineOf 55 = .ok (.istore 9, 2) := by decide +kernel
theorem dX6_lineOf_57 : decode cX6_lineOf 57 = .ok (.iconst 0, 1) := by decide +kernel
theorem dX6_lineOf_58 : decode cX6_lineOf 58 = .ok (.istore 10, 2) := by decide +kernel
theorem dX6_lineOf_60 : decode cX6_lineOf 60 = .ok (.iload 10, 2) := by decide +kernel
theorem dX6_lineOf_62 : decode cX6_lineOf 62 = .ok (.iload 9, 2) := by decide +kernel
theorem dX6_lineOf_64 : decode cX6_lineOf 64 = .ok (.if_icmp .gt 85, 3) := by decide +kernel
theorem dX6_lineOf_67 : decode cX6_lineOf 67 = .ok (.iload 9, 2) := by decide +kernel
theorem dX6_lineOf_69 : decode cX6_lineOf 69 = .ok (.ifCond .ne 7, 3) := by decide +kernel
theorem dX6_lineOf_72 : decode cX6_lineOf 72 = .ok (.iconst 0, 1) := by decide +kernel
theorem dX6_lineOf_73 : decode cX6_lineOf 73 = .ok (.goto 22, 3) := by decide +kernel
theorem dX6_lineOf_76 : decode cX6_lineOf 76 = .ok (.iconst 2, 1) := by decide +kernel
theorem dX6_lineOf_77 : decode cX6_lineOf 77 = .ok (.iload 10, 2) := by decide +kernel
theorem dX6_lineOf_79 : decode cX6_lineOf 79 = .ok (.imul, 1) := by decide +kernel
theorem dX6_lineOf_80 : decode cX6_lineOf 80 = .ok (.iload 5, 2) := by decide +kernel
theorem dX6_lineOf_82 : decode cX6_lineOf 82 = .ok (.iload_n 3, 1) := by decide +kernel
theorem dX6_lineOf_83 : decode cX6_lineOf 83 = .ok (.isub, 1) := by decide +kernel
theorem dX6_lineOf_84 : decode cX6_lineOf 84 = .ok (.imul, 1) := by decide +kernel
theorem dX6_lineOf_85 : decode cX6_lineOf 85 = .ok (.iload 9, 2) := by decide +kernel
theorem dX6_lineOf_87 : decode cX6_lineOf 87 = .ok (.iadd, 1) := by decide +kernel
theorem dX6_lineOf_88 : decode cX6_lineOf 88 = .ok (.iconst 2, 1) := by decide +kernel
theorem dX6_lineOf_89 : decode cX6_lineOf 89 = .ok (.iload 9, 2) := by decide +kernel
theorem dX6_lineOf_91 : decode cX6_lineOf 91 = .ok (.imul, 1) := by decide +kernel
theorem dX6_lineOf_92 : decode cX6_lineOf 92 = .ok (.invokestatic 135, 3) := by decide +kernel
theorem dX6_lineOf_95 : decode cX6_lineOf 95 = .ok (.istore 11, 2) := by decide +kernel
theorem dX6_lineOf_97 : decode cX6_lineOf 97 = .ok (.iload 9, 2) := by decide +kernel
theorem dX6_lineOf_99 : decode cX6_lineOf 99 = .ok (.ifCond .ne 7, 3) := by decide +kernel
theorem dX6_lineOf_102 : decode cX6_lineOf 102 = .ok (.iconst 0, 1) := by decide +kernel
theorem dX6_lineOf_103 : decode cX6_lineOf 103 = .ok (.goto 23, 3) := by decide +kernel
theorem dX6_lineOf_106 : decode cX6_lineOf 106 = .ok (.iconst 2, 1) := by decide +kernel
theorem dX6_lineOf_107 : decode cX6_lineOf 107 = .ok (.iload 10, 2) := by decide +kernel
theorem dX6_lineOf_109 : decode cX6_lineOf 109 = .ok (.imul, 1) := by decide +kernel
theorem dX6_lineOf_110 : decode cX6_lineOf 110 = .ok (.iload 6, 2) := by decide +kernel
theorem dX6_lineOf_112 : decode cX6_lineOf 112 = .ok (.iload 4, 2) := by decide +kernel
theorem dX6_lineOf_114 : decode cX6_lineOf 114 = .ok (.isub, 1) := by decide +kernel
theorem dX6_lineOf_115 : decode cX6_lineOf 115 = .ok (.imul, 1) := by decide +kernel
theorem dX6_lineOf_116 : decode cX6_lineOf 116 = .ok (.iload 9, 2) := by decide +kernel
theorem dX6_lineOf_118 : decode cX6_lineOf 118 = .ok (.iadd, 1) := by decide +kernel
theorem dX6_lineOf_119 : decode cX6_lineOf 119 = .ok (.iconst 2, 1) := by decide +kernel
theorem dX6_lineOf_120 : decode cX6_lineOf 120 = .ok (.iload 9, 2) := by decide +kernel
theorem dX6_lineOf_122 : decode cX6_lineOf 122 = .ok (.imul, 1) := by decide +kernel
theorem dX6_lineOf_123 : decode cX6_lineOf 123 = .ok (.invokestatic 135, 3) := by decide +kernel
theorem dX6_lineOf_126 : decode cX6_lineOf 126 = .ok (.istore 12, 2) := by decide +kernel
theorem dX6_lineOf_128 : decode cX6_lineOf 128 = .ok (.aload_n 0, 1) := by decide +kernel
theorem dX6_lineOf_129 : decode cX6_lineOf 129 = .ok (.iload_n 1, 1) := by decide +kernel
theorem dX6_lineOf_130 : decode cX6_lineOf 130 = .ok (.iload_n 2, 1) := by decide +kernel
theorem dX6_lineOf_131 : decode cX6_lineOf 131 = .ok (.iload_n 3, 1) := by decide +kernel
theorem dX6_lineOf_132 : decode cX6_lineOf 132 = .ok (.iload 11, 2) := by decide +kernel
theorem dX6_lineOf_134 : decode cX6_lineOf 134 = .ok (.iadd, 1) := by decide +kernel
theorem dX6_lineOf_135 : decode cX6_lineOf 135 = .ok (.iload 4, 2) := by decide +kernel
theorem dX6_lineOf_137 : decode cX6_lineOf 137 = .ok (.iload 12, 2) := by decide +kernel
theorem dX6_lineOf_139 : decode cX6_lineOf 139 = .ok (.iadd, 1) := by decide +kernel
theorem dX6_lineOf_140 : decode cX6_lineOf 140 = .ok (.invokevirtual 180, 3) := by decide +kernel
theorem dX6_lineOf_143 : decode cX6_lineOf 143 = .ok (.iinc 10 1, 3) := by decide +kernel
theorem dX6_lineOf_146 : decode cX6_lineOf 146 = .ok (.goto (-86), 3) := by decide +kernel
theorem dX6_lineOf_149 : decode cX6_lineOf 149 = .ok (.return_, 1) := by decide +kernel
theorem dX6_bar_0 : decode cX6_bar 0 = .ok (.iconst 2, 1) := by decide +kernel
theorem dX6_bar_1 : decode cX6_bar 1 = .ok (.iload 4, 2) := by decide +kernel
theorem dX6_bar_3 : decode cX6_bar 3 = .ok (.iconst 1, 1) := by decide +kernel
theorem dX6_bar_4 : decode cX6_bar 4 = .ok (.iadd, 1) := by decide +kernel
theorem dX6_bar_5 : decode cX6_bar 5 = .ok (.imul, 1) := by decide +kernel
theorem dX6_bar_6 : decode cX6_bar 6 = .ok (.istore 5, 2) := by decide +kernel
theorem dX6_bar_8 : decode cX6_bar 8 = .ok (.aload_n 0, 1) := by decide +kernel
theorem dX6_bar_9 : decode cX6_bar 9 = .ok (.getfield 13, 3) := by decide +kernel
theorem dX6_bar_12 : decode cX6_bar 12 = .ok (.iconst 1, 1) := by decide +kernel
theorem dX6_bar_13 : decode cX6_bar 13 = .ok (.isub, 1) := by decide +kernel
theorem dX6_bar_14 : decode cX6_bar 14 = .ok (.istore 6, 2) := by decide +kernel
theorem dX6_bar_16 : decode cX6_bar 16 = .ok (.iload 5, 2) := by decide +kernel
theorem dX6_bar_18 : decode cX6_bar 18 = .ok (.ifCond .le 95, 3) := by decide +kernel
theorem dX6_bar_21 : decode cX6_bar 21 = .ok (.sipush 640, 3) := by decide +kernel
theorem dX6_bar_24 : decode cX6_bar 24 = .ok (.iload_n 1, 1) := by decide +kernel
theorem dX6_bar_25 : decode cX6_bar 25 = .ok (.imul, 1) := by decide +kernel
theorem dX6_bar_26 : decode cX6_bar 26 = .ok (.iload 6, 2) := by decide +kernel
theorem dX6_bar_28 : decode cX6_bar 28 = .ok (.aload_n 0, 1) := by decide +kernel
theorem dX6_bar_29 : decode cX6_bar 29 = .ok (.getfield 7, 3) := by decide +kernel
theorem dX6_bar_32 : decode cX6_bar 32 = .ok (.imul, 1) := by decide +kernel
theorem dX6_bar_33 : decode cX6_bar 33 = .ok (.iadd, 1) := by decide +kernel
theorem dX6_bar_34 : decode cX6_bar 34 = .ok (.iload_n 3, 1) := by decide +kernel
theorem dX6_bar_35 : decode cX6_bar 35 = .ok (.iconst 2, 1) := by decide +kernel
theorem dX6_bar_36 : decode cX6_bar 36 = .ok (.idiv, 1) := by decide +kernel
theorem dX6_bar_37 : decode cX6_bar 37 = .ok (.iadd, 1) := by decide +kernel
theorem dX6_bar_38 : decode cX6_bar 38 = .ok (.istore 7, 2) := by decide +kernel
theorem dX6_bar_40 : decode cX6_bar 40 = .ok (.sipush 9600, 3) := by decide +kernel
theorem dX6_bar_43 : decode cX6_bar 43 = .ok (.iload 5, 2) := by decide +kernel
theorem dX6_bar_45 : decode cX6_bar 45 = .ok (.bipush 8, 2) := by decide +kernel
theorem dX6_bar_47 : decode cX6_bar 47 = .ok (.if_icmp .le 8, 3) := by decide +kernel
theorem dX6_bar_50 : decode cX6_bar 50 = .ok (.bipush 8, 2) := by decide +kernel
theorem dX6_bar_52 : decode cX6_bar 52 = .ok (.goto 5, 3) := by decide +kernel
theorem dX6_bar_55 : decode cX6_bar 55 = .ok (.iload 5, 2) := by decide +kernel
theorem dX6_bar_57 : decode cX6_bar 57 = .ok (.iadd, 1) := by decide +kernel
theorem dX6_bar_58 : decode cX6_bar 58 = .ok (.istore 8, 2) := by decide +kernel
theorem dX6_bar_60 : decode cX6_bar 60 = .ok (.aload_n 0, 1) := by decide +kernel
theorem dX6_bar_61 : decode cX6_bar 61 = .ok (.getfield 72, 3) := by decide +kernel
theorem dX6_bar_64 : decode cX6_bar 64 = .ok (.iload 7, 2) := by decide +kernel
theorem dX6_bar_66 : decode cX6_bar 66 = .ok (.iload 8, 2) := by decide +kernel
theorem dX6_bar_68 : decode cX6_bar 68 = .ok (.aload_n 0, 1) := by decide +kernel
theorem dX6_bar_69 : decode cX6_bar 69 = .ok (.getfield 72, 3) := by decide +kernel
theorem dX6_bar_72 : decode cX6_bar 72 = .ok (.iload 7, 2) := by decide +kernel
theorem dX6_bar_74 : decode cX6_bar 74 = .ok (.iaload, 1) := by decide +kernel
theorem dX6_bar_75 : decode cX6_bar 75 = .ok (.if_icmp .le 8, 3) := by decide +kernel
theorem dX6_bar_78 : decode cX6_bar 78 = .ok (.iload 8, 2) := by decide +kernel
theorem dX6_bar_80 : decode cX6_bar 80 = .ok (.goto 10, 3) := by decide +kernel
theorem dX6_bar_83 : decode cX6_bar 83 = .ok (.aload_n 0, 1) := by decide +kernel
theorem dX6_bar_84 : decode cX6_bar 84 = .ok (.getfield 72, 3) := by decide +kernel
theorem dX6_bar_87 : decode cX6_bar 87 = .ok (.iload 7, 2) := by decide +kernel
theorem dX6_bar_89 : decode cX6_bar 89 = .ok (.iaload, 1) := by decide +kernel
theorem dX6_bar_90 : decode cX6_bar 90 = .ok (.iastore, 1) := by decide +kernel
theorem dX6_bar_91 : decode cX6_bar 91 = .ok (.aload_n 0, 1) := by decide +kernel
theorem dX6_bar_92 : decode cX6_bar 92 = .ok (.getfield 75, 3) := by decide +kernel
theorem dX6_bar_95 : decode cX6_bar 95 = .ok (.iload 7, 2) := by decide +kernel
theorem dX6_bar_97 : decode cX6_bar 97 = .ok (.dup2, 1) := by decide +kernel
theorem dX6_bar_98 : decode cX6_bar 98 = .ok (.iaload, 1) := by decide +kernel
theorem dX6_bar_99 : decode cX6_bar 99 = .ok (.iconst 1, 1) := by decide +kernel
theorem dX6_bar_100 : decode cX6_bar 100 = .ok (.iload_n 2, 1) := by decide +kernel
theorem dX6_bar_101 : decode cX6_bar 101 = .ok (.ishl, 1) := by decide +kernel
theorem dX6_bar_102 : decode cX6_bar 102 = .ok (.ior, 1) := by decide +kernel
theorem dX6_bar_103 : decode cX6_bar 103 = .ok (.iastore, 1) := by decide +kernel
theorem dX6_bar_104 : decode cX6_bar 104 = .ok (.iinc 5 (-8), 3) := by decide +kernel
theorem dX6_bar_107 : decode cX6_bar 107 = .ok (.iinc 6 (-1), 3) := by decide +kernel
theorem dX6_bar_110 : decode cX6_bar 110 = .ok (.goto (-94), 3) := by decide +kernel
theorem dX6_bar_113 : decode cX6_bar 113 = .ok (.return_, 1) := by decide +kernel
set_option maxRecDepth 20000 in
theorem ggX6_endOf_X6_placeOf : GoodIn wsX6_endOf wsX6_placeOf := goodIn_r _ [5, 6, 7, 8, 9, 10, 11, 4, 12, 13, 14, 15, 16, 17, 18, 19, 20, 21, 22, 23, 24, 25, 26, 27, 28, 29, 30, 31, 32, 33, 34, 35, 36, 37, 38, 39, 40, 41, 42, 43, 44, 45, 46, 47, 48, 49, 50, 51, 52, 53, 54, 55, 56, 57, 58, 59] (by decide +kernel) (by decide +kernel)
set_option maxRecDepth 20000 in
theorem gX6_endOf_X6_placeOf : GoodIn wsX6_endOf (wsV RX6 131 RX6 yX6_placeOf wsX6_placeOf) := goodIn_app (goodIn_of _ (by decide +kernel)) ggX6_endOf_X6_placeOf
theorem dX6_endOf_0 : decode cX6_endOf 0 = .ok (.aload_n 0, 1) := by decide +kernel
theorem dX6_endOf_1 : decode cX6_endOf 1 = .ok (.iconst 1, 1) := by decide +kernel
theorem dX6_endOf_2 : decode cX6_endOf 2 = .ok (.iload_n 1, 1) := by decide +kernel
theorem dX6_endOf_3 : decode cX6_endOf 3 = .ok (.invokevirtual 131, 3) := by decide +kernel
theorem dX6_endOf_6 : decode cX6_endOf 6 = .ok (.istore_n 3, 1) := by decide +kernel
theorem dX6_endOf_7 : decode cX6_endOf 7 = .ok (.iload_n 3, 1) := by decide +kernel
theorem dX6_endOf_8 : decode cX6_endOf 8 = .ok (.ifCond .ge 7, 3) := by decide +kernel
theorem dX6_endOf_11 : decode cX6_endOf 11 = .ok (.iload_n 2, 1) := by decide +kernel
theorem dX6_endOf_12 : decode cX6_endOf 12 = .ok (.goto 4, 3) := by decide +kernel
theorem dX6_endOf_15 : decode cX6_endOf 15 = .ok (.iload_n 3, 1) := by decide +kernel
theorem dX6_endOf_16 : decode cX6_endOf 16 = .ok (.ireturn, 1) := by decide +kernel
set_option maxRecDepth 20000 in
theorem ggX6_drawsPoint_X6_across : GoodIn wsX6_drawsPoint wsX6_across := goodIn_r _ [11, 12, 13, 14, 15, 10, 16, 17, 18, 19, 20, 21, 22, 23, 24, 25, 26, 27, 28, 29, 30, 31, 32, 33, 34, 35, 36, 37, 38, 39, 40, 41, 42, 43, 44, 77, 78, 79, 80, 81, 82, 83, 84, 85, 86, 87, 88, 89, 90, 91, 92, 93, 94, 95, 96, 97, 98, 99, 100, 101, 102] (by decide +kernel) (by decide +kernel)
set_option maxRecDepth 20000 in
theorem gX6_drawsPoint_X6_across : GoodIn wsX6_drawsPoint (wsV RX6 162 RX6 yX6_across wsX6_across) := goodIn_app (goodIn_of _ (by decide +kernel)) ggX6_drawsPoint_X6_across
set_option maxRecDepth 20000 in
theorem ggX6_drawsPoint_X6_upwards : GoodIn wsX6_drawsPoint wsX6_upwards := goodIn_r _ [48, 5, 13, 14, 15, 10, 16, 17, 18, 19, 20, 21, 22, 23, 24, 25, 26, 27, 28, 29, 30, 31, 32, 33, 34, 35, 36, 37, 38, 39, 40, 41, 42, 43, 44, 77, 78, 79, 80, 81, 82, 83, 84, 85, 86, 87, 88, 89, 90, 91, 92, 93, 94, 95, 96, 97, 98, 99, 100, 101, 102] (by decide +kernel) (by decide +kernel)
set_option maxRecDepth 20000 in
theorem gX6_drawsPoint_X6_upwards : GoodIn wsX6_drawsPoint (wsV RX6 165 RX6 yX6_upwards wsX6_upwards) := goodIn_app (goodIn_of _ (by decide +kernel)) ggX6_drawsPoint_X6_upwards
set_option maxRecDepth 20000 in
theorem ggX6_drawsPoint_X6_isSeen : GoodIn wsX6_drawsPoint wsX6_isSeen := goodIn_r _ [52, 53, 7, 8, 9, 10, 11, 12, 13, 14, 15, 16, 17, 18, 19, 20, 21, 22, 23, 24, 25, 26, 27, 28, 29, 30, 31, 32, 33, 34, 35, 36, 37, 38, 39, 40, 41, 42, 43, 44, 45, 46, 47, 48, 5, 77, 78, 79, 80, 81, 82, 83, 84, 85, 86, 87, 88, 89, 90, 91, 92, 93, 94, 95, 96, 97, 98, 99, 100, 101, 102] (by decide +kernel) (by decide +kernel)
set_option maxRecDepth 20000 in
theorem gX6_drawsPoint_X6_isSeen : GoodIn wsX6_drawsPoint (wsV RX6 171 RX6 yX6_isSeen wsX6_isSeen) := goodIn_app (goodIn_of _ (by decide +kernel)) ggX6_drawsPoint_X6_isSeen
set_option maxRecDepth 20000 in
theorem ggX6_drawsPoint_X6_cellOf : GoodIn wsX6_drawsPoint wsX6_cellOf := goodIn_r _ [57, 44, 43, 77, 78, 79, 80, 81, 82, 83, 84, 85, 86, 87, 88, 89, 90, 91, 92, 93, 94, 95, 96, 97, 98, 99, 100, 101, 102] (by decide +kernel) (by decide +kernel)
set_option maxRecDepth 20000 in
theorem gX6_drawsPoint_X6_cellOf : GoodIn wsX6_drawsPoint (wsV RX6 177 RX6 yX6_cellOf wsX6_cellOf) := goodIn_app (goodIn_of _ (by decide +kernel)) ggX6_drawsPoint_X6_cellOf
set_option maxRecDepth 20000 in
theorem ggX6_drawsPoint_X6_lineOf : GoodIn wsX6_drawsPoint wsX6_lineOf := goodIn_r _ [61, 62, 63, 10, 64, 65, 66, 67, 68, 2, 4, 54, 55, 56, 57, 44, 43, 77, 78, 79, 80, 81, 82, 83, 84, 85, 86, 87, 88, 89, 90, 91, 92, 93, 94, 95, 96, 97, 98, 99, 100, 101, 102] (by decide +kernel) (by decide +kernel)
set_option maxRecDepth 20000 in
theorem gX6_drawsPoint_X6_lineOf : GoodIn wsX6_drawsPoint (wsV RX6 184 RX6 yX6_lineOf wsX6_lineOf) := goodIn_app (goodIn_of _ (by decide +kernel)) ggX6_drawsPoint_X6_lineOf
set_option maxRecDepth 20000 in
theorem ggX6_drawsPoint_X6_bar : GoodIn wsX6_drawsPoint wsX6_bar := goodIn_r _ [72, 44, 43, 2, 4, 77, 78, 79, 80, 81, 82, 83, 84, 85, 86, 87, 88, 89, 90, 91, 92, 93, 94, 95, 96, 97, 98, 99, 100, 101, 102] (by decide +kernel) (by decide +kernel)
set_option maxRecDepth 20000 in
theorem gX6_drawsPoint_X6_bar : GoodIn wsX6_drawsPoint (wsV RX6 188 RX6 yX6_bar wsX6_bar) := goodIn_app (goodIn_of _ (by decide +kernel)) ggX6_drawsPoint_X6_bar
set_option maxRecDepth 20000 in
theorem ggX6_drawsPoint_X6_endOf : GoodIn wsX6_drawsPoint wsX6_endOf := goodIn_r _ [76, 13, 14, 15, 10, 16, 17, 18, 19, 20, 21, 22, 23, 24, 25, 26, 27, 28, 29, 30, 31, 32, 33, 34, 35, 36, 37, 38, 39, 40, 41, 42, 43, 44, 77, 78, 79, 80, 81, 82, 83, 84, 85, 86, 87, 88, 89, 90, 91, 92, 93, 94, 95, 96, 97, 98, 99, 100, 101, 102] (by decide +kernel) (by decide +kernel)
set_option maxRecDepth 20000 in
theorem gX6_drawsPoint_X6_endOf : GoodIn wsX6_drawsPoint (wsV RX6 191 RX6 yX6_endOf wsX6_endOf) := goodIn_app (goodIn_of _ (by decide +kernel)) ggX6_drawsPoint_X6_endOf
theorem dX6_drawsPoint_0 : decode cX6_drawsPoint 0 = .ok (.aload_n 0, 1) := by decide +kernel
theorem dX6_drawsPoint_1 : decode cX6_drawsPoint 1 = .ok (.iload_n 1, 1) := by decide +kernel
theorem dX6_drawsPoint_2 : decode cX6_drawsPoint 2 = .ok (.iload_n 2, 1) := by decide +kernel
theorem dX6_drawsPoint_3 : decode cX6_drawsPoint 3 = .ok (.invokevirtual 162, 3) := by decide +kernel
theorem dX6_drawsPoint_6 : decode cX6_drawsPoint 6 = .ok (.istore_n 3, 1) := by decide +kernel
theorem dX6_drawsPoint_7 : decode cX6_drawsPoint 7 = .ok (.aload_n 0, 1) := by decide +kernel
theorem dX6_drawsPoint_8 : decode cX6_drawsPoint 8 = .ok (.iload_n 1, 1) := by decide +kernel
theorem dX6_drawsPoint_9 : decode cX6_drawsPoint 9 = .ok (.iload_n 2, 1) := by decide +kernel
theorem dX6_drawsPoint_10 : decode cX6_drawsPoint 10 = .ok (.invokevirtual 165, 3) := by decide +kernel
theorem dX6_drawsPoint_13 : decode cX6_drawsPoint 13 = .ok (.istore 4, 2) := by decide +kernel
theorem dX6_drawsPoint_15 : decode cX6_drawsPoint 15 = .ok (.aload_n 0, 1) := by decide +kernel
theorem dX6_drawsPoint_16 : decode cX6_drawsPoint 16 = .ok (.iload_n 1, 1) := by decide +kernel
theorem dX6_drawsPoint_17 : decode cX6_drawsPoint 17 = .ok (.iload_n 2, 1) := by decide +kernel
theorem dX6_drawsPoint_18 : decode cX6_drawsPoint 18 = .ok (.iconst 1, 1) := by decide +kernel
theorem dX6_drawsPoint_19 : decode cX6_drawsPoint 19 = .ok (.isub, 1) := by decide +kernel
theorem dX6_drawsPoint_20 : decode cX6_drawsPoint 20 = .ok (.invokevirtual 171, 3) := by decide +kernel
theorem dX6_drawsPoint_23 : decode cX6_drawsPoint 23 = .ok (.istore 5, 2) := by decide +kernel
theorem dX6_drawsPoint_25 : decode cX6_drawsPoint 25 = .ok (.iload 5, 2) := by decide +kernel
theorem dX6_drawsPoint_27 : decode cX6_drawsPoint 27 = .ok (.ifCond .eq 14, 3) := by decide +kernel
theorem dX6_drawsPoint_30 : decode cX6_drawsPoint 30 = .ok (.aload_n 0, 1) := by decide +kernel
theorem dX6_drawsPoint_31 : decode cX6_drawsPoint 31 = .ok (.iload_n 1, 1) := by decide +kernel
theorem dX6_drawsPoint_32 : decode cX6_drawsPoint 32 = .ok (.iload_n 2, 1) := by decide +kernel
theorem dX6_drawsPoint_33 : decode cX6_drawsPoint 33 = .ok (.iconst 1, 1) := by decide +kernel
theorem dX6_drawsPoint_34 : decode cX6_drawsPoint 34 = .ok (.isub, 1) := by decide +kernel
theorem dX6_drawsPoint_35 : decode cX6_drawsPoint 35 = .ok (.invokevirtual 162, 3) := by decide +kernel
theorem dX6_drawsPoint_38 : decode cX6_drawsPoint 38 = .ok (.goto 4, 3) := by decide +kernel
theorem dX6_drawsPoint_41 : decode cX6_drawsPoint 41 = .ok (.iload_n 3, 1) := by decide +kernel
theorem dX6_drawsPoint_42 : decode cX6_drawsPoint 42 = .ok (.istore 6, 2) := by decide +kernel
theorem dX6_drawsPoint_44 : decode cX6_drawsPoint 44 = .ok (.iload 5, 2) := by decide +kernel
theorem dX6_drawsPoint_46 : decode cX6_drawsPoint 46 = .ok (.ifCond .eq 14, 3) := by decide +kernel
theorem dX6_drawsPoint_49 : decode cX6_drawsPoint 49 = .ok (.aload_n 0, 1) := by decide +kernel
theorem dX6_drawsPoint_50 : decode cX6_drawsPoint 50 = .ok (.iload_n 1, 1) := by decide +kernel
theorem dX6_drawsPoint_51 : decode cX6_drawsPoint 51 = .ok (.iload_n 2, 1) := by decide +kernel
theorem dX6_drawsPoint_52 : decode cX6_drawsPoint 52 = .ok (.iconst 1, 1) := by decide +kernel
theorem dX6_drawsPoint_53 : decode cX6_drawsPoint 53 = .ok (.isub, 1) := by decide +kernel
theorem dX6_drawsPoint_54 : decode cX6_drawsPoint 54 = .ok (.invokevirtual 165, 3) := by decide +kernel
theorem dX6_drawsPoint_57 : decode cX6_drawsPoint 57 = .ok (.goto 5, 3) := by decide +kernel
theorem dX6_drawsPoint_60 : decode cX6_drawsPoint 60 = .ok (.iload 4, 2) := by decide +kernel
theorem dX6_drawsPoint_62 : decode cX6_drawsPoint 62 = .ok (.istore 7, 2) := by decide +kernel
theorem dX6_drawsPoint_64 : decode cX6_drawsPoint 64 = .ok (.bipush 24, 2) := by decide +kernel
theorem dX6_drawsPoint_66 : decode cX6_drawsPoint 66 = .ok (.iload_n 1, 1) := by decide +kernel
theorem dX6_drawsPoint_67 : decode cX6_drawsPoint 67 = .ok (.imul, 1) := by decide +kernel
theorem dX6_drawsPoint_68 : decode cX6_drawsPoint 68 = .ok (.iload_n 2, 1) := by decide +kernel
theorem dX6_drawsPoint_69 : decode cX6_drawsPoint 69 = .ok (.iadd, 1) := by decide +kernel
theorem dX6_drawsPoint_70 : decode cX6_drawsPoint 70 = .ok (.istore 8, 2) := by decide +kernel
theorem dX6_drawsPoint_72 : decode cX6_drawsPoint 72 = .ok (.aload_n 0, 1) := by decide +kernel
theorem dX6_drawsPoint_73 : decode cX6_drawsPoint 73 = .ok (.getfield 32, 3) := by decide +kernel
theorem dX6_drawsPoint_76 : decode cX6_drawsPoint 76 = .ok (.iload_n 1, 1) := by decide +kernel
theorem dX6_drawsPoint_77 : decode cX6_drawsPoint 77 = .ok (.iaload, 1) := by decide +kernel
theorem dX6_drawsPoint_78 : decode cX6_drawsPoint 78 = .ok (.tableswitch 137 0 3 #[30, 81, 97, 125], 30) := by decide +kernel
theorem dX6_drawsPoint_108 : decode cX6_drawsPoint 108 = .ok (.aload_n 0, 1) := by decide +kernel
theorem dX6_drawsPoint_109 : decode cX6_drawsPoint 109 = .ok (.getfield 72, 3) := by decide +kernel
theorem dX6_drawsPoint_112 : decode cX6_drawsPoint 112 = .ok (.sipush 640, 3) := by decide +kernel
theorem dX6_drawsPoint_115 : decode cX6_drawsPoint 115 = .ok (.iload_n 1, 1) := by decide +kernel
theorem dX6_drawsPoint_116 : decode cX6_drawsPoint 116 = .ok (.imul, 1) := by decide +kernel
theorem dX6_drawsPoint_117 : decode cX6_drawsPoint 117 = .ok (.aload_n 0, 1) := by decide +kernel
theorem dX6_drawsPoint_118 : decode cX6_drawsPoint 118 = .ok (.iload_n 3, 1) := by decide +kernel
theorem dX6_drawsPoint_119 : decode cX6_drawsPoint 119 = .ok (.iload 4, 2) := by decide +kernel
theorem dX6_drawsPoint_121 : decode cX6_drawsPoint 121 = .ok (.invokevirtual 177, 3) := by decide +kernel
theorem dX6_drawsPoint_124 : decode cX6_drawsPoint 124 = .ok (.iadd, 1) := by decide +kernel
theorem dX6_drawsPoint_125 : decode cX6_drawsPoint 125 = .ok (.aload_n 0, 1) := by decide +kernel
theorem dX6_drawsPoint_126 : decode cX6_drawsPoint 126 = .ok (.getfield 38, 3) := by decide +kernel
theorem dX6_drawsPoint_129 : decode cX6_drawsPoint 129 = .ok (.iload_n 1, 1) := by decide +kernel
theorem dX6_drawsPoint_130 : decode cX6_drawsPoint 130 = .ok (.iaload, 1) := by decide +kernel
theorem dX6_drawsPoint_131 : decode cX6_drawsPoint 131 = .ok (.iastore, 1) := by decide +kernel
theorem dX6_drawsPoint_132 : decode cX6_drawsPoint 132 = .ok (.aload_n 0, 1) := by decide +kernel
theorem dX6_drawsPoint_133 : decode cX6_drawsPoint 133 = .ok (.getfield 75, 3) := by decide +kernel
theorem dX6_drawsPoint_136 : decode cX6_drawsPoint 136 = .ok (.sipush 640, 3) := by decide +kernel
theorem dX6_drawsPoint_139 : decode cX6_drawsPoint 139 = .ok (.iload_n 1, 1) := by decide +kernel
theorem dX6_drawsPoint_140 : decode cX6_drawsPoint 140 = .ok (.imul, 1) := by decide +kernel
theorem dX6_drawsPoint_141 : decode cX6_drawsPoint 141 = .ok (.aload_n 0, 1) := by decide +kernel
theorem dX6_drawsPoint_142 : decode cX6_drawsPoint 142 = .ok (.iload_n 3, 1) := by decide +kernel
theorem dX6_drawsPoint_143 : decode cX6_drawsPoint 143 = .ok (.iload 4, 2) := by decide +kernel
theorem dX6_drawsPoint_145 : decode cX6_drawsPoint 145 = .ok (.invokevirtual 177, 3) := by decide +kernel
theorem dX6_drawsPoint_148 : decode cX6_drawsPoint 148 = .ok (.iadd, 1) := by decide +kernel
theorem dX6_drawsPoint_149 : decode cX6_drawsPoint 149 = .ok (.dup2, 1) := by decide +kernel
theorem dX6_drawsPoint_150 : decode cX6_drawsPoint 150 = .ok (.iaload, 1) := by decide +kernel
theorem dX6_drawsPoint_151 : decode cX6_drawsPoint 151 = .ok (.iconst 1, 1) := by decide +kernel
theorem dX6_drawsPoint_152 : decode cX6_drawsPoint 152 = .ok (.iload_n 2, 1) := by decide +kernel
theorem dX6_drawsPoint_153 : decode cX6_drawsPoint 153 = .ok (.ishl, 1) := by decide +kernel
theorem dX6_drawsPoint_154 : decode cX6_drawsPoint 154 = .ok (.ior, 1) := by decide +kernel
theorem dX6_drawsPoint_155 : decode cX6_drawsPoint 155 = .ok (.iastore, 1) := by decide +kernel
theorem dX6_drawsPoint_156 : decode cX6_drawsPoint 156 = .ok (.goto 109, 3) := by decide +kernel
theorem dX6_drawsPoint_159 : decode cX6_drawsPoint 159 = .ok (.aload_n 0, 1) := by decide +kernel
theorem dX6_drawsPoint_160 : decode cX6_drawsPoint 160 = .ok (.iload_n 1, 1) := by decide +kernel
theorem dX6_drawsPoint_161 : decode cX6_drawsPoint 161 = .ok (.iload_n 2, 1) := by decide +kernel
theorem dX6_drawsPoint_162 : decode cX6_drawsPoint 162 = .ok (.iload 6, 2) := by decide +kernel
theorem dX6_drawsPoint_164 : decode cX6_drawsPoint 164 = .ok (.iload 7, 2) := by decide +kernel
theorem dX6_drawsPoint_166 : decode cX6_drawsPoint 166 = .ok (.iload_n 3, 1) := by decide +kernel
theorem dX6_drawsPoint_167 : decode cX6_drawsPoint 167 = .ok (.iload 4, 2) := by decide +kernel
theorem dX6_drawsPoint_169 : decode cX6_drawsPoint 169 = .ok (.invokevirtual 184, 3) := by decide +kernel
theorem dX6_drawsPoint_172 : decode cX6_drawsPoint 172 = .ok (.goto 93, 3) := by decide +kernel
theorem dX6_drawsPoint_175 : decode cX6_drawsPoint 175 = .ok (.aload_n 0, 1) := by decide +kernel
theorem dX6_drawsPoint_176 : decode cX6_drawsPoint 176 = .ok (.iload_n 1, 1) := by decide +kernel
theorem dX6_drawsPoint_177 : decode cX6_drawsPoint 177 = .ok (.iload_n 2, 1) := by decide +kernel
theorem dX6_drawsPoint_178 : decode cX6_drawsPoint 178 = .ok (.iload 6, 2) := by decide +kernel
theorem dX6_drawsPoint_180 : decode cX6_drawsPoint 180 = .ok (.iload 7, 2) := by decide +kernel
theorem dX6_drawsPoint_182 : decode cX6_drawsPoint 182 = .ok (.iload_n 3, 1) := by decide +kernel
theorem dX6_drawsPoint_183 : decode cX6_drawsPoint 183 = .ok (.iload 7, 2) := by decide +kernel
theorem dX6_drawsPoint_185 : decode cX6_drawsPoint 185 = .ok (.invokevirtual 184, 3) := by decide +kernel
theorem dX6_drawsPoint_188 : decode cX6_drawsPoint 188 = .ok (.aload_n 0, 1) := by decide +kernel
theorem dX6_drawsPoint_189 : decode cX6_drawsPoint 189 = .ok (.iload_n 1, 1) := by decide +kernel
theorem dX6_drawsPoint_190 : decode cX6_drawsPoint 190 = .ok (.iload_n 2, 1) := by decide +kernel
theorem dX6_drawsPoint_191 : decode cX6_drawsPoint 191 = .ok (.iload_n 3, 1) := by decide +kernel
theorem dX6_drawsPoint_192 : decode cX6_drawsPoint 192 = .ok (.iload 7, 2) := by decide +kernel
theorem dX6_drawsPoint_194 : decode cX6_drawsPoint 194 = .ok (.iload_n 3, 1) := by decide +kernel
theorem dX6_drawsPoint_195 : decode cX6_drawsPoint 195 = .ok (.iload 4, 2) := by decide +kernel
theorem dX6_drawsPoint_197 : decode cX6_drawsPoint 197 = .ok (.invokevirtual 184, 3) := by decide +kernel
theorem dX6_drawsPoint_200 : decode cX6_drawsPoint 200 = .ok (.goto 65, 3) := by decide +kernel
theorem dX6_drawsPoint_203 : decode cX6_drawsPoint 203 = .ok (.aload_n 0, 1) := by decide +kernel
theorem dX6_drawsPoint_204 : decode cX6_drawsPoint 204 = .ok (.iload_n 1, 1) := by decide +kernel
theorem dX6_drawsPoint_205 : decode cX6_drawsPoint 205 = .ok (.iload_n 2, 1) := by decide +kernel
theorem dX6_drawsPoint_206 : decode cX6_drawsPoint 206 = .ok (.iload_n 3, 1) := by decide +kernel
theorem dX6_drawsPoint_207 : decode cX6_drawsPoint 207 = .ok (.iload 4, 2) := by decide +kernel
theorem dX6_drawsPoint_209 : decode cX6_drawsPoint 209 = .ok (.invokevirtual 188, 3) := by decide +kernel
theorem dX6_drawsPoint_212 : decode cX6_drawsPoint 212 = .ok (.goto 53, 3) := by decide +kernel
theorem dX6_drawsPoint_215 : decode cX6_drawsPoint 215 = .ok (.aload_n 0, 1) := by decide +kernel
theorem dX6_drawsPoint_216 : decode cX6_drawsPoint 216 = .ok (.iload_n 1, 1) := by decide +kernel
theorem dX6_drawsPoint_217 : decode cX6_drawsPoint 217 = .ok (.iload_n 2, 1) := by decide +kernel
theorem dX6_drawsPoint_218 : decode cX6_drawsPoint 218 = .ok (.iload_n 3, 1) := by decide +kernel
theorem dX6_drawsPoint_219 : decode cX6_drawsPoint 219 = .ok (.aload_n 0, 1) := by decide +kernel
theorem dX6_drawsPoint_220 : decode cX6_drawsPoint 220 = .ok (.aload_n 0, 1) := by decide +kernel
theorem dX6_drawsPoint_221 : decode cX6_drawsPoint 221 = .ok (.getfield 47, 3) := by decide +kernel
theorem dX6_drawsPoint_224 : decode cX6_drawsPoint 224 = .ok (.iload 8, 2) := by decide +kernel
theorem dX6_drawsPoint_226 : decode cX6_drawsPoint 226 = .ok (.iaload, 1) := by decide +kernel
theorem dX6_drawsPoint_227 : decode cX6_drawsPoint 227 = .ok (.aload_n 0, 1) := by decide +kernel
theorem dX6_drawsPoint_228 : decode cX6_drawsPoint 228 = .ok (.getfield 50, 3) := by decide +kernel
theorem dX6_drawsPoint_231 : decode cX6_drawsPoint 231 = .ok (.iload 8, 2) := by decide +kernel
theorem dX6_drawsPoint_233 : decode cX6_drawsPoint 233 = .ok (.iaload, 1) := by decide +kernel
theorem dX6_drawsPoint_234 : decode cX6_drawsPoint 234 = .ok (.isub, 1) := by decide +kernel
theorem dX6_drawsPoint_235 : decode cX6_drawsPoint 235 = .ok (.iload 4, 2) := by decide +kernel
theorem dX6_drawsPoint_237 : decode cX6_drawsPoint 237 = .ok (.invokevirtual 191, 3) := by decide +kernel
theorem dX6_drawsPoint_240 : decode cX6_drawsPoint 240 = .ok (.iload_n 3, 1) := by decide +kernel
theorem dX6_drawsPoint_241 : decode cX6_drawsPoint 241 = .ok (.aload_n 0, 1) := by decide +kernel
theorem dX6_drawsPoint_242 : decode cX6_drawsPoint 242 = .ok (.aload_n 0, 1) := by decide +kernel
theorem dX6_drawsPoint_243 : decode cX6_drawsPoint 243 = .ok (.getfield 47, 3) := by decide +kernel
theorem dX6_drawsPoint_246 : decode cX6_drawsPoint 246 = .ok (.iload 8, 2) := by decide +kernel
theorem dX6_drawsPoint_248 : decode cX6_drawsPoint 248 = .ok (.iaload, 1) := by decide +kernel
theorem dX6_drawsPoint_249 : decode cX6_drawsPoint 249 = .ok (.aload_n 0, 1) := by decide +kernel
theorem dX6_drawsPoint_250 : decode cX6_drawsPoint 250 = .ok (.getfield 50, 3) := by decide +kernel
theorem dX6_drawsPoint_253 : decode cX6_drawsPoint 253 = .ok (.iload 8, 2) := by decide +kernel
theorem dX6_drawsPoint_255 : decode cX6_drawsPoint 255 = .ok (.iaload, 1) := by decide +kernel
theorem dX6_drawsPoint_256 : decode cX6_drawsPoint 256 = .ok (.iadd, 1) := by decide +kernel
theorem dX6_drawsPoint_257 : decode cX6_drawsPoint 257 = .ok (.iload 4, 2) := by decide +kernel
theorem dX6_drawsPoint_259 : decode cX6_drawsPoint 259 = .ok (.invokevirtual 191, 3) := by decide +kernel
theorem dX6_drawsPoint_262 : decode cX6_drawsPoint 262 = .ok (.invokevirtual 184, 3) := by decide +kernel
theorem dX6_drawsPoint_265 : decode cX6_drawsPoint 265 = .ok (.return_, 1) := by decide +kernel
set_option maxRecDepth 20000 in
theorem ggX6_draws_X6_isSeen : GoodIn wsX6_draws wsX6_isSeen := goodIn_r _ [10, 11, 12, 13, 14, 9, 15, 16, 17, 18, 19, 20, 21, 22, 23, 24, 25, 26, 27, 28, 29, 30, 31, 32, 33, 34, 35, 36, 37, 38, 39, 40, 41, 42, 43, 44, 45, 46, 47, 48, 49, 50, 51, 52, 53, 84, 85, 86, 87, 88, 89, 90, 91, 92, 93, 94, 95, 96, 97, 98, 99, 100, 101, 102, 103, 104, 105, 106, 107, 108, 109] (by decide +kernel) (by decide +kernel)
set_option maxRecDepth 20000 in
theorem gX6_draws_X6_isSeen : GoodIn wsX6_draws (wsV RX6 171 RX6 yX6_isSeen wsX6_isSeen) := goodIn_app (goodIn_of _ (by decide +kernel)) ggX6_draws_X6_isSeen
set_option maxRecDepth 20000 in
theorem ggX6_draws_X6_drawsPoint : GoodIn wsX6_draws wsX6_drawsPoint := goodIn_r _ [57, 58, 2, 59, 3, 53, 60, 12, 13, 14, 9, 15, 16, 17, 18, 19, 20, 21, 22, 23, 24, 25, 26, 27, 28, 29, 30, 31, 32, 33, 34, 35, 36, 37, 38, 39, 40, 41, 42, 43, 44, 45, 46, 47, 48, 49, 50, 51, 52, 6, 7, 8, 10, 11, 61, 62, 63, 64, 65, 66, 67, 68, 69, 70, 71, 72, 73, 74, 75, 76, 77, 78, 79, 80, 81, 82, 83, 84, 85, 86, 87, 88, 89, 90, 91, 92, 93, 94, 95, 96, 97, 98, 99, 100, 101, 102, 103, 104, 105, 106, 107, 108, 109] (by decide +kernel) (by decide +kernel)
set_option maxRecDepth 20000 in
theorem gX6_draws_X6_drawsPoint : GoodIn wsX6_draws (wsV RX6 194 RX6 yX6_drawsPoint wsX6_drawsPoint) := goodIn_app (goodIn_of _ (by decide +kernel)) ggX6_draws_X6_drawsPoint
theorem dX6_draws_0 : decode cX6_draws 0 = .ok (.aload_n 0, 1) := by decide +kernel
theorem dX6_draws_1 : decode cX6_draws 1 = .ok (.getfield 93, 3) := by decide +kernel
theorem dX6_draws_4 : decode cX6_draws 4 = .ok (.ifCond .eq 4, 3) := by decide +kernel
theorem dX6_draws_7 : decode cX6_draws 7 = .ok (.return_, 1) := by decide +kernel
theorem dX6_draws_8 : decode cX6_draws 8 = .ok (.aload_n 0, 1) := by decide +kernel
theorem dX6_draws_9 : decode cX6_draws 9 = .ok (.iconst 1, 1) := by decide +kernel
theorem dX6_draws_10 : decode cX6_draws 10 = .ok (.putfield 93, 3) := by decide +kernel
theorem dX6_draws_13 : decode cX6_draws 13 = .ok (.iconst 0, 1) := by decide +kernel
theorem dX6_draws_14 : decode cX6_draws 14 = .ok (.istore_n 1, 1) := by decide +kernel
theorem dX6_draws_15 : decode cX6_draws 15 = .ok (.iload_n 1, 1) := by decide +kernel
theorem dX6_draws_16 : decode cX6_draws 16 = .ok (.sipush 3840, 3) := by decide +kernel
theorem dX6_draws_19 : decode cX6_draws 19 = .ok (.if_icmp .ge 23, 3) := by decide +kernel
theorem dX6_draws_22 : decode cX6_draws 22 = .ok (.aload_n 0, 1) := by decide +kernel
theorem dX6_draws_23 : decode cX6_draws 23 = .ok (.getfield 72, 3) := by decide +kernel
theorem dX6_draws_26 : decode cX6_draws 26 = .ok (.iload_n 1, 1) := by decide +kernel
theorem dX6_draws_27 : decode cX6_draws 27 = .ok (.iconst 0, 1) := by decide +kernel
theorem dX6_draws_28 : decode cX6_draws 28 = .ok (.iastore, 1) := by decide +kernel
theorem dX6_draws_29 : decode cX6_draws 29 = .ok (.aload_n 0, 1) := by decide +kernel
theorem dX6_draws_30 : decode cX6_draws 30 = .ok (.getfield 75, 3) := by decide +kernel
theorem dX6_draws_33 : decode cX6_draws 33 = .ok (.iload_n 1, 1) := by decide +kernel
theorem dX6_draws_34 : decode cX6_draws 34 = .ok (.iconst 0, 1) := by decide +kernel
theorem dX6_draws_35 : decode cX6_draws 35 = .ok (.iastore, 1) := by decide +kernel
theorem dX6_draws_36 : decode cX6_draws 36 = .ok (.iinc 1 1, 3) := by decide +kernel
theorem dX6_draws_39 : decode cX6_draws 39 = .ok (.goto (-24), 3) := by decide +kernel
theorem dX6_draws_42 : decode cX6_draws 42 = .ok (.iconst 0, 1) := by decide +kernel
theorem dX6_draws_43 : decode cX6_draws 43 = .ok (.istore_n 1, 1) := by decide +kernel
theorem dX6_draws_44 : decode cX6_draws 44 = .ok (.iload_n 1, 1) := by decide +kernel
theorem dX6_draws_45 : decode cX6_draws 45 = .ok (.aload_n 0, 1) := by decide +kernel
theorem dX6_draws_46 : decode cX6_draws 46 = .ok (.getfield 81, 3) := by decide +kernel
theorem dX6_draws_49 : decode cX6_draws 49 = .ok (.if_icmp .ge 42, 3) := by decide +kernel
theorem dX6_draws_52 : decode cX6_draws 52 = .ok (.iconst 0, 1) := by decide +kernel
theorem dX6_draws_53 : decode cX6_draws 53 = .ok (.istore_n 2, 1) := by decide +kernel
theorem dX6_draws_54 : decode cX6_draws 54 = .ok (.iload_n 2, 1) := by decide +kernel
theorem dX6_draws_55 : decode cX6_draws 55 = .ok (.aload_n 0, 1) := by decide +kernel
theorem dX6_draws_56 : decode cX6_draws 56 = .ok (.getfield 41, 3) := by decide +kernel
theorem dX6_draws_59 : decode cX6_draws 59 = .ok (.iload_n 1, 1) := by decide +kernel
theorem dX6_draws_60 : decode cX6_draws 60 = .ok (.iaload, 1) := by decide +kernel
theorem dX6_draws_61 : decode cX6_draws 61 = .ok (.if_icmp .ge 24, 3) := by decide +kernel
theorem dX6_draws_64 : decode cX6_draws 64 = .ok (.aload_n 0, 1) := by decide +kernel
theorem dX6_draws_65 : decode cX6_draws 65 = .ok (.iload_n 1, 1) := by decide +kernel
theorem dX6_draws_66 : decode cX6_draws 66 = .ok (.iload_n 2, 1) := by decide +kernel
theorem dX6_draws_67 : decode cX6_draws 67 = .ok (.invokevirtual 171, 3) := by decide +kernel
theorem dX6_draws_70 : decode cX6_draws 70 = .ok (.ifCond .eq 9, 3) := by decide +kernel
theorem dX6_draws_73 : decode cX6_draws 73 = .ok (.aload_n 0, 1) := by decide +kernel
theorem dX6_draws_74 : decode cX6_draws 74 = .ok (.iload_n 1, 1) := by decide +kernel
theorem dX6_draws_75 : decode cX6_draws 75 = .ok (.iload_n 2, 1) := by decide +kernel
theorem dX6_draws_76 : decode cX6_draws 76 = .ok (.invokevirtual 194, 3) := by decide +kernel
theorem dX6_draws_79 : decode cX6_draws 79 = .ok (.iinc 2 1, 3) := by decide +kernel
theorem dX6_draws_82 : decode cX6_draws 82 = .ok (.goto (-28), 3) := by decide +kernel
theorem dX6_draws_85 : decode cX6_draws 85 = .ok (.iinc 1 1, 3) := by decide +kernel
theorem dX6_draws_88 : decode cX6_draws 88 = .ok (.goto (-44), 3) := by decide +kernel
theorem dX6_draws_91 : decode cX6_draws 91 = .ok (.return_, 1) := by decide +kernel
theorem dX6_latest_0 : decode cX6_latest 0 = .ok (.iconst (-1), 1) := by decide +kernel
theorem dX6_latest_1 : decode cX6_latest 1 = .ok (.istore_n 3, 1) := by decide +kernel
theorem dX6_latest_2 : decode cX6_latest 2 = .ok (.iconst 0, 1) := by decide +kernel
theorem dX6_latest_3 : decode cX6_latest 3 = .ok (.istore 4, 2) := by decide +kernel
theorem dX6_latest_5 : decode cX6_latest 5 = .ok (.iload 4, 2) := by decide +kernel
theorem dX6_latest_7 : decode cX6_latest 7 = .ok (.aload_n 0, 1) := by decide +kernel
theorem dX6_latest_8 : decode cX6_latest 8 = .ok (.getfield 81, 3) := by decide +kernel
theorem dX6_latest_11 : decode cX6_latest 11 = .ok (.if_icmp .ge 102, 3) := by decide +kernel
theorem dX6_latest_14 : decode cX6_latest 14 = .ok (.iload_n 2, 1) := by decide +kernel
theorem dX6_latest_15 : decode cX6_latest 15 = .ok (.ifCond .lt 41, 3) := by decide +kernel
theorem dX6_latest_18 : decode cX6_latest 18 = .ok (.aload_n 0, 1) := by decide +kernel
theorem dX6_latest_19 : decode cX6_latest 19 = .ok (.getfield 35, 3) := by decide +kernel
theorem dX6_latest_22 : decode cX6_latest 22 = .ok (.iload 4, 2) := by decide +kernel
theorem dX6_latest_24 : decode cX6_latest 24 = .ok (.iaload, 1) := by decide +kernel
theorem dX6_latest_25 : decode cX6_latest 25 = .ok (.aload_n 0, 1) := by decide +kernel
theorem dX6_latest_26 : decode cX6_latest 26 = .ok (.getfield 35, 3) := by decide +kernel
theorem dX6_latest_29 : decode cX6_latest 29 = .ok (.iload_n 2, 1) := by decide +kernel
theorem dX6_latest_30 : decode cX6_latest 30 = .ok (.iaload, 1) := by decide +kernel
theorem dX6_latest_31 : decode cX6_latest 31 = .ok (.if_icmp .lt 25, 3) := by decide +kernel
theorem dX6_latest_34 : decode cX6_latest 34 = .ok (.aload_n 0, 1) := by decide +kernel
theorem dX6_latest_35 : decode cX6_latest 35 = .ok (.getfield 35, 3) := by decide +kernel
theorem dX6_latest_38 : decode cX6_latest 38 = .ok (.iload 4, 2) := by decide +kernel
theorem dX6_latest_40 : decode cX6_latest 40 = .ok (.iaload, 1) := by decide +kernel
theorem dX6_latest_41 : decode cX6_latest 41 = .ok (.aload_n 0, 1) := by decide +kernel
theorem dX6_latest_42 : decode cX6_latest 42 = .ok (.getfield 35, 3) := by decide +kernel
theorem dX6_latest_45 : decode cX6_latest 45 = .ok (.iload_n 2, 1) := by decide +kernel
theorem dX6_latest_46 : decode cX6_latest 46 = .ok (.iaload, 1) := by decide +kernel
theorem dX6_latest_47 : decode cX6_latest 47 = .ok (.if_icmp .ne 13, 3) := by decide +kernel
theorem dX6_latest_50 : decode cX6_latest 50 = .ok (.iload 4, 2) := by decide +kernel
theorem dX6_latest_52 : decode cX6_latest 52 = .ok (.iload_n 2, 1) := by decide +kernel
theorem dX6_latest_53 : decode cX6_latest 53 = .ok (.if_icmp .ge 7, 3) := by decide +kernel
theorem dX6_latest_56 : decode cX6_latest 56 = .ok (.iconst 1, 1) := by decide +kernel
theorem dX6_latest_57 : decode cX6_latest 57 = .ok (.goto 4, 3) := by decide +kernel
theorem dX6_latest_60 : decode cX6_latest 60 = .ok (.iconst 0, 1) := by decide +kernel
theorem dX6_latest_61 : decode cX6_latest 61 = .ok (.istore 5, 2) := by decide +kernel
theorem dX6_latest_63 : decode cX6_latest 63 = .ok (.aload_n 0, 1) := by decide +kernel
theorem dX6_latest_64 : decode cX6_latest 64 = .ok (.getfield 75, 3) := by decide +kernel
theorem dX6_latest_67 : decode cX6_latest 67 = .ok (.sipush 640, 3) := by decide +kernel
theorem dX6_latest_70 : decode cX6_latest 70 = .ok (.iload 4, 2) := by decide +kernel
theorem dX6_latest_72 : decode cX6_latest 72 = .ok (.imul, 1) := by decide +kernel
theorem dX6_latest_73 : decode cX6_latest 73 = .ok (.iload_n 1, 1) := by decide +kernel
theorem dX6_latest_74 : decode cX6_latest 74 = .ok (.iadd, 1) := by decide +kernel
theorem dX6_latest_75 : decode cX6_latest 75 = .ok (.iaload, 1) := by decide +kernel
theorem dX6_latest_76 : decode cX6_latest 76 = .ok (.ifCond .eq 31, 3) := by decide +kernel
theorem dX6_latest_79 : decode cX6_latest 79 = .ok (.iload 5, 2) := by decide +kernel
theorem dX6_latest_81 : decode cX6_latest 81 = .ok (.ifCond .eq 26, 3) := by decide +kernel
theorem dX6_latest_84 : decode cX6_latest 84 = .ok (.iload_n 3, 1) := by decide +kernel
theorem dX6_latest_85 : decode cX6_latest 85 = .ok (.ifCond .lt 19, 3) := by decide +kernel
theorem dX6_latest_88 : decode cX6_latest 88 = .ok (.aload_n 0, 1) := by decide +kernel
theorem dX6_latest_89 : decode cX6_latest 89 = .ok (.getfield 35, 3) := by decide +kernel
theorem dX6_latest_92 : decode cX6_latest 92 = .ok (.iload 4, 2) := by decide +kernel
theorem dX6_latest_94 : decode cX6_latest 94 = .ok (.iaload, 1) := by decide +kernel
theorem dX6_latest_95 : decode cX6_latest 95 = .ok (.aload_n 0, 1) := by decide +kernel
theorem dX6_latest_96 : decode cX6_latest 96 = .ok (.getfield 35, 3) := by decide +kernel
theorem dX6_latest_99 : decode cX6_latest 99 = .ok (.iload_n 3, 1) := by decide +kernel
theorem dX6_latest_100 : decode cX6_latest 100 = .ok (.iaload, 1) := by decide +kernel
theorem dX6_latest_101 : decode cX6_latest 101 = .ok (.if_icmp .lt 6, 3) := by decide +kernel
theorem dX6_latest_104 : decode cX6_latest 104 = .ok (.iload 4, 2) := by decide +kernel
theorem dX6_latest_106 : decode cX6_latest 106 = .ok (.istore_n 3, 1) := by decide +kernel
theorem dX6_latest_107 : decode cX6_latest 107 = .ok (.iinc 4 1, 3) := by decide +kernel
theorem dX6_latest_110 : decode cX6_latest 110 = .ok (.goto (-105), 3) := by decide +kernel
theorem dX6_latest_113 : decode cX6_latest 113 = .ok (.iload_n 3, 1) := by decide +kernel
theorem dX6_latest_114 : decode cX6_latest 114 = .ok (.ireturn, 1) := by decide +kernel
set_option maxRecDepth 20000 in
theorem ggX6_isCell_X6_in : GoodIn wsX6_isCell wsX6_in := goodIn_r _ [6] (by decide +kernel) (by decide +kernel)
set_option maxRecDepth 20000 in
theorem gX6_isCell_X6_in : GoodIn wsX6_isCell (va_wsS RX6 86 yX6_in wsX6_in) := goodIn_app (goodIn_of _ (by decide +kernel)) ggX6_isCell_X6_in
theorem dX6_isCell_0 : decode cX6_isCell 0 = .ok (.iload_n 1, 1) := by decide +kernel
theorem dX6_isCell_1 : decode cX6_isCell 1 = .ok (.iconst 0, 1) := by decide +kernel
theorem dX6_isCell_2 : decode cX6_isCell 2 = .ok (.aload_n 0, 1) := by decide +kernel
theorem dX6_isCell_3 : decode cX6_isCell 3 = .ok (.getfield 7, 3) := by decide +kernel
theorem dX6_isCell_6 : decode cX6_isCell 6 = .ok (.iconst 1, 1) := by decide +kernel
theorem dX6_isCell_7 : decode cX6_isCell 7 = .ok (.isub, 1) := by decide +kernel
theorem dX6_isCell_8 : decode cX6_isCell 8 = .ok (.invokestatic 86, 3) := by decide +kernel
theorem dX6_isCell_11 : decode cX6_isCell 11 = .ok (.ifCond .eq 21, 3) := by decide +kernel
theorem dX6_isCell_14 : decode cX6_isCell 14 = .ok (.iload_n 2, 1) := by decide +kernel
theorem dX6_isCell_15 : decode cX6_isCell 15 = .ok (.iconst 0, 1) := by decide +kernel
theorem dX6_isCell_16 : decode cX6_isCell 16 = .ok (.aload_n 0, 1) := by decide +kernel
theorem dX6_isCell_17 : decode cX6_isCell 17 = .ok (.getfield 13, 3) := by decide +kernel
theorem dX6_isCell_20 : decode cX6_isCell 20 = .ok (.iconst 1, 1) := by decide +kernel
theorem dX6_isCell_21 : decode cX6_isCell 21 = .ok (.isub, 1) := by decide +kernel
theorem dX6_isCell_22 : decode cX6_isCell 22 = .ok (.invokestatic 86, 3) := by decide +kernel
theorem dX6_isCell_25 : decode cX6_isCell 25 = .ok (.ifCond .eq 7, 3) := by decide +kernel
theorem dX6_isCell_28 : decode cX6_isCell 28 = .ok (.iconst 1, 1) := by decide +kernel
theorem dX6_isCell_29 : decode cX6_isCell 29 = .ok (.goto 4, 3) := by decide +kernel
theorem dX6_isCell_32 : decode cX6_isCell 32 = .ok (.iconst 0, 1) := by decide +kernel
theorem dX6_isCell_33 : decode cX6_isCell 33 = .ok (.ireturn, 1) := by decide +kernel
set_option maxRecDepth 20000 in
theorem ggX6_labelAt_X6_in : GoodIn wsX6_labelAt wsX6_in := goodIn_r _ [8] (by decide +kernel) (by decide +kernel)
set_option maxRecDepth 20000 in
theorem gX6_labelAt_X6_in : GoodIn wsX6_labelAt (va_wsS RX6 86 yX6_in wsX6_in) := goodIn_app (goodIn_of _ (by decide +kernel)) ggX6_labelAt_X6_in
theorem dX6_labelAt_0 : decode cX6_labelAt 0 = .ok (.iconst 0, 1) := by decide +kernel
theorem dX6_labelAt_1 : decode cX6_labelAt 1 = .ok (.istore_n 3, 1) := by decide +kernel
theorem dX6_labelAt_2 : decode cX6_labelAt 2 = .ok (.iload_n 3, 1) := by decide +kernel
theorem dX6_labelAt_3 : decode cX6_labelAt 3 = .ok (.aload_n 0, 1) := by decide +kernel
theorem dX6_labelAt_4 : decode cX6_labelAt 4 = .ok (.getfield 90, 3) := by decide +kernel
theorem dX6_labelAt_7 : decode cX6_labelAt 7 = .ok (.if_icmp .ge 49, 3) := by decide +kernel
theorem dX6_labelAt_10 : decode cX6_labelAt 10 = .ok (.aload_n 0, 1) := by decide +kernel
theorem dX6_labelAt_11 : decode cX6_labelAt 11 = .ok (.getfield 60, 3) := by decide +kernel
theorem dX6_labelAt_14 : decode cX6_labelAt 14 = .ok (.iload_n 3, 1) := by decide +kernel
theorem dX6_labelAt_15 : decode cX6_labelAt 15 = .ok (.iaload, 1) := by decide +kernel
theorem dX6_labelAt_16 : decode cX6_labelAt 16 = .ok (.iload_n 2, 1) := by decide +kernel
theorem dX6_labelAt_17 : decode cX6_labelAt 17 = .ok (.if_icmp .ne 33, 3) := by decide +kernel
theorem dX6_labelAt_20 : decode cX6_labelAt 20 = .ok (.iload_n 1, 1) := by decide +kernel
theorem dX6_labelAt_21 : decode cX6_labelAt 21 = .ok (.aload_n 0, 1) := by decide +kernel
theorem dX6_labelAt_22 : decode cX6_labelAt 22 = .ok (.getfield 57, 3) := by decide +kernel
theorem dX6_labelAt_25 : decode cX6_labelAt 25 = .ok (.iload_n 3, 1) := by decide +kernel
theorem dX6_labelAt_26 : decode cX6_labelAt 26 = .ok (.iaload, 1) := by decide +kernel
theorem dX6_labelAt_27 : decode cX6_labelAt 27 = .ok (.aload_n 0, 1) := by decide +kernel
theorem dX6_labelAt_28 : decode cX6_labelAt 28 = .ok (.getfield 57, 3) := by decide +kernel
theorem dX6_labelAt_31 : decode cX6_labelAt 31 = .ok (.iload_n 3, 1) := by decide +kernel
theorem dX6_labelAt_32 : decode cX6_labelAt 32 = .ok (.iaload, 1) := by decide +kernel
theorem dX6_labelAt_33 : decode cX6_labelAt 33 = .ok (.aload_n 0, 1) := by decide +kernel
theorem dX6_labelAt_34 : decode cX6_labelAt 34 = .ok (.getfield 63, 3) := by decide +kernel
theorem dX6_labelAt_37 : decode cX6_labelAt 37 = .ok (.iload_n 3, 1) := by decide +kernel
theorem dX6_labelAt_38 : decode cX6_labelAt 38 = .ok (.iaload, 1) := by decide +kernel
theorem dX6_labelAt_39 : decode cX6_labelAt 39 = .ok (.iadd, 1) := by decide +kernel
theorem dX6_labelAt_40 : decode cX6_labelAt 40 = .ok (.iconst 1, 1) := by decide +kernel
theorem dX6_labelAt_41 : decode cX6_labelAt 41 = .ok (.isub, 1) := by decide +kernel
theorem dX6_labelAt_42 : decode cX6_labelAt 42 = .ok (.invokestatic 86, 3) := by decide +kernel
theorem dX6_labelAt_45 : decode cX6_labelAt 45 = .ok (.ifCond .eq 5, 3) := by decide +kernel
theorem dX6_labelAt_48 : decode cX6_labelAt 48 = .ok (.iload_n 3, 1) := by decide +kernel
theorem dX6_labelAt_49 : decode cX6_labelAt 49 = .ok (.ireturn, 1) := by decide +kernel
theorem dX6_labelAt_50 : decode cX6_labelAt 50 = .ok (.iinc 3 1, 3) := by decide +kernel
theorem dX6_labelAt_53 : decode cX6_labelAt 53 = .ok (.goto (-51), 3) := by decide +kernel
theorem dX6_labelAt_56 : decode cX6_labelAt 56 = .ok (.iconst (-1), 1) := by decide +kernel
theorem dX6_labelAt_57 : decode cX6_labelAt 57 = .ok (.ireturn, 1) := by decide +kernel
set_option maxRecDepth 20000 in
theorem ggX6_signAt_X6_labelAt : GoodIn wsX6_signAt wsX6_labelAt := goodIn_r _ [7, 8, 9, 10, 11, 12, 13, 6, 14, 22, 23, 24, 25, 26, 27, 28, 29, 30, 31, 32, 33, 34, 35, 36, 37, 38, 39, 40, 41, 42, 43, 44, 45, 46, 47] (by decide +kernel) (by decide +kernel)
set_option maxRecDepth 20000 in
theorem gX6_signAt_X6_labelAt : GoodIn wsX6_signAt (wsV RX6 198 RX6 yX6_labelAt wsX6_labelAt) := goodIn_app (goodIn_of _ (by decide +kernel)) ggX6_signAt_X6_labelAt
set_option maxRecDepth 20000 in
theorem ggX6_signAt_X6_latest : GoodIn wsX6_signAt wsX6_latest := goodIn_r _ [18, 19, 20, 21, 22, 23, 24, 25, 26, 27, 28, 29, 30, 31, 32, 33, 34, 35, 36, 37, 38, 39, 40, 41, 42, 43, 44, 45, 46, 47] (by decide +kernel) (by decide +kernel)
set_option maxRecDepth 20000 in
theorem gX6_signAt_X6_latest : GoodIn wsX6_signAt (wsV RX6 201 RX6 yX6_latest wsX6_latest) := goodIn_app (goodIn_of _ (by decide +kernel)) ggX6_signAt_X6_latest
theorem dX6_signAt_0 : decode cX6_signAt 0 = .ok (.aload_n 0, 1) := by decide +kernel
theorem dX6_signAt_1 : decode cX6_signAt 1 = .ok (.iload_n 1, 1) := by decide +kernel
theorem dX6_signAt_2 : decode cX6_signAt 2 = .ok (.iload_n 2, 1) := by decide +kernel
theorem dX6_signAt_3 : decode cX6_signAt 3 = .ok (.invokevirtual 198, 3) := by decide +kernel
theorem dX6_signAt_6 : decode cX6_signAt 6 = .ok (.istore_n 3, 1) := by decide +kernel
theorem dX6_signAt_7 : decode cX6_signAt 7 = .ok (.iload_n 3, 1) := by decide +kernel
theorem dX6_signAt_8 : decode cX6_signAt 8 = .ok (.ifCond .lt 9, 3) := by decide +kernel
theorem dX6_signAt_11 : decode cX6_signAt 11 = .ok (.sipush 8192, 3) := by decide +kernel
theorem dX6_signAt_14 : decode cX6_signAt 14 = .ok (.iload_n 3, 1) := by decide +kernel
theorem dX6_signAt_15 : decode cX6_signAt 15 = .ok (.iadd, 1) := by decide +kernel
theorem dX6_signAt_16 : decode cX6_signAt 16 = .ok (.ireturn, 1) := by decide +kernel
theorem dX6_signAt_17 : decode cX6_signAt 17 = .ok (.iload_n 2, 1) := by decide +kernel
theorem dX6_signAt_18 : decode cX6_signAt 18 = .ok (.aload_n 0, 1) := by decide +kernel
theorem dX6_signAt_19 : decode cX6_signAt 19 = .ok (.getfield 7, 3) := by decide +kernel
theorem dX6_signAt_22 : decode cX6_signAt 22 = .ok (.imul, 1) := by decide +kernel
theorem dX6_signAt_23 : decode cX6_signAt 23 = .ok (.iload_n 1, 1) := by decide +kernel
theorem dX6_signAt_24 : decode cX6_signAt 24 = .ok (.iadd, 1) := by decide +kernel
theorem dX6_signAt_25 : decode cX6_signAt 25 = .ok (.istore 4, 2) := by decide +kernel
theorem dX6_signAt_27 : decode cX6_signAt 27 = .ok (.aload_n 0, 1) := by decide +kernel
theorem dX6_signAt_28 : decode cX6_signAt 28 = .ok (.iload 4, 2) := by decide +kernel
theorem dX6_signAt_30 : decode cX6_signAt 30 = .ok (.iconst (-1), 1) := by decide +kernel
theorem dX6_signAt_31 : decode cX6_signAt 31 = .ok (.invokevirtual 201, 3) := by decide +kernel
theorem dX6_signAt_34 : decode cX6_signAt 34 = .ok (.istore 5, 2) := by decide +kernel
theorem dX6_signAt_36 : decode cX6_signAt 36 = .ok (.iload 5, 2) := by decide +kernel
theorem dX6_signAt_38 : decode cX6_signAt 38 = .ok (.ifCond .ge 8, 3) := by decide +kernel
theorem dX6_signAt_41 : decode cX6_signAt 41 = .ok (.bipush 32, 2) := by decide +kernel
theorem dX6_signAt_43 : decode cX6_signAt 43 = .ok (.goto 17, 3) := by decide +kernel
theorem dX6_signAt_46 : decode cX6_signAt 46 = .ok (.aload_n 0, 1) := by decide +kernel
theorem dX6_signAt_47 : decode cX6_signAt 47 = .ok (.getfield 72, 3) := by decide +kernel
theorem dX6_signAt_50 : decode cX6_signAt 50 = .ok (.sipush 640, 3) := by decide +kernel
theorem dX6_signAt_53 : decode cX6_signAt 53 = .ok (.iload 5, 2) := by decide +kernel
theorem dX6_signAt_55 : decode cX6_signAt 55 = .ok (.imul, 1) := by decide +kernel
theorem dX6_signAt_56 : decode cX6_signAt 56 = .ok (.iload 4, 2) := by decide +kernel
theorem dX6_signAt_58 : decode cX6_signAt 58 = .ok (.iadd, 1) := by decide +kernel
theorem dX6_signAt_59 : decode cX6_signAt 59 = .ok (.iaload, 1) := by decide +kernel
theorem dX6_signAt_60 : decode cX6_signAt 60 = .ok (.ireturn, 1) := by decide +kernel
set_option maxRecDepth 20000 in
theorem ggX6_at_X6_isCell : GoodIn wsX6_at wsX6_isCell := goodIn_r _ [5, 6, 7, 8, 9, 4, 10, 112, 113, 114, 115, 116, 117, 118, 119, 120, 121, 122, 123, 124, 125, 126, 127, 128, 129, 130, 131, 132, 133, 134, 135, 136, 137] (by decide +kernel) (by decide +kernel)
set_option maxRecDepth 20000 in
theorem gX6_at_X6_isCell : GoodIn wsX6_at (wsV RX6 204 RX6 yX6_isCell wsX6_isCell) := goodIn_app (goodIn_of _ (by decide +kernel)) ggX6_at_X6_isCell
set_option maxRecDepth 20000 in
theorem ggX6_at_X6_draws : GoodIn wsX6_at wsX6_draws := goodIn_r _ [14, 15, 16, 17, 18, 19, 20, 21, 22, 4, 23, 24, 25, 26, 27, 28, 29, 30, 31, 32, 33, 34, 35, 36, 37, 38, 39, 40, 41, 42, 43, 44, 45, 46, 47, 48, 49, 50, 51, 52, 53, 54, 55, 56, 57, 58, 59, 6, 7, 60, 61, 62, 63, 64, 65, 66, 67, 68, 69, 70, 71, 72, 73, 74, 75, 76, 77, 78, 79, 80, 81, 82, 83, 84, 85, 86, 87, 88, 89, 90, 91, 92, 93, 94, 112, 113, 114, 115, 116, 117, 118, 119, 120, 121, 122, 123, 124, 125, 126, 127, 128, 129, 130, 131, 132, 133, 134, 135, 136, 137] (by decide +kernel) (by decide +kernel)
set_option maxRecDepth 20000 in
theorem gX6_at_X6_draws : GoodIn wsX6_at (wsV RX6 174 RX6 yX6_draws wsX6_draws) := goodIn_app (goodIn_of _ (by decide +kernel)) ggX6_at_X6_draws
set_option maxRecDepth 20000 in
theorem ggX6_at_X6_signAt : GoodIn wsX6_at wsX6_signAt := goodIn_r _ [98, 6, 16, 99, 100, 101, 4, 102, 103, 104, 105, 106, 8, 9, 10, 107, 108, 109, 110, 18, 111, 17, 112, 113, 114, 115, 116, 117, 118, 119, 120, 121, 122, 123, 124, 125, 126, 127, 128, 129, 130, 131, 132, 133, 134, 135, 136, 137] (by decide +kernel) (by decide +kernel)
set_option maxRecDepth 20000 in
theorem gX6_at_X6_signAt : GoodIn wsX6_at (wsV RX6 207 RX6 yX6_signAt wsX6_signAt) := goodIn_app (goodIn_of _ (by decide +kernel)) ggX6_at_X6_signAt
theorem dX6_at_0 : decode cX6_at 0 = .ok (.aload_n 0, 1) := by decide +kernel
theorem dX6_at_1 : decode cX6_at 1 = .ok (.iload_n 1, 1) := by decide +kernel
theorem dX6_at_2 : decode cX6_at 2 = .ok (.iload_n 2, 1) := by decide +kernel
theorem dX6_at_3 : decode cX6_at 3 = .ok (.invokevirtual 204, 3) := by decide +kernel
theorem dX6_at_6 : decode cX6_at 6 = .ok (.ifCond .ne 5, 3) := by decide +kernel
theorem dX6_at_9 : decode cX6_at 9 = .ok (.iconst (-1), 1) := by decide +kernel
theorem dX6_at_10 : decode cX6_at 10 = .ok (.ireturn, 1) := by decide +kernel
theorem dX6_at_11 : decode cX6_at 11 = .ok (.aload_n 0, 1) := by decide +kernel
theorem dX6_at_12 : decode cX6_at 12 = .ok (.invokevirtual 174, 3) := by decide +kernel
theorem dX6_at_15 : decode cX6_at 15 = .ok (.aload_n 0, 1) := by decide +kernel
theorem dX6_at_16 : decode cX6_at 16 = .ok (.iload_n 1, 1) := by decide +kernel
theorem dX6_at_17 : decode cX6_at 17 = .ok (.iload_n 2, 1) := by decide +kernel
theorem dX6_at_18 : decode cX6_at 18 = .ok (.invokevirtual 207, 3) := by decide +kernel
theorem dX6_at_21 : decode cX6_at 21 = .ok (.ireturn, 1) := by decide +kernel
set_option maxRecDepth 20000 in
theorem ggX6_shown_X6_isCell : GoodIn wsX6_shown wsX6_isCell := goodIn_r _ [6, 1, 7, 8, 9, 5, 10, 108, 109, 110, 111, 112, 113, 114, 115, 116, 117, 118, 119, 120, 121, 122, 123, 124, 125, 126, 127, 128, 129, 130, 131, 132, 133] (by decide +kernel) (by decide +kernel)
set_option maxRecDepth 20000 in
theorem gX6_shown_X6_isCell : GoodIn wsX6_shown (wsV RX6 204 RX6 yX6_isCell wsX6_isCell) := goodIn_app (goodIn_of _ (by decide +kernel)) ggX6_shown_X6_isCell
set_option maxRecDepth 20000 in
theorem ggX6_shown_X6_draws : GoodIn wsX6_shown wsX6_draws := goodIn_r _ [14, 15, 16, 17, 18, 19, 20, 21, 22, 5, 23, 24, 25, 26, 27, 28, 29, 30, 31, 32, 33, 34, 35, 36, 37, 38, 39, 40, 41, 42, 43, 44, 45, 46, 47, 48, 49, 50, 51, 52, 53, 54, 55, 56, 57, 58, 59, 1, 7, 60, 61, 62, 63, 64, 65, 66, 67, 68, 69, 70, 71, 72, 73, 74, 75, 76, 77, 78, 79, 80, 81, 82, 83, 84, 85, 86, 87, 88, 89, 90, 91, 92, 93, 94, 108, 109, 110, 111, 112, 113, 114, 115, 116, 117, 118, 119, 120, 121, 122, 123, 124, 125, 126, 127, 128, 129, 130, 131, 132, 133] (by decide +kernel) (by decide +kernel)
set_option maxRecDepth 20000 in
theorem gX6_shown_X6_draws : GoodIn wsX6_shown (wsV RX6 174 RX6 yX6_draws wsX6_draws) := goodIn_app (goodIn_of _ (by decide +kernel)) ggX6_shown_X6_draws
set_option maxRecDepth 20000 in
theorem ggX6_shown_X6_labelAt : GoodIn wsX6_shown wsX6_labelAt := goodIn_r _ [98, 99, 100, 101, 102, 8, 9, 5, 10, 108, 109, 110, 111, 112, 113, 114, 115, 116, 117, 118, 119, 120, 121, 122, 123, 124, 125, 126, 127, 128, 129, 130, 131, 132, 133] (by decide +kernel) (by decide +kernel)
set_option maxRecDepth 20000 in
theorem gX6_shown_X6_labelAt : GoodIn wsX6_shown (wsV RX6 198 RX6 yX6_labelAt wsX6_labelAt) := goodIn_app (goodIn_of _ (by decide +kernel)) ggX6_shown_X6_labelAt
set_option maxRecDepth 20000 in
theorem ggX6_shown_X6_latest : GoodIn wsX6_shown wsX6_latest := goodIn_r _ [106, 18, 107, 17, 108, 109, 110, 111, 112, 113, 114, 115, 116, 117, 118, 119, 120, 121, 122, 123, 124, 125, 126, 127, 128, 129, 130, 131, 132, 133] (by decide +kernel) (by decide +kernel)
set_option maxRecDepth 20000 in
theorem gX6_shown_X6_latest : GoodIn wsX6_shown (wsV RX6 201 RX6 yX6_latest wsX6_latest) := goodIn_app (goodIn_of _ (by decide +kernel)) ggX6_shown_X6_latest
theorem dX6_shown_0 : decode cX6_shown 0 = .ok (.aload_n 0, 1) := by decide +kernel
theorem dX6_shown_1 : decode cX6_shown 1 = .ok (.iload_n 1, 1) := by decide +kernel
theorem dX6_shown_2 : decode cX6_shown 2 = .ok (.iload_n 2, 1) := by decide +kernel
theorem dX6_shown_3 : decode cX6_shown 3 = .ok (.invokevirtual 204, 3) := by decide +kernel
theorem dX6_shown_6 : decode cX6_shown 6 = .ok (.ifCond .ne 5, 3) := by decide +kernel
theorem dX6_shown_9 : decode cX6_shown 9 = .ok (.iconst (-1), 1) := by decide +kernel
theorem dX6_shown_10 : decode cX6_shown 10 = .ok (.ireturn, 1) := by decide +kernel
theorem dX6_shown_11 : decode cX6_shown 11 = .ok (.aload_n 0, 1) := by decide +kernel
theorem dX6_shown_12 : decode cX6_shown 12 = .ok (.invokevirtual 174, 3) := by decide +kernel
theorem dX6_shown_15 : decode cX6_shown 15 = .ok (.aload_n 0, 1) := by decide +kernel
theorem dX6_shown_16 : decode cX6_shown 16 = .ok (.iload_n 1, 1) := by decide +kernel
theorem dX6_shown_17 : decode cX6_shown 17 = .ok (.iload_n 2, 1) := by decide +kernel
theorem dX6_shown_18 : decode cX6_shown 18 = .ok (.invokevirtual 198, 3) := by decide +kernel
theorem dX6_shown_21 : decode cX6_shown 21 = .ok (.istore_n 3, 1) := by decide +kernel
theorem dX6_shown_22 : decode cX6_shown 22 = .ok (.aload_n 0, 1) := by decide +kernel
theorem dX6_shown_23 : decode cX6_shown 23 = .ok (.iload_n 2, 1) := by decide +kernel
theorem dX6_shown_24 : decode cX6_shown 24 = .ok (.aload_n 0, 1) := by decide +kernel
theorem dX6_shown_25 : decode cX6_shown 25 = .ok (.getfield 7, 3) := by decide +kernel
theorem dX6_shown_28 : decode cX6_shown 28 = .ok (.imul, 1) := by decide +kernel
theorem dX6_shown_29 : decode cX6_shown 29 = .ok (.iload_n 1, 1) := by decide +kernel
theorem dX6_shown_30 : decode cX6_shown 30 = .ok (.iadd, 1) := by decide +kernel
theorem dX6_shown_31 : decode cX6_shown 31 = .ok (.iconst (-1), 1) := by decide +kernel
theorem dX6_shown_32 : decode cX6_shown 32 = .ok (.invokevirtual 201, 3) := by decide +kernel
theorem dX6_shown_35 : decode cX6_shown 35 = .ok (.istore 4, 2) := by decide +kernel
theorem dX6_shown_37 : decode cX6_shown 37 = .ok (.iload_n 3, 1) := by decide +kernel
theorem dX6_shown_38 : decode cX6_shown 38 = .ok (.ifCond .lt 10, 3) := by decide +kernel
theorem dX6_shown_41 : decode cX6_shown 41 = .ok (.bipush 10, 2) := by decide +kernel
theorem dX6_shown_43 : decode cX6_shown 43 = .ok (.iload_n 3, 1) := by decide +kernel
theorem dX6_shown_44 : decode cX6_shown 44 = .ok (.iadd, 1) := by decide +kernel
theorem dX6_shown_45 : decode cX6_shown 45 = .ok (.goto 15, 3) := by decide +kernel
theorem dX6_shown_48 : decode cX6_shown 48 = .ok (.iload 4, 2) := by decide +kernel
theorem dX6_shown_50 : decode cX6_shown 50 = .ok (.ifCond .ge 8, 3) := by decide +kernel
theorem dX6_shown_53 : decode cX6_shown 53 = .ok (.bipush (-9), 2) := by decide +kernel
theorem dX6_shown_55 : decode cX6_shown 55 = .ok (.goto 5, 3) := by decide +kernel
theorem dX6_shown_58 : decode cX6_shown 58 = .ok (.iload 4, 2) := by decide +kernel
theorem dX6_shown_60 : decode cX6_shown 60 = .ok (.ireturn, 1) := by decide +kernel
set_option maxRecDepth 20000 in
theorem ggX6_hit_X6_isCell : GoodIn wsX6_hit wsX6_isCell := goodIn_r _ [7, 1, 8, 9, 10, 6, 11, 100, 101, 102, 103, 104, 105, 106, 107, 108, 109, 110, 111, 112, 113, 114, 115, 116, 117, 118, 119, 120, 121, 122, 123, 124, 125] (by decide +kernel) (by decide +kernel)
set_option maxRecDepth 20000 in
theorem gX6_hit_X6_isCell : GoodIn wsX6_hit (wsV RX6 204 RX6 yX6_isCell wsX6_isCell) := goodIn_app (goodIn_of _ (by decide +kernel)) ggX6_hit_X6_isCell
set_option maxRecDepth 20000 in
theorem ggX6_hit_X6_draws : GoodIn wsX6_hit wsX6_draws := goodIn_r _ [15, 16, 17, 2, 18, 19, 20, 21, 22, 6, 23, 24, 25, 26, 27, 28, 29, 30, 31, 32, 33, 34, 35, 36, 37, 38, 39, 40, 41, 42, 43, 44, 45, 46, 47, 48, 49, 50, 51, 52, 53, 54, 55, 56, 57, 58, 59, 1, 8, 60, 61, 62, 63, 64, 65, 66, 67, 68, 69, 70, 71, 72, 73, 74, 75, 76, 77, 78, 79, 80, 81, 82, 83, 84, 85, 86, 87, 88, 89, 90, 91, 92, 93, 94, 100, 101, 102, 103, 104, 105, 106, 107, 108, 109, 110, 111, 112, 113, 114, 115, 116, 117, 118, 119, 120, 121, 122, 123, 124, 125] (by decide +kernel) (by decide +kernel)
set_option maxRecDepth 20000 in
theorem gX6_hit_X6_draws : GoodIn wsX6_hit (wsV RX6 174 RX6 yX6_draws wsX6_draws) := goodIn_app (goodIn_of _ (by decide +kernel)) ggX6_hit_X6_draws
set_option maxRecDepth 20000 in
theorem ggX6_hit_X6_latest : GoodIn wsX6_hit wsX6_latest := goodIn_r _ [98, 18, 99, 2, 100, 101, 102, 103, 104, 105, 106, 107, 108, 109, 110, 111, 112, 113, 114, 115, 116, 117, 118, 119, 120, 121, 122, 123, 124, 125] (by decide +kernel) (by decide +kernel)
set_option maxRecDepth 20000 in
theorem gX6_hit_X6_latest : GoodIn wsX6_hit (wsV RX6 201 RX6 yX6_latest wsX6_latest) := goodIn_app (goodIn_of _ (by decide +kernel)) ggX6_hit_X6_latest
theorem dX6_hit_0 : decode cX6_hit 0 = .ok (.aload_n 0, 1) := by decide +kernel
theorem dX6_hit_1 : decode cX6_hit 1 = .ok (.iload_n 1, 1) := by decide +kernel
theorem dX6_hit_2 : decode cX6_hit 2 = .ok (.iload_n 2, 1) := by decide +kernel
theorem dX6_hit_3 : decode cX6_hit 3 = .ok (.invokevirtual 204, 3) := by decide +kernel
theorem dX6_hit_6 : decode cX6_hit 6 = .ok (.ifCond .eq 7, 3) := by decide +kernel
theorem dX6_hit_9 : decode cX6_hit 9 = .ok (.iload_n 3, 1) := by decide +kernel
theorem dX6_hit_10 : decode cX6_hit 10 = .ok (.ifCond .ge 5, 3) := by decide +kernel
theorem dX6_hit_13 : decode cX6_hit 13 = .ok (.iconst (-1), 1) := by decide +kernel
theorem dX6_hit_14 : decode cX6_hit 14 = .ok (.ireturn, 1) := by decide +kernel
theorem dX6_hit_15 : decode cX6_hit 15 = .ok (.aload_n 0, 1) := by decide +kernel
theorem dX6_hit_16 : decode cX6_hit 16 = .ok (.invokevirtual 174, 3) := by decide +kernel
theorem dX6_hit_19 : decode cX6_hit 19 = .ok (.iload_n 2, 1) := by decide +kernel
theorem dX6_hit_20 : decode cX6_hit 20 = .ok (.aload_n 0, 1) := by decide +kernel
theorem dX6_hit_21 : decode cX6_hit 21 = .ok (.getfield 7, 3) := by decide +kernel
theorem dX6_hit_24 : decode cX6_hit 24 = .ok (.imul, 1) := by decide +kernel
theorem dX6_hit_25 : decode cX6_hit 25 = .ok (.iload_n 1, 1) := by decide +kernel
theorem dX6_hit_26 : decode cX6_hit 26 = .ok (.iadd, 1) := by decide +kernel
theorem dX6_hit_27 : decode cX6_hit 27 = .ok (.istore 4, 2) := by decide +kernel
theorem dX6_hit_29 : decode cX6_hit 29 = .ok (.iload_n 3, 1) := by decide +kernel
theorem dX6_hit_30 : decode cX6_hit 30 = .ok (.istore 5, 2) := by decide +kernel
theorem dX6_hit_32 : decode cX6_hit 32 = .ok (.aload_n 0, 1) := by decide +kernel
theorem dX6_hit_33 : decode cX6_hit 33 = .ok (.iload 4, 2) := by decide +kernel
theorem dX6_hit_35 : decode cX6_hit 35 = .ok (.iconst (-1), 1) := by decide +kernel
theorem dX6_hit_36 : decode cX6_hit 36 = .ok (.invokevirtual 201, 3) := by decide +kernel
theorem dX6_hit_39 : decode cX6_hit 39 = .ok (.istore 6, 2) := by decide +kernel
theorem dX6_hit_41 : decode cX6_hit 41 = .ok (.iload 6, 2) := by decide +kernel
theorem dX6_hit_43 : decode cX6_hit 43 = .ok (.ifCond .lt 71, 3) := by decide +kernel
theorem dX6_hit_46 : decode cX6_hit 46 = .ok (.bipush 23, 2) := by decide +kernel
theorem dX6_hit_48 : decode cX6_hit 48 = .ok (.istore 7, 2) := by decide +kernel
theorem dX6_hit_50 : decode cX6_hit 50 = .ok (.iload 7, 2) := by decide +kernel
theorem dX6_hit_52 : decode cX6_hit 52 = .ok (.ifCond .lt 49, 3) := by decide +kernel
theorem dX6_hit_55 : decode cX6_hit 55 = .ok (.aload_n 0, 1) := by decide +kernel
theorem dX6_hit_56 : decode cX6_hit 56 = .ok (.getfield 75, 3) := by decide +kernel
theorem dX6_hit_59 : decode cX6_hit 59 = .ok (.sipush 640, 3) := by decide +kernel
theorem dX6_hit_62 : decode cX6_hit 62 = .ok (.iload 6, 2) := by decide +kernel
theorem dX6_hit_64 : decode cX6_hit 64 = .ok (.imul, 1) := by decide +kernel
theorem dX6_hit_65 : decode cX6_hit 65 = .ok (.iload 4, 2) := by decide +kernel
theorem dX6_hit_67 : decode cX6_hit 67 = .ok (.iadd, 1) := by decide +kernel
theorem dX6_hit_68 : decode cX6_hit 68 = .ok (.iaload, 1) := by decide +kernel
theorem dX6_hit_69 : decode cX6_hit 69 = .ok (.iload 7, 2) := by decide +kernel
theorem dX6_hit_71 : decode cX6_hit 71 = .ok (.ishr, 1) := by decide +kernel
theorem dX6_hit_72 : decode cX6_hit 72 = .ok (.iconst 1, 1) := by decide +kernel
theorem dX6_hit_73 : decode cX6_hit 73 = .ok (.iand, 1) := by decide +kernel
theorem dX6_hit_74 : decode cX6_hit 74 = .ok (.iconst 1, 1) := by decide +kernel
theorem dX6_hit_75 : decode cX6_hit 75 = .ok (.if_icmp .ne 20, 3) := by decide +kernel
theorem dX6_hit_78 : decode cX6_hit 78 = .ok (.iload 5, 2) := by decide +kernel
theorem dX6_hit_80 : decode cX6_hit 80 = .ok (.ifCond .ne 12, 3) := by decide +kernel
theorem dX6_hit_83 : decode cX6_hit 83 = .ok (.bipush 100, 2) := by decide +kernel
theorem dX6_hit_85 : decode cX6_hit 85 = .ok (.iload 6, 2) := by decide +kernel
theorem dX6_hit_87 : decode cX6_hit 87 = .ok (.imul, 1) := by decide +kernel
theorem dX6_hit_88 : decode cX6_hit 88 = .ok (.iload 7, 2) := by decide +kernel
theorem dX6_hit_90 : decode cX6_hit 90 = .ok (.iadd, 1) := by decide +kernel
theorem dX6_hit_91 : decode cX6_hit 91 = .ok (.ireturn, 1) := by decide +kernel
theorem dX6_hit_92 : decode cX6_hit 92 = .ok (.iinc 5 (-1), 3) := by decide +kernel
theorem dX6_hit_95 : decode cX6_hit 95 = .ok (.iinc 7 (-1), 3) := by decide +kernel
theorem dX6_hit_98 : decode cX6_hit 98 = .ok (.goto (-48), 3) := by decide +kernel
theorem dX6_hit_101 : decode cX6_hit 101 = .ok (.aload_n 0, 1) := by decide +kernel
theorem dX6_hit_102 : decode cX6_hit 102 = .ok (.iload 4, 2) := by decide +kernel
theorem dX6_hit_104 : decode cX6_hit 104 = .ok (.iload 6, 2) := by decide +kernel
theorem dX6_hit_106 : decode cX6_hit 106 = .ok (.invokevirtual 201, 3) := by decide +kernel
theorem dX6_hit_109 : decode cX6_hit 109 = .ok (.istore 6, 2) := by decide +kernel
theorem dX6_hit_111 : decode cX6_hit 111 = .ok (.goto (-70), 3) := by decide +kernel
theorem dX6_hit_114 : decode cX6_hit 114 = .ok (.bipush (-9), 2) := by decide +kernel
theorem dX6_hit_116 : decode cX6_hit 116 = .ok (.ireturn, 1) := by decide +kernel
set_option maxRecDepth 20000 in
theorem ggX6_inked_X6_draws : GoodIn wsX6_inked wsX6_draws := goodIn_r _ [7, 8, 9, 10, 11, 12, 13, 14, 15, 6, 16, 17, 18, 19, 20, 21, 22, 23, 24, 25, 26, 27, 28, 29, 30, 31, 32, 33, 34, 35, 36, 37, 38, 39, 40, 41, 42, 43, 44, 45, 46, 47, 48, 49, 50, 51, 52, 2, 1, 53, 54, 55, 56, 57, 58, 59, 60, 61, 62, 63, 64, 65, 66, 67, 68, 69, 70, 71, 72, 73, 74, 75, 76, 77, 78, 79, 80, 81, 82, 83, 84, 85, 86, 87, 108, 109, 110, 111, 112, 113, 114, 115, 116, 117, 118, 119, 120, 121, 122, 123, 124, 125, 126, 127, 128, 129, 130, 131, 132, 133] (by decide +kernel) (by decide +kernel)
set_option maxRecDepth 20000 in
theorem gX6_inked_X6_draws : GoodIn wsX6_inked (wsV RX6 174 RX6 yX6_draws wsX6_draws) := goodIn_app (goodIn_of _ (by decide +kernel)) ggX6_inked_X6_draws
set_option maxRecDepth 20000 in
theorem ggX6_inked_X6_signAt : GoodIn wsX6_inked wsX6_signAt := goodIn_r _ [91, 2, 9, 92, 93, 94, 6, 95, 96, 97, 98, 99, 100, 101, 102, 103, 104, 105, 106, 11, 107, 10, 108, 109, 110, 111, 112, 113, 114, 115, 116, 117, 118, 119, 120, 121, 122, 123, 124, 125, 126, 127, 128, 129, 130, 131, 132, 133] (by decide +kernel) (by decide +kernel)
set_option maxRecDepth 20000 in
theorem gX6_inked_X6_signAt : GoodIn wsX6_inked (wsV RX6 207 RX6 yX6_signAt wsX6_signAt) := goodIn_app (goodIn_of _ (by decide +kernel)) ggX6_inked_X6_signAt
theorem dX6_inked_0 : decode cX6_inked 0 = .ok (.aload_n 0, 1) := by decide +kernel
theorem dX6_inked_1 : decode cX6_inked 1 = .ok (.invokevirtual 174, 3) := by decide +kernel
theorem dX6_inked_4 : decode cX6_inked 4 = .ok (.iconst 0, 1) := by decide +kernel
theorem dX6_inked_5 : decode cX6_inked 5 = .ok (.istore_n 1, 1) := by decide +kernel
theorem dX6_inked_6 : decode cX6_inked 6 = .ok (.iconst 0, 1) := by decide +kernel
theorem dX6_inked_7 : decode cX6_inked 7 = .ok (.istore_n 2, 1) := by decide +kernel
theorem dX6_inked_8 : decode cX6_inked 8 = .ok (.iload_n 2, 1) := by decide +kernel
theorem dX6_inked_9 : decode cX6_inked 9 = .ok (.aload_n 0, 1) := by decide +kernel
theorem dX6_inked_10 : decode cX6_inked 10 = .ok (.getfield 13, 3) := by decide +kernel
theorem dX6_inked_13 : decode cX6_inked 13 = .ok (.if_icmp .ge 44, 3) := by decide +kernel
theorem dX6_inked_16 : decode cX6_inked 16 = .ok (.iconst 0, 1) := by decide +kernel
theorem dX6_inked_17 : decode cX6_inked 17 = .ok (.istore_n 3, 1) := by decide +kernel
theorem dX6_inked_18 : decode cX6_inked 18 = .ok (.iload_n 3, 1) := by decide +kernel
theorem dX6_inked_19 : decode cX6_inked 19 = .ok (.aload_n 0, 1) := by decide +kernel
theorem dX6_inked_20 : decode cX6_inked 20 = .ok (.getfield 7, 3) := by decide +kernel
theorem dX6_inked_23 : decode cX6_inked 23 = .ok (.if_icmp .ge 28, 3) := by decide +kernel
theorem dX6_inked_26 : decode cX6_inked 26 = .ok (.iload_n 1, 1) := by decide +kernel
theorem dX6_inked_27 : decode cX6_inked 27 = .ok (.aload_n 0, 1) := by decide +kernel
theorem dX6_inked_28 : decode cX6_inked 28 = .ok (.iload_n 3, 1) := by decide +kernel
theorem dX6_inked_29 : decode cX6_inked 29 = .ok (.iload_n 2, 1) := by decide +kernel
theorem dX6_inked_30 : decode cX6_inked 30 = .ok (.invokevirtual 207, 3) := by decide +kernel
theorem dX6_inked_33 : decode cX6_inked 33 = .ok (.bipush 32, 2) := by decide +kernel
theorem dX6_inked_35 : decode cX6_inked 35 = .ok (.if_icmp .eq 7, 3) := by decide +kernel
theorem dX6_inked_38 : decode cX6_inked 38 = .ok (.iconst 1, 1) := by decide +kernel
theorem dX6_inked_39 : decode cX6_inked 39 = .ok (.goto 4, 3) := by decide +kernel
theorem dX6_inked_42 : decode cX6_inked 42 = .ok (.iconst 0, 1) := by decide +kernel
theorem dX6_inked_43 : decode cX6_inked 43 = .ok (.iadd, 1) := by decide +kernel
theorem dX6_inked_44 : decode cX6_inked 44 = .ok (.istore_n 1, 1) := by decide +kernel
theorem dX6_inked_45 : decode cX6_inked 45 = .ok (.iinc 3 1, 3) := by decide +kernel
theorem dX6_inked_48 : decode cX6_inked 48 = .ok (.goto (-30), 3) := by decide +kernel
theorem dX6_inked_51 : decode cX6_inked 51 = .ok (.iinc 2 1, 3) := by decide +kernel
theorem dX6_inked_54 : decode cX6_inked 54 = .ok (.goto (-46), 3) := by decide +kernel
theorem dX6_inked_57 : decode cX6_inked 57 = .ok (.iload_n 1, 1) := by decide +kernel
theorem dX6_inked_58 : decode cX6_inked 58 = .ok (.ireturn, 1) := by decide +kernel
set_option maxRecDepth 20000 in
theorem ggX6_digest_X6_draws : GoodIn wsX6_digest wsX6_draws := goodIn_r _ [9, 10, 11, 12, 13, 14, 15, 16, 17, 8, 18, 19, 20, 21, 22, 23, 24, 25, 26, 27, 28, 29, 30, 31, 32, 33, 34, 35, 36, 37, 38, 39, 40, 41, 42, 43, 44, 45, 46, 47, 48, 49, 50, 51, 52, 53, 54, 3, 2, 55, 56, 57, 58, 59, 60, 61, 62, 63, 64, 65, 66, 67, 68, 69, 70, 71, 72, 73, 74, 75, 76, 77, 78, 79, 80, 81, 82, 83, 84, 85, 86, 87, 88, 89, 110, 111, 112, 113, 114, 115, 116, 117, 118, 119, 120, 121, 122, 123, 124, 125, 126, 127, 128, 129, 130, 131, 132, 133, 134, 135] (by decide +kernel) (by decide +kernel)
set_option maxRecDepth 20000 in
theorem gX6_digest_X6_draws : GoodIn wsX6_digest (wsV RX6 174 RX6 yX6_draws wsX6_draws) := goodIn_app (goodIn_of _ (by decide +kernel)) ggX6_digest_X6_draws
set_option maxRecDepth 20000 in
theorem ggX6_digest_X6_signAt : GoodIn wsX6_digest wsX6_signAt := goodIn_r _ [93, 3, 11, 94, 95, 96, 8, 97, 98, 99, 100, 101, 102, 103, 104, 105, 106, 107, 108, 13, 109, 12, 110, 111, 112, 113, 114, 115, 116, 117, 118, 119, 120, 121, 122, 123, 124, 125, 126, 127, 128, 129, 130, 131, 132, 133, 134, 135] (by decide +kernel) (by decide +kernel)
set_option maxRecDepth 20000 in
theorem gX6_digest_X6_signAt : GoodIn wsX6_digest (wsV RX6 207 RX6 yX6_signAt wsX6_signAt) := goodIn_app (goodIn_of _ (by decide +kernel)) ggX6_digest_X6_signAt
theorem dX6_digest_0 : decode cX6_digest 0 = .ok (.aload_n 0, 1) := by decide +kernel
theorem dX6_digest_1 : decode cX6_digest 1 = .ok (.invokevirtual 174, 3) := by decide +kernel
theorem dX6_digest_4 : decode cX6_digest 4 = .ok (.ldc2_w 210, 3) := by decide +kernel
theorem dX6_digest_7 : decode cX6_digest 7 = .ok (.lstore_n 1, 1) := by decide +kernel
theorem dX6_digest_8 : decode cX6_digest 8 = .ok (.iconst 0, 1) := by decide +kernel
theorem dX6_digest_9 : decode cX6_digest 9 = .ok (.istore_n 3, 1) := by decide +kernel
theorem dX6_digest_10 : decode cX6_digest 10 = .ok (.iload_n 3, 1) := by decide +kernel
