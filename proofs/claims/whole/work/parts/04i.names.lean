theorem dX6_digest_11 : decode cX6_digest 11 = .ok (.aload_n 0, 1) := by decide +kernel
theorem dX6_digest_12 : decode cX6_digest 12 = .ok (.getfield 13, 3) := by decide +kernel
theorem dX6_digest_15 : decode cX6_digest 15 = .ok (.if_icmp .ge 42, 3) := by decide +kernel
theorem dX6_digest_18 : decode cX6_digest 18 = .ok (.iconst 0, 1) := by decide +kernel
theorem dX6_digest_19 : decode cX6_digest 19 = .ok (.istore 4, 2) := by decide +kernel
theorem dX6_digest_21 : decode cX6_digest 21 = .ok (.iload 4, 2) := by decide +kernel
theorem dX6_digest_23 : decode cX6_digest 23 = .ok (.aload_n 0, 1) := by decide +kernel
theorem dX6_digest_24 : decode cX6_digest 24 = .ok (.getfield 7, 3) := by decide +kernel
theorem dX6_digest_27 : decode cX6_digest 27 = .ok (.if_icmp .ge 24, 3) := by decide +kernel
theorem dX6_digest_30 : decode cX6_digest 30 = .ok (.ldc2_w 212, 3) := by decide +kernel
theorem dX6_digest_33 : decode cX6_digest 33 = .ok (.lload_n 1, 1) := by decide +kernel
theorem dX6_digest_34 : decode cX6_digest 34 = .ok (.lmul, 1) := by decide +kernel
theorem dX6_digest_35 : decode cX6_digest 35 = .ok (.aload_n 0, 1) := by decide +kernel
theorem dX6_digest_36 : decode cX6_digest 36 = .ok (.iload 4, 2) := by decide +kernel
theorem dX6_digest_38 : decode cX6_digest 38 = .ok (.iload_n 3, 1) := by decide +kernel
theorem dX6_digest_39 : decode cX6_digest 39 = .ok (.invokevirtual 207, 3) := by decide +kernel
theorem dX6_digest_42 : decode cX6_digest 42 = .ok (.i2l, 1) := by decide +kernel
theorem dX6_digest_43 : decode cX6_digest 43 = .ok (.ladd, 1) := by decide +kernel
theorem dX6_digest_44 : decode cX6_digest 44 = .ok (.lstore_n 1, 1) := by decide +kernel
theorem dX6_digest_45 : decode cX6_digest 45 = .ok (.iinc 4 1, 3) := by decide +kernel
theorem dX6_digest_48 : decode cX6_digest 48 = .ok (.goto (-27), 3) := by decide +kernel
theorem dX6_digest_51 : decode cX6_digest 51 = .ok (.iinc 3 1, 3) := by decide +kernel
theorem dX6_digest_54 : decode cX6_digest 54 = .ok (.goto (-44), 3) := by decide +kernel
theorem dX6_digest_57 : decode cX6_digest 57 = .ok (.lload_n 1, 1) := by decide +kernel
theorem dX6_digest_58 : decode cX6_digest 58 = .ok (.lreturn, 1) := by decide +kernel
set_option maxRecDepth 20000 in
theorem ggX6_isFree_X6_in : GoodIn wsX6_isFree wsX6_in := goodIn_r _ [6] (by decide +kernel) (by decide +kernel)
set_option maxRecDepth 20000 in
theorem gX6_isFree_X6_in : GoodIn wsX6_isFree (va_wsS RX6 86 yX6_in wsX6_in) := goodIn_app (goodIn_of _ (by decide +kernel)) ggX6_isFree_X6_in
set_option maxRecDepth 20000 in
theorem ggX6_isFree_X6_signAt : GoodIn wsX6_isFree wsX6_signAt := goodIn_r _ [10, 2, 11, 12, 13, 14, 5, 15, 16, 17, 18, 19, 3, 4, 6, 20, 21, 22, 23, 24, 25, 26, 27, 28, 29, 30, 31, 32, 33, 34, 35, 36, 37, 38, 39, 40, 41, 42, 43, 44, 45, 46, 47, 48, 49, 50, 51, 52] (by decide +kernel) (by decide +kernel)
set_option maxRecDepth 20000 in
theorem gX6_isFree_X6_signAt : GoodIn wsX6_isFree (wsV RX6 207 RX6 yX6_signAt wsX6_signAt) := goodIn_app (goodIn_of _ (by decide +kernel)) ggX6_isFree_X6_signAt
theorem dX6_isFree_0 : decode cX6_isFree 0 = .ok (.iload_n 2, 1) := by decide +kernel
theorem dX6_isFree_1 : decode cX6_isFree 1 = .ok (.iconst 0, 1) := by decide +kernel
theorem dX6_isFree_2 : decode cX6_isFree 2 = .ok (.aload_n 0, 1) := by decide +kernel
theorem dX6_isFree_3 : decode cX6_isFree 3 = .ok (.getfield 13, 3) := by decide +kernel
theorem dX6_isFree_6 : decode cX6_isFree 6 = .ok (.iconst 1, 1) := by decide +kernel
theorem dX6_isFree_7 : decode cX6_isFree 7 = .ok (.isub, 1) := by decide +kernel
theorem dX6_isFree_8 : decode cX6_isFree 8 = .ok (.invokestatic 86, 3) := by decide +kernel
theorem dX6_isFree_11 : decode cX6_isFree 11 = .ok (.ifCond .eq 21, 3) := by decide +kernel
theorem dX6_isFree_14 : decode cX6_isFree 14 = .ok (.iload_n 1, 1) := by decide +kernel
theorem dX6_isFree_15 : decode cX6_isFree 15 = .ok (.ifCond .lt 17, 3) := by decide +kernel
theorem dX6_isFree_18 : decode cX6_isFree 18 = .ok (.iload_n 1, 1) := by decide +kernel
theorem dX6_isFree_19 : decode cX6_isFree 19 = .ok (.iload_n 3, 1) := by decide +kernel
theorem dX6_isFree_20 : decode cX6_isFree 20 = .ok (.iadd, 1) := by decide +kernel
theorem dX6_isFree_21 : decode cX6_isFree 21 = .ok (.aload_n 0, 1) := by decide +kernel
theorem dX6_isFree_22 : decode cX6_isFree 22 = .ok (.getfield 7, 3) := by decide +kernel
theorem dX6_isFree_25 : decode cX6_isFree 25 = .ok (.if_icmp .gt 7, 3) := by decide +kernel
theorem dX6_isFree_28 : decode cX6_isFree 28 = .ok (.iconst 1, 1) := by decide +kernel
theorem dX6_isFree_29 : decode cX6_isFree 29 = .ok (.goto 4, 3) := by decide +kernel
theorem dX6_isFree_32 : decode cX6_isFree 32 = .ok (.iconst 0, 1) := by decide +kernel
theorem dX6_isFree_33 : decode cX6_isFree 33 = .ok (.istore 4, 2) := by decide +kernel
theorem dX6_isFree_35 : decode cX6_isFree 35 = .ok (.iload_n 1, 1) := by decide +kernel
theorem dX6_isFree_36 : decode cX6_isFree 36 = .ok (.istore 5, 2) := by decide +kernel
theorem dX6_isFree_38 : decode cX6_isFree 38 = .ok (.iload 5, 2) := by decide +kernel
theorem dX6_isFree_40 : decode cX6_isFree 40 = .ok (.iload_n 1, 1) := by decide +kernel
theorem dX6_isFree_41 : decode cX6_isFree 41 = .ok (.iload_n 3, 1) := by decide +kernel
theorem dX6_isFree_42 : decode cX6_isFree 42 = .ok (.iadd, 1) := by decide +kernel
theorem dX6_isFree_43 : decode cX6_isFree 43 = .ok (.if_icmp .ge 33, 3) := by decide +kernel
theorem dX6_isFree_46 : decode cX6_isFree 46 = .ok (.iload 4, 2) := by decide +kernel
theorem dX6_isFree_48 : decode cX6_isFree 48 = .ok (.ifCond .eq 28, 3) := by decide +kernel
theorem dX6_isFree_51 : decode cX6_isFree 51 = .ok (.aload_n 0, 1) := by decide +kernel
theorem dX6_isFree_52 : decode cX6_isFree 52 = .ok (.iload 5, 2) := by decide +kernel
theorem dX6_isFree_54 : decode cX6_isFree 54 = .ok (.iload_n 2, 1) := by decide +kernel
theorem dX6_isFree_55 : decode cX6_isFree 55 = .ok (.invokevirtual 207, 3) := by decide +kernel
theorem dX6_isFree_58 : decode cX6_isFree 58 = .ok (.bipush 32, 2) := by decide +kernel
theorem dX6_isFree_60 : decode cX6_isFree 60 = .ok (.if_icmp .ne 7, 3) := by decide +kernel
theorem dX6_isFree_63 : decode cX6_isFree 63 = .ok (.iconst 1, 1) := by decide +kernel
theorem dX6_isFree_64 : decode cX6_isFree 64 = .ok (.goto 4, 3) := by decide +kernel
theorem dX6_isFree_67 : decode cX6_isFree 67 = .ok (.iconst 0, 1) := by decide +kernel
theorem dX6_isFree_68 : decode cX6_isFree 68 = .ok (.istore 4, 2) := by decide +kernel
theorem dX6_isFree_70 : decode cX6_isFree 70 = .ok (.iinc 5 1, 3) := by decide +kernel
theorem dX6_isFree_73 : decode cX6_isFree 73 = .ok (.goto (-35), 3) := by decide +kernel
theorem dX6_isFree_76 : decode cX6_isFree 76 = .ok (.iload 4, 2) := by decide +kernel
theorem dX6_isFree_78 : decode cX6_isFree 78 = .ok (.ireturn, 1) := by decide +kernel
set_option maxRecDepth 20000 in
theorem ggX6_label_X6_isPoint : GoodIn wsX6_label wsX6_isPoint := goodIn_r _ [12, 13, 14, 15, 16, 11, 17, 18, 19, 20, 21, 122, 123, 124, 125, 126, 127, 128, 129, 130, 131, 132, 133, 134, 135, 136, 137, 138, 139, 140, 141, 142, 143, 144, 145, 146, 147] (by decide +kernel) (by decide +kernel)
set_option maxRecDepth 20000 in
theorem gX6_label_X6_isPoint : GoodIn wsX6_label (wsV RX6 168 RX6 yX6_isPoint wsX6_isPoint) := goodIn_app (goodIn_of _ (by decide +kernel)) ggX6_label_X6_isPoint
set_option maxRecDepth 20000 in
theorem ggX6_label_X6_in : GoodIn wsX6_label wsX6_in := goodIn_r _ [21] (by decide +kernel) (by decide +kernel)
set_option maxRecDepth 20000 in
theorem gX6_label_X6_in : GoodIn wsX6_label (va_wsS RX6 86 yX6_in wsX6_in) := goodIn_app (goodIn_of _ (by decide +kernel)) ggX6_label_X6_in
set_option maxRecDepth 20000 in
theorem ggX6_label_X6_isSeen : GoodIn wsX6_label wsX6_isSeen := goodIn_r _ [25, 26, 27, 28, 29, 11, 30, 31, 32, 33, 34, 35, 36, 37, 38, 39, 40, 41, 42, 43, 44, 45, 46, 47, 48, 49, 50, 51, 52, 53, 54, 55, 56, 57, 58, 59, 60, 61, 62, 2, 63, 64, 65, 66, 67, 122, 123, 124, 125, 126, 127, 128, 129, 130, 131, 132, 133, 134, 135, 136, 137, 138, 139, 140, 141, 142, 143, 144, 145, 146, 147] (by decide +kernel) (by decide +kernel)
set_option maxRecDepth 20000 in
theorem gX6_label_X6_isSeen : GoodIn wsX6_label (wsV RX6 171 RX6 yX6_isSeen wsX6_isSeen) := goodIn_app (goodIn_of _ (by decide +kernel)) ggX6_label_X6_isSeen
set_option maxRecDepth 20000 in
theorem ggX6_label_X6_draws : GoodIn wsX6_label wsX6_draws := goodIn_r _ [71, 72, 73, 74, 18, 13, 22, 23, 24, 11, 25, 26, 27, 28, 29, 30, 31, 32, 33, 34, 35, 36, 37, 38, 39, 40, 41, 42, 43, 44, 45, 46, 47, 48, 49, 50, 51, 52, 53, 54, 55, 56, 57, 58, 59, 60, 61, 62, 2, 63, 64, 65, 66, 67, 75, 76, 77, 78, 79, 80, 81, 82, 83, 84, 85, 86, 87, 88, 89, 90, 91, 92, 93, 94, 95, 96, 97, 98, 99, 100, 101, 102, 103, 104, 122, 123, 124, 125, 126, 127, 128, 129, 130, 131, 132, 133, 134, 135, 136, 137, 138, 139, 140, 141, 142, 143, 144, 145, 146, 147] (by decide +kernel) (by decide +kernel)
set_option maxRecDepth 20000 in
theorem gX6_label_X6_draws : GoodIn wsX6_label (wsV RX6 174 RX6 yX6_draws wsX6_draws) := goodIn_app (goodIn_of _ (by decide +kernel)) ggX6_label_X6_draws
set_option maxRecDepth 20000 in
theorem ggX6_label_X6_across : GoodIn wsX6_label wsX6_across := goodIn_r _ [30, 31, 32, 33, 34, 11, 35, 36, 37, 38, 39, 40, 41, 42, 43, 44, 45, 46, 47, 48, 49, 50, 51, 52, 53, 54, 55, 56, 57, 58, 59, 60, 61, 62, 2, 122, 123, 124, 125, 126, 127, 128, 129, 130, 131, 132, 133, 134, 135, 136, 137, 138, 139, 140, 141, 142, 143, 144, 145, 146, 147] (by decide +kernel) (by decide +kernel)
set_option maxRecDepth 20000 in
theorem gX6_label_X6_across : GoodIn wsX6_label (wsV RX6 162 RX6 yX6_across wsX6_across) := goodIn_app (goodIn_of _ (by decide +kernel)) ggX6_label_X6_across
set_option maxRecDepth 20000 in
theorem ggX6_label_X6_upwards : GoodIn wsX6_label wsX6_upwards := goodIn_r _ [66, 67, 32, 33, 34, 11, 35, 36, 37, 38, 39, 40, 41, 42, 43, 44, 45, 46, 47, 48, 49, 50, 51, 52, 53, 54, 55, 56, 57, 58, 59, 60, 61, 62, 2, 122, 123, 124, 125, 126, 127, 128, 129, 130, 131, 132, 133, 134, 135, 136, 137, 138, 139, 140, 141, 142, 143, 144, 145, 146, 147] (by decide +kernel) (by decide +kernel)
set_option maxRecDepth 20000 in
theorem gX6_label_X6_upwards : GoodIn wsX6_label (wsV RX6 165 RX6 yX6_upwards wsX6_upwards) := goodIn_app (goodIn_of _ (by decide +kernel)) ggX6_label_X6_upwards
set_option maxRecDepth 20000 in
theorem ggX6_label_X6_isFree : GoodIn wsX6_label wsX6_isFree := goodIn_r _ [108, 2, 62, 19, 20, 11, 21, 109, 110, 111, 112, 73, 113, 114, 115, 116, 1, 4, 3, 5, 117, 118, 119, 120, 18, 121, 74, 122, 123, 124, 125, 126, 127, 128, 129, 130, 131, 132, 133, 134, 135, 136, 137, 138, 139, 140, 141, 142, 143, 144, 145, 146, 147] (by decide +kernel) (by decide +kernel)
set_option maxRecDepth 20000 in
theorem gX6_label_X6_isFree : GoodIn wsX6_label (wsV RX6 214 RX6 yX6_isFree wsX6_isFree) := goodIn_app (goodIn_of _ (by decide +kernel)) ggX6_label_X6_isFree
theorem dX6_label_0 : decode cX6_label 0 = .ok (.aload_n 0, 1) := by decide +kernel
theorem dX6_label_1 : decode cX6_label 1 = .ok (.iload_n 1, 1) := by decide +kernel
theorem dX6_label_2 : decode cX6_label 2 = .ok (.iload_n 2, 1) := by decide +kernel
theorem dX6_label_3 : decode cX6_label 3 = .ok (.invokevirtual 168, 3) := by decide +kernel
theorem dX6_label_6 : decode cX6_label 6 = .ok (.ifCond .eq 13, 3) := by decide +kernel
theorem dX6_label_9 : decode cX6_label 9 = .ok (.iload_n 3, 1) := by decide +kernel
theorem dX6_label_10 : decode cX6_label 10 = .ok (.iconst 1, 1) := by decide +kernel
theorem dX6_label_11 : decode cX6_label 11 = .ok (.bipush 10, 2) := by decide +kernel
theorem dX6_label_13 : decode cX6_label 13 = .ok (.invokestatic 86, 3) := by decide +kernel
theorem dX6_label_16 : decode cX6_label 16 = .ok (.ifCond .ne 5, 3) := by decide +kernel
theorem dX6_label_19 : decode cX6_label 19 = .ok (.iconst (-1), 1) := by decide +kernel
theorem dX6_label_20 : decode cX6_label 20 = .ok (.ireturn, 1) := by decide +kernel
theorem dX6_label_21 : decode cX6_label 21 = .ok (.aload_n 0, 1) := by decide +kernel
theorem dX6_label_22 : decode cX6_label 22 = .ok (.iload_n 1, 1) := by decide +kernel
theorem dX6_label_23 : decode cX6_label 23 = .ok (.iload_n 2, 1) := by decide +kernel
theorem dX6_label_24 : decode cX6_label 24 = .ok (.invokevirtual 171, 3) := by decide +kernel
theorem dX6_label_27 : decode cX6_label 27 = .ok (.ifCond .ne 6, 3) := by decide +kernel
theorem dX6_label_30 : decode cX6_label 30 = .ok (.bipush (-2), 2) := by decide +kernel
theorem dX6_label_32 : decode cX6_label 32 = .ok (.ireturn, 1) := by decide +kernel
theorem dX6_label_33 : decode cX6_label 33 = .ok (.aload_n 0, 1) := by decide +kernel
theorem dX6_label_34 : decode cX6_label 34 = .ok (.getfield 90, 3) := by decide +kernel
theorem dX6_label_37 : decode cX6_label 37 = .ok (.bipush 20, 2) := by decide +kernel
theorem dX6_label_39 : decode cX6_label 39 = .ok (.if_icmp .ne 6, 3) := by decide +kernel
theorem dX6_label_42 : decode cX6_label 42 = .ok (.bipush (-3), 2) := by decide +kernel
theorem dX6_label_44 : decode cX6_label 44 = .ok (.ireturn, 1) := by decide +kernel
theorem dX6_label_45 : decode cX6_label 45 = .ok (.aload_n 0, 1) := by decide +kernel
theorem dX6_label_46 : decode cX6_label 46 = .ok (.invokevirtual 174, 3) := by decide +kernel
theorem dX6_label_49 : decode cX6_label 49 = .ok (.aload_n 0, 1) := by decide +kernel
theorem dX6_label_50 : decode cX6_label 50 = .ok (.iload_n 1, 1) := by decide +kernel
theorem dX6_label_51 : decode cX6_label 51 = .ok (.iload_n 2, 1) := by decide +kernel
theorem dX6_label_52 : decode cX6_label 52 = .ok (.invokevirtual 162, 3) := by decide +kernel
theorem dX6_label_55 : decode cX6_label 55 = .ok (.iconst 2, 1) := by decide +kernel
theorem dX6_label_56 : decode cX6_label 56 = .ok (.idiv, 1) := by decide +kernel
theorem dX6_label_57 : decode cX6_label 57 = .ok (.istore 4, 2) := by decide +kernel
theorem dX6_label_59 : decode cX6_label 59 = .ok (.aload_n 0, 1) := by decide +kernel
theorem dX6_label_60 : decode cX6_label 60 = .ok (.getfield 13, 3) := by decide +kernel
theorem dX6_label_63 : decode cX6_label 63 = .ok (.iconst 1, 1) := by decide +kernel
theorem dX6_label_64 : decode cX6_label 64 = .ok (.isub, 1) := by decide +kernel
theorem dX6_label_65 : decode cX6_label 65 = .ok (.aload_n 0, 1) := by decide +kernel
theorem dX6_label_66 : decode cX6_label 66 = .ok (.iload_n 1, 1) := by decide +kernel
theorem dX6_label_67 : decode cX6_label 67 = .ok (.iload_n 2, 1) := by decide +kernel
theorem dX6_label_68 : decode cX6_label 68 = .ok (.invokevirtual 165, 3) := by decide +kernel
theorem dX6_label_71 : decode cX6_label 71 = .ok (.iconst 4, 1) := by decide +kernel
theorem dX6_label_72 : decode cX6_label 72 = .ok (.idiv, 1) := by decide +kernel
theorem dX6_label_73 : decode cX6_label 73 = .ok (.isub, 1) := by decide +kernel
theorem dX6_label_74 : decode cX6_label 74 = .ok (.istore 5, 2) := by decide +kernel
theorem dX6_label_76 : decode cX6_label 76 = .ok (.iconst 0, 1) := by decide +kernel
theorem dX6_label_77 : decode cX6_label 77 = .ok (.istore 6, 2) := by decide +kernel
theorem dX6_label_79 : decode cX6_label 79 = .ok (.iload 6, 2) := by decide +kernel
theorem dX6_label_81 : decode cX6_label 81 = .ok (.iconst 4, 1) := by decide +kernel
theorem dX6_label_82 : decode cX6_label 82 = .ok (.if_icmp .ge 145, 3) := by decide +kernel
theorem dX6_label_85 : decode cX6_label 85 = .ok (.iload 6, 2) := by decide +kernel
theorem dX6_label_87 : decode cX6_label 87 = .ok (.ifCond .ne 10, 3) := by decide +kernel
theorem dX6_label_90 : decode cX6_label 90 = .ok (.iload 4, 2) := by decide +kernel
theorem dX6_label_92 : decode cX6_label 92 = .ok (.iconst 1, 1) := by decide +kernel
theorem dX6_label_93 : decode cX6_label 93 = .ok (.iadd, 1) := by decide +kernel
theorem dX6_label_94 : decode cX6_label 94 = .ok (.goto 18, 3) := by decide +kernel
theorem dX6_label_97 : decode cX6_label 97 = .ok (.iload 6, 2) := by decide +kernel
theorem dX6_label_99 : decode cX6_label 99 = .ok (.iconst 1, 1) := by decide +kernel
theorem dX6_label_100 : decode cX6_label 100 = .ok (.if_icmp .ne 10, 3) := by decide +kernel
theorem dX6_label_103 : decode cX6_label 103 = .ok (.iload 4, 2) := by decide +kernel
theorem dX6_label_105 : decode cX6_label 105 = .ok (.iload_n 3, 1) := by decide +kernel
theorem dX6_label_106 : decode cX6_label 106 = .ok (.isub, 1) := by decide +kernel
theorem dX6_label_107 : decode cX6_label 107 = .ok (.goto 5, 3) := by decide +kernel
theorem dX6_label_110 : decode cX6_label 110 = .ok (.iload 4, 2) := by decide +kernel
theorem dX6_label_112 : decode cX6_label 112 = .ok (.istore 7, 2) := by decide +kernel
theorem dX6_label_114 : decode cX6_label 114 = .ok (.iload 6, 2) := by decide +kernel
theorem dX6_label_116 : decode cX6_label 116 = .ok (.iconst 2, 1) := by decide +kernel
theorem dX6_label_117 : decode cX6_label 117 = .ok (.if_icmp .ge 8, 3) := by decide +kernel
theorem dX6_label_120 : decode cX6_label 120 = .ok (.iload 5, 2) := by decide +kernel
theorem dX6_label_122 : decode cX6_label 122 = .ok (.goto 20, 3) := by decide +kernel
theorem dX6_label_125 : decode cX6_label 125 = .ok (.iload 6, 2) := by decide +kernel
theorem dX6_label_127 : decode cX6_label 127 = .ok (.iconst 2, 1) := by decide +kernel
theorem dX6_label_128 : decode cX6_label 128 = .ok (.if_icmp .ne 10, 3) := by decide +kernel
theorem dX6_label_131 : decode cX6_label 131 = .ok (.iload 5, 2) := by decide +kernel
theorem dX6_label_133 : decode cX6_label 133 = .ok (.iconst 1, 1) := by decide +kernel
theorem dX6_label_134 : decode cX6_label 134 = .ok (.isub, 1) := by decide +kernel
theorem dX6_label_135 : decode cX6_label 135 = .ok (.goto 7, 3) := by decide +kernel
theorem dX6_label_138 : decode cX6_label 138 = .ok (.iload 5, 2) := by decide +kernel
theorem dX6_label_140 : decode cX6_label 140 = .ok (.iconst 1, 1) := by decide +kernel
theorem dX6_label_141 : decode cX6_label 141 = .ok (.iadd, 1) := by decide +kernel
theorem dX6_label_142 : decode cX6_label 142 = .ok (.istore 8, 2) := by decide +kernel
theorem dX6_label_144 : decode cX6_label 144 = .ok (.aload_n 0, 1) := by decide +kernel
theorem dX6_label_145 : decode cX6_label 145 = .ok (.iload 7, 2) := by decide +kernel
theorem dX6_label_147 : decode cX6_label 147 = .ok (.iload 8, 2) := by decide +kernel
theorem dX6_label_149 : decode cX6_label 149 = .ok (.iload_n 3, 1) := by decide +kernel
theorem dX6_label_150 : decode cX6_label 150 = .ok (.invokevirtual 214, 3) := by decide +kernel
theorem dX6_label_153 : decode cX6_label 153 = .ok (.ifCond .eq 68, 3) := by decide +kernel
theorem dX6_label_156 : decode cX6_label 156 = .ok (.aload_n 0, 1) := by decide +kernel
theorem dX6_label_157 : decode cX6_label 157 = .ok (.getfield 57, 3) := by decide +kernel
theorem dX6_label_160 : decode cX6_label 160 = .ok (.aload_n 0, 1) := by decide +kernel
theorem dX6_label_161 : decode cX6_label 161 = .ok (.getfield 90, 3) := by decide +kernel
theorem dX6_label_164 : decode cX6_label 164 = .ok (.iload 7, 2) := by decide +kernel
theorem dX6_label_166 : decode cX6_label 166 = .ok (.iastore, 1) := by decide +kernel
theorem dX6_label_167 : decode cX6_label 167 = .ok (.aload_n 0, 1) := by decide +kernel
theorem dX6_label_168 : decode cX6_label 168 = .ok (.getfield 60, 3) := by decide +kernel
theorem dX6_label_171 : decode cX6_label 171 = .ok (.aload_n 0, 1) := by decide +kernel
theorem dX6_label_172 : decode cX6_label 172 = .ok (.getfield 90, 3) := by decide +kernel
theorem dX6_label_175 : decode cX6_label 175 = .ok (.iload 8, 2) := by decide +kernel
theorem dX6_label_177 : decode cX6_label 177 = .ok (.iastore, 1) := by decide +kernel
theorem dX6_label_178 : decode cX6_label 178 = .ok (.aload_n 0, 1) := by decide +kernel
theorem dX6_label_179 : decode cX6_label 179 = .ok (.getfield 63, 3) := by decide +kernel
theorem dX6_label_182 : decode cX6_label 182 = .ok (.aload_n 0, 1) := by decide +kernel
theorem dX6_label_183 : decode cX6_label 183 = .ok (.getfield 90, 3) := by decide +kernel
theorem dX6_label_186 : decode cX6_label 186 = .ok (.iload_n 3, 1) := by decide +kernel
theorem dX6_label_187 : decode cX6_label 187 = .ok (.iastore, 1) := by decide +kernel
theorem dX6_label_188 : decode cX6_label 188 = .ok (.aload_n 0, 1) := by decide +kernel
theorem dX6_label_189 : decode cX6_label 189 = .ok (.getfield 66, 3) := by decide +kernel
theorem dX6_label_192 : decode cX6_label 192 = .ok (.aload_n 0, 1) := by decide +kernel
theorem dX6_label_193 : decode cX6_label 193 = .ok (.getfield 90, 3) := by decide +kernel
theorem dX6_label_196 : decode cX6_label 196 = .ok (.iload_n 1, 1) := by decide +kernel
theorem dX6_label_197 : decode cX6_label 197 = .ok (.iastore, 1) := by decide +kernel
theorem dX6_label_198 : decode cX6_label 198 = .ok (.aload_n 0, 1) := by decide +kernel
theorem dX6_label_199 : decode cX6_label 199 = .ok (.getfield 69, 3) := by decide +kernel
theorem dX6_label_202 : decode cX6_label 202 = .ok (.aload_n 0, 1) := by decide +kernel
theorem dX6_label_203 : decode cX6_label 203 = .ok (.getfield 90, 3) := by decide +kernel
theorem dX6_label_206 : decode cX6_label 206 = .ok (.iload_n 2, 1) := by decide +kernel
theorem dX6_label_207 : decode cX6_label 207 = .ok (.iastore, 1) := by decide +kernel
theorem dX6_label_208 : decode cX6_label 208 = .ok (.aload_n 0, 1) := by decide +kernel
theorem dX6_label_209 : decode cX6_label 209 = .ok (.dup, 1) := by decide +kernel
theorem dX6_label_210 : decode cX6_label 210 = .ok (.getfield 90, 3) := by decide +kernel
theorem dX6_label_213 : decode cX6_label 213 = .ok (.iconst 1, 1) := by decide +kernel
theorem dX6_label_214 : decode cX6_label 214 = .ok (.iadd, 1) := by decide +kernel
theorem dX6_label_215 : decode cX6_label 215 = .ok (.putfield 90, 3) := by decide +kernel
theorem dX6_label_218 : decode cX6_label 218 = .ok (.iload 6, 2) := by decide +kernel
theorem dX6_label_220 : decode cX6_label 220 = .ok (.ireturn, 1) := by decide +kernel
theorem dX6_label_221 : decode cX6_label 221 = .ok (.iinc 6 1, 3) := by decide +kernel
theorem dX6_label_224 : decode cX6_label 224 = .ok (.goto (-145), 3) := by decide +kernel
theorem dX6_label_227 : decode cX6_label 227 = .ok (.bipush (-9), 2) := by decide +kernel
theorem dX6_label_229 : decode cX6_label 229 = .ok (.ireturn, 1) := by decide +kernel
set_option maxRecDepth 20000 in
theorem ggX6_labelled_X6_in : GoodIn wsX6_labelled wsX6_in := goodIn_r _ [10] (by decide +kernel) (by decide +kernel)
set_option maxRecDepth 20000 in
theorem gX6_labelled_X6_in : GoodIn wsX6_labelled (va_wsS RX6 86 yX6_in wsX6_in) := goodIn_app (goodIn_of _ (by decide +kernel)) ggX6_labelled_X6_in
theorem dX6_labelled_0 : decode cX6_labelled 0 = .ok (.iload_n 1, 1) := by decide +kernel
theorem dX6_labelled_1 : decode cX6_labelled 1 = .ok (.iconst 0, 1) := by decide +kernel
theorem dX6_labelled_2 : decode cX6_labelled 2 = .ok (.aload_n 0, 1) := by decide +kernel
theorem dX6_labelled_3 : decode cX6_labelled 3 = .ok (.getfield 90, 3) := by decide +kernel
theorem dX6_labelled_6 : decode cX6_labelled 6 = .ok (.iconst 1, 1) := by decide +kernel
theorem dX6_labelled_7 : decode cX6_labelled 7 = .ok (.isub, 1) := by decide +kernel
theorem dX6_labelled_8 : decode cX6_labelled 8 = .ok (.invokestatic 86, 3) := by decide +kernel
theorem dX6_labelled_11 : decode cX6_labelled 11 = .ok (.ifCond .ne 5, 3) := by decide +kernel
theorem dX6_labelled_14 : decode cX6_labelled 14 = .ok (.iconst (-1), 1) := by decide +kernel
theorem dX6_labelled_15 : decode cX6_labelled 15 = .ok (.ireturn, 1) := by decide +kernel
theorem dX6_labelled_16 : decode cX6_labelled 16 = .ok (.iload_n 2, 1) := by decide +kernel
theorem dX6_labelled_17 : decode cX6_labelled 17 = .ok (.tableswitch 70 0 4 #[35, 42, 49, 56, 63], 35) := by decide +kernel
theorem dX6_labelled_52 : decode cX6_labelled 52 = .ok (.aload_n 0, 1) := by decide +kernel
theorem dX6_labelled_53 : decode cX6_labelled 53 = .ok (.getfield 57, 3) := by decide +kernel
theorem dX6_labelled_56 : decode cX6_labelled 56 = .ok (.iload_n 1, 1) := by decide +kernel
theorem dX6_labelled_57 : decode cX6_labelled 57 = .ok (.iaload, 1) := by decide +kernel
theorem dX6_labelled_58 : decode cX6_labelled 58 = .ok (.ireturn, 1) := by decide +kernel
theorem dX6_labelled_59 : decode cX6_labelled 59 = .ok (.aload_n 0, 1) := by decide +kernel
theorem dX6_labelled_60 : decode cX6_labelled 60 = .ok (.getfield 60, 3) := by decide +kernel
theorem dX6_labelled_63 : decode cX6_labelled 63 = .ok (.iload_n 1, 1) := by decide +kernel
theorem dX6_labelled_64 : decode cX6_labelled 64 = .ok (.iaload, 1) := by decide +kernel
theorem dX6_labelled_65 : decode cX6_labelled 65 = .ok (.ireturn, 1) := by decide +kernel
theorem dX6_labelled_66 : decode cX6_labelled 66 = .ok (.aload_n 0, 1) := by decide +kernel
theorem dX6_labelled_67 : decode cX6_labelled 67 = .ok (.getfield 63, 3) := by decide +kernel
theorem dX6_labelled_70 : decode cX6_labelled 70 = .ok (.iload_n 1, 1) := by decide +kernel
theorem dX6_labelled_71 : decode cX6_labelled 71 = .ok (.iaload, 1) := by decide +kernel
theorem dX6_labelled_72 : decode cX6_labelled 72 = .ok (.ireturn, 1) := by decide +kernel
theorem dX6_labelled_73 : decode cX6_labelled 73 = .ok (.aload_n 0, 1) := by decide +kernel
theorem dX6_labelled_74 : decode cX6_labelled 74 = .ok (.getfield 66, 3) := by decide +kernel
theorem dX6_labelled_77 : decode cX6_labelled 77 = .ok (.iload_n 1, 1) := by decide +kernel
theorem dX6_labelled_78 : decode cX6_labelled 78 = .ok (.iaload, 1) := by decide +kernel
theorem dX6_labelled_79 : decode cX6_labelled 79 = .ok (.ireturn, 1) := by decide +kernel
theorem dX6_labelled_80 : decode cX6_labelled 80 = .ok (.aload_n 0, 1) := by decide +kernel
theorem dX6_labelled_81 : decode cX6_labelled 81 = .ok (.getfield 69, 3) := by decide +kernel
theorem dX6_labelled_84 : decode cX6_labelled 84 = .ok (.iload_n 1, 1) := by decide +kernel
theorem dX6_labelled_85 : decode cX6_labelled 85 = .ok (.iaload, 1) := by decide +kernel
theorem dX6_labelled_86 : decode cX6_labelled 86 = .ok (.ireturn, 1) := by decide +kernel
theorem dX6_labelled_87 : decode cX6_labelled 87 = .ok (.iconst (-1), 1) := by decide +kernel
theorem dX6_labelled_88 : decode cX6_labelled 88 = .ok (.ireturn, 1) := by decide +kernel
set_option maxRecDepth 20000 in
theorem ggX6_legend_X6_in : GoodIn wsX6_legend wsX6_in := goodIn_r _ [6] (by decide +kernel) (by decide +kernel)
set_option maxRecDepth 20000 in
theorem gX6_legend_X6_in : GoodIn wsX6_legend (va_wsS RX6 86 yX6_in wsX6_in) := goodIn_app (goodIn_of _ (by decide +kernel)) ggX6_legend_X6_in
set_option maxRecDepth 20000 in
theorem ggX6_legend_X6_draws : GoodIn wsX6_legend wsX6_draws := goodIn_r _ [10, 11, 12, 13, 14, 15, 16, 17, 18, 5, 19, 20, 21, 22, 23, 24, 25, 26, 27, 28, 29, 30, 31, 32, 33, 34, 35, 36, 37, 38, 39, 40, 41, 42, 43, 44, 45, 46, 47, 48, 49, 50, 51, 52, 53, 54, 55, 1, 2, 56, 57, 58, 59, 60, 61, 62, 63, 64, 65, 66, 67, 68, 69, 70, 71, 72, 73, 74, 75, 76, 77, 78, 79, 80, 81, 82, 83, 84, 85, 86, 87, 88, 89, 90, 108, 109, 110, 111, 112, 113, 114, 115, 116, 117, 118, 119, 120, 121, 122, 123, 124, 125, 126, 127, 128, 129, 130, 131, 132, 133] (by decide +kernel) (by decide +kernel)
set_option maxRecDepth 20000 in
theorem gX6_legend_X6_draws : GoodIn wsX6_legend (wsV RX6 174 RX6 yX6_draws wsX6_draws) := goodIn_app (goodIn_of _ (by decide +kernel)) ggX6_legend_X6_draws
set_option maxRecDepth 20000 in
theorem ggX6_legend_X6_signAt : GoodIn wsX6_legend wsX6_signAt := goodIn_r _ [94, 1, 12, 95, 96, 97, 5, 98, 99, 100, 101, 102, 3, 4, 6, 103, 104, 105, 106, 14, 107, 13, 108, 109, 110, 111, 112, 113, 114, 115, 116, 117, 118, 119, 120, 121, 122, 123, 124, 125, 126, 127, 128, 129, 130, 131, 132, 133] (by decide +kernel) (by decide +kernel)
set_option maxRecDepth 20000 in
theorem gX6_legend_X6_signAt : GoodIn wsX6_legend (wsV RX6 207 RX6 yX6_signAt wsX6_signAt) := goodIn_app (goodIn_of _ (by decide +kernel)) ggX6_legend_X6_signAt
theorem dX6_legend_0 : decode cX6_legend 0 = .ok (.iload_n 1, 1) := by decide +kernel
theorem dX6_legend_1 : decode cX6_legend 1 = .ok (.iconst 1, 1) := by decide +kernel
theorem dX6_legend_2 : decode cX6_legend 2 = .ok (.aload_n 0, 1) := by decide +kernel
theorem dX6_legend_3 : decode cX6_legend 3 = .ok (.getfield 7, 3) := by decide +kernel
theorem dX6_legend_6 : decode cX6_legend 6 = .ok (.invokestatic 86, 3) := by decide +kernel
theorem dX6_legend_9 : decode cX6_legend 9 = .ok (.ifCond .eq 15, 3) := by decide +kernel
theorem dX6_legend_12 : decode cX6_legend 12 = .ok (.iload_n 2, 1) := by decide +kernel
theorem dX6_legend_13 : decode cX6_legend 13 = .ok (.iconst 1, 1) := by decide +kernel
theorem dX6_legend_14 : decode cX6_legend 14 = .ok (.aload_n 0, 1) := by decide +kernel
theorem dX6_legend_15 : decode cX6_legend 15 = .ok (.getfield 13, 3) := by decide +kernel
theorem dX6_legend_18 : decode cX6_legend 18 = .ok (.invokestatic 86, 3) := by decide +kernel
theorem dX6_legend_21 : decode cX6_legend 21 = .ok (.ifCond .ne 5, 3) := by decide +kernel
theorem dX6_legend_24 : decode cX6_legend 24 = .ok (.iconst (-1), 1) := by decide +kernel
theorem dX6_legend_25 : decode cX6_legend 25 = .ok (.ireturn, 1) := by decide +kernel
theorem dX6_legend_26 : decode cX6_legend 26 = .ok (.aload_n 0, 1) := by decide +kernel
theorem dX6_legend_27 : decode cX6_legend 27 = .ok (.invokevirtual 174, 3) := by decide +kernel
theorem dX6_legend_30 : decode cX6_legend 30 = .ok (.iconst 0, 1) := by decide +kernel
theorem dX6_legend_31 : decode cX6_legend 31 = .ok (.istore_n 3, 1) := by decide +kernel
theorem dX6_legend_32 : decode cX6_legend 32 = .ok (.sipush 641, 3) := by decide +kernel
theorem dX6_legend_35 : decode cX6_legend 35 = .ok (.istore 4, 2) := by decide +kernel
theorem dX6_legend_37 : decode cX6_legend 37 = .ok (.iconst 0, 1) := by decide +kernel
theorem dX6_legend_38 : decode cX6_legend 38 = .ok (.istore 5, 2) := by decide +kernel
theorem dX6_legend_40 : decode cX6_legend 40 = .ok (.iload 5, 2) := by decide +kernel
theorem dX6_legend_42 : decode cX6_legend 42 = .ok (.iconst 4, 1) := by decide +kernel
theorem dX6_legend_43 : decode cX6_legend 43 = .ok (.if_icmp .ge 140, 3) := by decide +kernel
theorem dX6_legend_46 : decode cX6_legend 46 = .ok (.iload 5, 2) := by decide +kernel
theorem dX6_legend_48 : decode cX6_legend 48 = .ok (.iconst 2, 1) := by decide +kernel
theorem dX6_legend_49 : decode cX6_legend 49 = .ok (.irem, 1) := by decide +kernel
theorem dX6_legend_50 : decode cX6_legend 50 = .ok (.ifCond .ne 7, 3) := by decide +kernel
theorem dX6_legend_53 : decode cX6_legend 53 = .ok (.iconst 0, 1) := by decide +kernel
theorem dX6_legend_54 : decode cX6_legend 54 = .ok (.goto 9, 3) := by decide +kernel
theorem dX6_legend_57 : decode cX6_legend 57 = .ok (.aload_n 0, 1) := by decide +kernel
theorem dX6_legend_58 : decode cX6_legend 58 = .ok (.getfield 7, 3) := by decide +kernel
theorem dX6_legend_61 : decode cX6_legend 61 = .ok (.iload_n 1, 1) := by decide +kernel
theorem dX6_legend_62 : decode cX6_legend 62 = .ok (.isub, 1) := by decide +kernel
theorem dX6_legend_63 : decode cX6_legend 63 = .ok (.istore 6, 2) := by decide +kernel
theorem dX6_legend_65 : decode cX6_legend 65 = .ok (.iload 5, 2) := by decide +kernel
theorem dX6_legend_67 : decode cX6_legend 67 = .ok (.iconst 2, 1) := by decide +kernel
theorem dX6_legend_68 : decode cX6_legend 68 = .ok (.if_icmp .ge 7, 3) := by decide +kernel
theorem dX6_legend_71 : decode cX6_legend 71 = .ok (.iconst 0, 1) := by decide +kernel
theorem dX6_legend_72 : decode cX6_legend 72 = .ok (.goto 9, 3) := by decide +kernel
theorem dX6_legend_75 : decode cX6_legend 75 = .ok (.aload_n 0, 1) := by decide +kernel
theorem dX6_legend_76 : decode cX6_legend 76 = .ok (.getfield 13, 3) := by decide +kernel
theorem dX6_legend_79 : decode cX6_legend 79 = .ok (.iload_n 2, 1) := by decide +kernel
theorem dX6_legend_80 : decode cX6_legend 80 = .ok (.isub, 1) := by decide +kernel
theorem dX6_legend_81 : decode cX6_legend 81 = .ok (.istore 7, 2) := by decide +kernel
theorem dX6_legend_83 : decode cX6_legend 83 = .ok (.iconst 0, 1) := by decide +kernel
theorem dX6_legend_84 : decode cX6_legend 84 = .ok (.istore 8, 2) := by decide +kernel
theorem dX6_legend_86 : decode cX6_legend 86 = .ok (.iload 7, 2) := by decide +kernel
theorem dX6_legend_88 : decode cX6_legend 88 = .ok (.istore 9, 2) := by decide +kernel
theorem dX6_legend_90 : decode cX6_legend 90 = .ok (.iload 9, 2) := by decide +kernel
theorem dX6_legend_92 : decode cX6_legend 92 = .ok (.iload 7, 2) := by decide +kernel
theorem dX6_legend_94 : decode cX6_legend 94 = .ok (.iload_n 2, 1) := by decide +kernel
theorem dX6_legend_95 : decode cX6_legend 95 = .ok (.iadd, 1) := by decide +kernel
theorem dX6_legend_96 : decode cX6_legend 96 = .ok (.if_icmp .ge 51, 3) := by decide +kernel
theorem dX6_legend_99 : decode cX6_legend 99 = .ok (.iload 6, 2) := by decide +kernel
theorem dX6_legend_101 : decode cX6_legend 101 = .ok (.istore 10, 2) := by decide +kernel
theorem dX6_legend_103 : decode cX6_legend 103 = .ok (.iload 10, 2) := by decide +kernel
theorem dX6_legend_105 : decode cX6_legend 105 = .ok (.iload 6, 2) := by decide +kernel
theorem dX6_legend_107 : decode cX6_legend 107 = .ok (.iload_n 1, 1) := by decide +kernel
theorem dX6_legend_108 : decode cX6_legend 108 = .ok (.iadd, 1) := by decide +kernel
theorem dX6_legend_109 : decode cX6_legend 109 = .ok (.if_icmp .ge 32, 3) := by decide +kernel
theorem dX6_legend_112 : decode cX6_legend 112 = .ok (.iload 8, 2) := by decide +kernel
theorem dX6_legend_114 : decode cX6_legend 114 = .ok (.aload_n 0, 1) := by decide +kernel
theorem dX6_legend_115 : decode cX6_legend 115 = .ok (.iload 10, 2) := by decide +kernel
theorem dX6_legend_117 : decode cX6_legend 117 = .ok (.iload 9, 2) := by decide +kernel
theorem dX6_legend_119 : decode cX6_legend 119 = .ok (.invokevirtual 207, 3) := by decide +kernel
theorem dX6_legend_122 : decode cX6_legend 122 = .ok (.bipush 32, 2) := by decide +kernel
theorem dX6_legend_124 : decode cX6_legend 124 = .ok (.if_icmp .eq 7, 3) := by decide +kernel
theorem dX6_legend_127 : decode cX6_legend 127 = .ok (.iconst 1, 1) := by decide +kernel
theorem dX6_legend_128 : decode cX6_legend 128 = .ok (.goto 4, 3) := by decide +kernel
theorem dX6_legend_131 : decode cX6_legend 131 = .ok (.iconst 0, 1) := by decide +kernel
theorem dX6_legend_132 : decode cX6_legend 132 = .ok (.iadd, 1) := by decide +kernel
theorem dX6_legend_133 : decode cX6_legend 133 = .ok (.istore 8, 2) := by decide +kernel
theorem dX6_legend_135 : decode cX6_legend 135 = .ok (.iinc 10 1, 3) := by decide +kernel
theorem dX6_legend_138 : decode cX6_legend 138 = .ok (.goto (-35), 3) := by decide +kernel
theorem dX6_legend_141 : decode cX6_legend 141 = .ok (.iinc 9 1, 3) := by decide +kernel
theorem dX6_legend_144 : decode cX6_legend 144 = .ok (.goto (-54), 3) := by decide +kernel
theorem dX6_legend_147 : decode cX6_legend 147 = .ok (.iload 8, 2) := by decide +kernel
theorem dX6_legend_149 : decode cX6_legend 149 = .ok (.iload 4, 2) := by decide +kernel
theorem dX6_legend_151 : decode cX6_legend 151 = .ok (.if_icmp .ge 8, 3) := by decide +kernel
theorem dX6_legend_154 : decode cX6_legend 154 = .ok (.iload 5, 2) := by decide +kernel
theorem dX6_legend_156 : decode cX6_legend 156 = .ok (.goto 4, 3) := by decide +kernel
theorem dX6_legend_159 : decode cX6_legend 159 = .ok (.iload_n 3, 1) := by decide +kernel
theorem dX6_legend_160 : decode cX6_legend 160 = .ok (.istore_n 3, 1) := by decide +kernel
theorem dX6_legend_161 : decode cX6_legend 161 = .ok (.iload 8, 2) := by decide +kernel
theorem dX6_legend_163 : decode cX6_legend 163 = .ok (.iload 4, 2) := by decide +kernel
theorem dX6_legend_165 : decode cX6_legend 165 = .ok (.if_icmp .ge 8, 3) := by decide +kernel
theorem dX6_legend_168 : decode cX6_legend 168 = .ok (.iload 8, 2) := by decide +kernel
theorem dX6_legend_170 : decode cX6_legend 170 = .ok (.goto 5, 3) := by decide +kernel
theorem dX6_legend_173 : decode cX6_legend 173 = .ok (.iload 4, 2) := by decide +kernel
theorem dX6_legend_175 : decode cX6_legend 175 = .ok (.istore 4, 2) := by decide +kernel
theorem dX6_legend_177 : decode cX6_legend 177 = .ok (.iinc 5 1, 3) := by decide +kernel
theorem dX6_legend_180 : decode cX6_legend 180 = .ok (.goto (-140), 3) := by decide +kernel
theorem dX6_legend_183 : decode cX6_legend 183 = .ok (.iload_n 3, 1) := by decide +kernel
theorem dX6_legend_184 : decode cX6_legend 184 = .ok (.ireturn, 1) := by decide +kernel
theorem dX6_told_0 : decode cX6_told 0 = .ok (.iload_n 1, 1) := by decide +kernel
theorem dX6_told_1 : decode cX6_told 1 = .ok (.tableswitch 104 0 9 #[55, 60, 65, 70, 75, 75, 84, 84, 94, 94], 55) := by decide +kernel
theorem dX6_told_56 : decode cX6_told 56 = .ok (.aload_n 0, 1) := by decide +kernel
theorem dX6_told_57 : decode cX6_told 57 = .ok (.getfield 81, 3) := by decide +kernel
theorem dX6_told_60 : decode cX6_told 60 = .ok (.ireturn, 1) := by decide +kernel
theorem dX6_told_61 : decode cX6_told 61 = .ok (.aload_n 0, 1) := by decide +kernel
theorem dX6_told_62 : decode cX6_told 62 = .ok (.getfield 90, 3) := by decide +kernel
theorem dX6_told_65 : decode cX6_told 65 = .ok (.ireturn, 1) := by decide +kernel
theorem dX6_told_66 : decode cX6_told 66 = .ok (.aload_n 0, 1) := by decide +kernel
theorem dX6_told_67 : decode cX6_told 67 = .ok (.getfield 7, 3) := by decide +kernel
theorem dX6_told_70 : decode cX6_told 70 = .ok (.ireturn, 1) := by decide +kernel
theorem dX6_told_71 : decode cX6_told 71 = .ok (.aload_n 0, 1) := by decide +kernel
theorem dX6_told_72 : decode cX6_told 72 = .ok (.getfield 13, 3) := by decide +kernel
theorem dX6_told_75 : decode cX6_told 75 = .ok (.ireturn, 1) := by decide +kernel
theorem dX6_told_76 : decode cX6_told 76 = .ok (.aload_n 0, 1) := by decide +kernel
theorem dX6_told_77 : decode cX6_told 77 = .ok (.getfield 16, 3) := by decide +kernel
theorem dX6_told_80 : decode cX6_told 80 = .ok (.iload_n 1, 1) := by decide +kernel
theorem dX6_told_81 : decode cX6_told 81 = .ok (.iconst 4, 1) := by decide +kernel
theorem dX6_told_82 : decode cX6_told 82 = .ok (.isub, 1) := by decide +kernel
theorem dX6_told_83 : decode cX6_told 83 = .ok (.iaload, 1) := by decide +kernel
theorem dX6_told_84 : decode cX6_told 84 = .ok (.ireturn, 1) := by decide +kernel
theorem dX6_told_85 : decode cX6_told 85 = .ok (.aload_n 0, 1) := by decide +kernel
theorem dX6_told_86 : decode cX6_told 86 = .ok (.getfield 20, 3) := by decide +kernel
theorem dX6_told_89 : decode cX6_told 89 = .ok (.iload_n 1, 1) := by decide +kernel
theorem dX6_told_90 : decode cX6_told 90 = .ok (.bipush 6, 2) := by decide +kernel
theorem dX6_told_92 : decode cX6_told 92 = .ok (.isub, 1) := by decide +kernel
theorem dX6_told_93 : decode cX6_told 93 = .ok (.iaload, 1) := by decide +kernel
theorem dX6_told_94 : decode cX6_told 94 = .ok (.ireturn, 1) := by decide +kernel
theorem dX6_told_95 : decode cX6_told 95 = .ok (.aload_n 0, 1) := by decide +kernel
theorem dX6_told_96 : decode cX6_told 96 = .ok (.getfield 23, 3) := by decide +kernel
theorem dX6_told_99 : decode cX6_told 99 = .ok (.iload_n 1, 1) := by decide +kernel
theorem dX6_told_100 : decode cX6_told 100 = .ok (.bipush 8, 2) := by decide +kernel
theorem dX6_told_102 : decode cX6_told 102 = .ok (.isub, 1) := by decide +kernel
theorem dX6_told_103 : decode cX6_told 103 = .ok (.iaload, 1) := by decide +kernel
theorem dX6_told_104 : decode cX6_told 104 = .ok (.ireturn, 1) := by decide +kernel
theorem dX6_told_105 : decode cX6_told 105 = .ok (.ldc 134, 2) := by decide +kernel
theorem dX6_told_107 : decode cX6_told 107 = .ok (.ireturn, 1) := by decide +kernel
theorem dJ6_bitCount_0f7a4_0 : decode cJ6_bitCount_0f7a4 0 = .ok (.iload_n 0, 1) := by decide +kernel
theorem dJ6_bitCount_0f7a4_1 : decode cJ6_bitCount_0f7a4 1 = .ok (.iload_n 0, 1) := by decide +kernel
theorem dJ6_bitCount_0f7a4_2 : decode cJ6_bitCount_0f7a4 2 = .ok (.iconst 1, 1) := by decide +kernel
theorem dJ6_bitCount_0f7a4_3 : decode cJ6_bitCount_0f7a4 3 = .ok (.iushr, 1) := by decide +kernel
theorem dJ6_bitCount_0f7a4_4 : decode cJ6_bitCount_0f7a4 4 = .ok (.ldc_w 265, 3) := by decide +kernel
theorem dJ6_bitCount_0f7a4_7 : decode cJ6_bitCount_0f7a4 7 = .ok (.iand, 1) := by decide +kernel
theorem dJ6_bitCount_0f7a4_8 : decode cJ6_bitCount_0f7a4 8 = .ok (.isub, 1) := by decide +kernel
theorem dJ6_bitCount_0f7a4_9 : decode cJ6_bitCount_0f7a4 9 = .ok (.istore_n 0, 1) := by decide +kernel
theorem dJ6_bitCount_0f7a4_10 : decode cJ6_bitCount_0f7a4 10 = .ok (.iload_n 0, 1) := by decide +kernel
theorem dJ6_bitCount_0f7a4_11 : decode cJ6_bitCount_0f7a4 11 = .ok (.ldc_w 266, 3) := by decide +kernel
theorem dJ6_bitCount_0f7a4_14 : decode cJ6_bitCount_0f7a4 14 = .ok (.iand, 1) := by decide +kernel
theorem dJ6_bitCount_0f7a4_15 : decode cJ6_bitCount_0f7a4 15 = .ok (.iload_n 0, 1) := by decide +kernel
theorem dJ6_bitCount_0f7a4_16 : decode cJ6_bitCount_0f7a4 16 = .ok (.iconst 2, 1) := by decide +kernel
theorem dJ6_bitCount_0f7a4_17 : decode cJ6_bitCount_0f7a4 17 = .ok (.iushr, 1) := by decide +kernel
theorem dJ6_bitCount_0f7a4_18 : decode cJ6_bitCount_0f7a4 18 = .ok (.ldc_w 266, 3) := by decide +kernel
theorem dJ6_bitCount_0f7a4_21 : decode cJ6_bitCount_0f7a4 21 = .ok (.iand, 1) := by decide +kernel
theorem dJ6_bitCount_0f7a4_22 : decode cJ6_bitCount_0f7a4 22 = .ok (.iadd, 1) := by decide +kernel
theorem dJ6_bitCount_0f7a4_23 : decode cJ6_bitCount_0f7a4 23 = .ok (.istore_n 0, 1) := by decide +kernel
theorem dJ6_bitCount_0f7a4_24 : decode cJ6_bitCount_0f7a4 24 = .ok (.iload_n 0, 1) := by decide +kernel
theorem dJ6_bitCount_0f7a4_25 : decode cJ6_bitCount_0f7a4 25 = .ok (.iload_n 0, 1) := by decide +kernel
theorem dJ6_bitCount_0f7a4_26 : decode cJ6_bitCount_0f7a4 26 = .ok (.iconst 4, 1) := by decide +kernel
theorem dJ6_bitCount_0f7a4_27 : decode cJ6_bitCount_0f7a4 27 = .ok (.iushr, 1) := by decide +kernel
theorem dJ6_bitCount_0f7a4_28 : decode cJ6_bitCount_0f7a4 28 = .ok (.iadd, 1) := by decide +kernel
theorem dJ6_bitCount_0f7a4_29 : decode cJ6_bitCount_0f7a4 29 = .ok (.ldc_w 267, 3) := by decide +kernel
theorem dJ6_bitCount_0f7a4_32 : decode cJ6_bitCount_0f7a4 32 = .ok (.iand, 1) := by decide +kernel
theorem dJ6_bitCount_0f7a4_33 : decode cJ6_bitCount_0f7a4 33 = .ok (.istore_n 0, 1) := by decide +kernel
theorem dJ6_bitCount_0f7a4_34 : decode cJ6_bitCount_0f7a4 34 = .ok (.iload_n 0, 1) := by decide +kernel
theorem dJ6_bitCount_0f7a4_35 : decode cJ6_bitCount_0f7a4 35 = .ok (.iload_n 0, 1) := by decide +kernel
theorem dJ6_bitCount_0f7a4_36 : decode cJ6_bitCount_0f7a4 36 = .ok (.bipush 8, 2) := by decide +kernel
theorem dJ6_bitCount_0f7a4_38 : decode cJ6_bitCount_0f7a4 38 = .ok (.iushr, 1) := by decide +kernel
theorem dJ6_bitCount_0f7a4_39 : decode cJ6_bitCount_0f7a4 39 = .ok (.iadd, 1) := by decide +kernel
theorem dJ6_bitCount_0f7a4_40 : decode cJ6_bitCount_0f7a4 40 = .ok (.istore_n 0, 1) := by decide +kernel
theorem dJ6_bitCount_0f7a4_41 : decode cJ6_bitCount_0f7a4 41 = .ok (.iload_n 0, 1) := by decide +kernel
theorem dJ6_bitCount_0f7a4_42 : decode cJ6_bitCount_0f7a4 42 = .ok (.iload_n 0, 1) := by decide +kernel
theorem dJ6_bitCount_0f7a4_43 : decode cJ6_bitCount_0f7a4 43 = .ok (.bipush 16, 2) := by decide +kernel
theorem dJ6_bitCount_0f7a4_45 : decode cJ6_bitCount_0f7a4 45 = .ok (.iushr, 1) := by decide +kernel
theorem dJ6_bitCount_0f7a4_46 : decode cJ6_bitCount_0f7a4 46 = .ok (.iadd, 1) := by decide +kernel
theorem dJ6_bitCount_0f7a4_47 : decode cJ6_bitCount_0f7a4 47 = .ok (.istore_n 0, 1) := by decide +kernel
theorem dJ6_bitCount_0f7a4_48 : decode cJ6_bitCount_0f7a4 48 = .ok (.iload_n 0, 1) := by decide +kernel
theorem dJ6_bitCount_0f7a4_49 : decode cJ6_bitCount_0f7a4 49 = .ok (.bipush 63, 2) := by decide +kernel
theorem dJ6_bitCount_0f7a4_51 : decode cJ6_bitCount_0f7a4 51 = .ok (.iand, 1) := by decide +kernel
theorem dJ6_bitCount_0f7a4_52 : decode cJ6_bitCount_0f7a4 52 = .ok (.ireturn, 1) := by decide +kernel
theorem dJ9_floorDiv_7cf53_0 : decode cJ9_floorDiv_7cf53 0 = .ok (.iload_n 0, 1) := by decide +kernel
theorem dJ9_floorDiv_7cf53_1 : decode cJ9_floorDiv_7cf53 1 = .ok (.iload_n 1, 1) := by decide +kernel
theorem dJ9_floorDiv_7cf53_2 : decode cJ9_floorDiv_7cf53 2 = .ok (.idiv, 1) := by decide +kernel
theorem dJ9_floorDiv_7cf53_3 : decode cJ9_floorDiv_7cf53 3 = .ok (.istore_n 2, 1) := by decide +kernel
theorem dJ9_floorDiv_7cf53_4 : decode cJ9_floorDiv_7cf53 4 = .ok (.iload_n 0, 1) := by decide +kernel
theorem dJ9_floorDiv_7cf53_5 : decode cJ9_floorDiv_7cf53 5 = .ok (.iload_n 1, 1) := by decide +kernel
theorem dJ9_floorDiv_7cf53_6 : decode cJ9_floorDiv_7cf53 6 = .ok (.ixor, 1) := by decide +kernel
theorem dJ9_floorDiv_7cf53_7 : decode cJ9_floorDiv_7cf53 7 = .ok (.ifCond .ge 14, 3) := by decide +kernel
theorem dJ9_floorDiv_7cf53_10 : decode cJ9_floorDiv_7cf53 10 = .ok (.iload_n 2, 1) := by decide +kernel
theorem dJ9_floorDiv_7cf53_11 : decode cJ9_floorDiv_7cf53 11 = .ok (.iload_n 1, 1) := by decide +kernel
theorem dJ9_floorDiv_7cf53_12 : decode cJ9_floorDiv_7cf53 12 = .ok (.imul, 1) := by decide +kernel
theorem dJ9_floorDiv_7cf53_13 : decode cJ9_floorDiv_7cf53 13 = .ok (.iload_n 0, 1) := by decide +kernel
theorem dJ9_floorDiv_7cf53_14 : decode cJ9_floorDiv_7cf53 14 = .ok (.if_icmp .eq 7, 3) := by decide +kernel
theorem dJ9_floorDiv_7cf53_17 : decode cJ9_floorDiv_7cf53 17 = .ok (.iload_n 2, 1) := by decide +kernel
theorem dJ9_floorDiv_7cf53_18 : decode cJ9_floorDiv_7cf53 18 = .ok (.iconst 1, 1) := by decide +kernel
theorem dJ9_floorDiv_7cf53_19 : decode cJ9_floorDiv_7cf53 19 = .ok (.isub, 1) := by decide +kernel
theorem dJ9_floorDiv_7cf53_20 : decode cJ9_floorDiv_7cf53 20 = .ok (.ireturn, 1) := by decide +kernel
theorem dJ9_floorDiv_7cf53_21 : decode cJ9_floorDiv_7cf53 21 = .ok (.iload_n 2, 1) := by decide +kernel
theorem dJ9_floorDiv_7cf53_22 : decode cJ9_floorDiv_7cf53 22 = .ok (.ireturn, 1) := by decide +kernel
theorem dJ9_abs_0f7a4_0 : decode cJ9_abs_0f7a4 0 = .ok (.iload_n 0, 1) := by decide +kernel
theorem dJ9_abs_0f7a4_1 : decode cJ9_abs_0f7a4 1 = .ok (.ifCond .ge 8, 3) := by decide +kernel
theorem dJ9_abs_0f7a4_4 : decode cJ9_abs_0f7a4 4 = .ok (.iload_n 0, 1) := by decide +kernel
theorem dJ9_abs_0f7a4_5 : decode cJ9_abs_0f7a4 5 = .ok (.ineg, 1) := by decide +kernel
theorem dJ9_abs_0f7a4_6 : decode cJ9_abs_0f7a4 6 = .ok (.goto 4, 3) := by decide +kernel
theorem dJ9_abs_0f7a4_9 : decode cJ9_abs_0f7a4 9 = .ok (.iload_n 0, 1) := by decide +kernel
theorem dJ9_abs_0f7a4_10 : decode cJ9_abs_0f7a4 10 = .ok (.ireturn, 1) := by decide +kernel
theorem dJ9_max_7cf53_0 : decode cJ9_max_7cf53 0 = .ok (.iload_n 0, 1) := by decide +kernel
theorem dJ9_max_7cf53_1 : decode cJ9_max_7cf53 1 = .ok (.iload_n 1, 1) := by decide +kernel
theorem dJ9_max_7cf53_2 : decode cJ9_max_7cf53 2 = .ok (.if_icmp .lt 7, 3) := by decide +kernel
theorem dJ9_max_7cf53_5 : decode cJ9_max_7cf53 5 = .ok (.iload_n 0, 1) := by decide +kernel
theorem dJ9_max_7cf53_6 : decode cJ9_max_7cf53 6 = .ok (.goto 4, 3) := by decide +kernel
theorem dJ9_max_7cf53_9 : decode cJ9_max_7cf53 9 = .ok (.iload_n 1, 1) := by decide +kernel
theorem dJ9_max_7cf53_10 : decode cJ9_max_7cf53 10 = .ok (.ireturn, 1) := by decide +kernel
theorem dJ9_min_7cf53_0 : decode cJ9_min_7cf53 0 = .ok (.iload_n 0, 1) := by decide +kernel
theorem dJ9_min_7cf53_1 : decode cJ9_min_7cf53 1 = .ok (.iload_n 1, 1) := by decide +kernel
theorem dJ9_min_7cf53_2 : decode cJ9_min_7cf53 2 = .ok (.if_icmp .gt 7, 3) := by decide +kernel
theorem dJ9_min_7cf53_5 : decode cJ9_min_7cf53 5 = .ok (.iload_n 0, 1) := by decide +kernel
theorem dJ9_min_7cf53_6 : decode cJ9_min_7cf53 6 = .ok (.goto 4, 3) := by decide +kernel
theorem dJ9_min_7cf53_9 : decode cJ9_min_7cf53 9 = .ok (.iload_n 1, 1) := by decide +kernel
theorem dJ9_min_7cf53_10 : decode cJ9_min_7cf53 10 = .ok (.ireturn, 1) := by decide +kernel
theorem dJxa1e45_init_da8c8_0 : decode cJxa1e45_init_da8c8 0 = .ok (.aload_n 0, 1) := by decide +kernel
theorem dJxa1e45_init_da8c8_1 : decode cJxa1e45_init_da8c8 1 = .ok (.invokespecial 1, 3) := by decide +kernel
theorem dJxa1e45_init_da8c8_4 : decode cJxa1e45_init_da8c8 4 = .ok (.return_, 1) := by decide +kernel
set_option maxRecDepth 20000 in
theorem ggJxc12de_init_da8c8_Jxa1e45_init_da8c8 : GoodIn wsJxc12de_init_da8c8 wsJxa1e45_init_da8c8 := goodIn_r _ [5, 6, 7, 8] (by decide +kernel) (by decide +kernel)
set_option maxRecDepth 20000 in
theorem gJxc12de_init_da8c8_Jxa1e45_init_da8c8 : GoodIn wsJxc12de_init_da8c8 (wsJxa1e45_init_da8c8) := ggJxc12de_init_da8c8_Jxa1e45_init_da8c8
theorem dJxc12de_init_da8c8_0 : decode cJxc12de_init_da8c8 0 = .ok (.aload_n 0, 1) := by decide +kernel
theorem dJxc12de_init_da8c8_1 : decode cJxc12de_init_da8c8 1 = .ok (.invokespecial 1, 3) := by decide +kernel
theorem dJxc12de_init_da8c8_4 : decode cJxc12de_init_da8c8 4 = .ok (.aload_n 0, 1) := by decide +kernel
theorem dJxc12de_init_da8c8_5 : decode cJxc12de_init_da8c8 5 = .ok (.iconst 0, 1) := by decide +kernel
theorem dJxc12de_init_da8c8_6 : decode cJxc12de_init_da8c8 6 = .ok (.putfield 7, 3) := by decide +kernel
theorem dJxc12de_init_da8c8_9 : decode cJxc12de_init_da8c8 9 = .ok (.return_, 1) := by decide +kernel
set_option maxRecDepth 20000 in
theorem ggJx4a65c_init_da8c8_Jxc12de_init_da8c8 : GoodIn wsJx4a65c_init_da8c8 wsJxc12de_init_da8c8 := goodIn_r _ [6, 7, 8, 9, 10, 11, 12, 13, 14, 15, 16, 17] (by decide +kernel) (by decide +kernel)
set_option maxRecDepth 20000 in
theorem gJx4a65c_init_da8c8_Jxc12de_init_da8c8 : GoodIn wsJx4a65c_init_da8c8 (wsJxc12de_init_da8c8) := ggJx4a65c_init_da8c8_Jxc12de_init_da8c8
theorem dJx4a65c_init_da8c8_0 : decode cJx4a65c_init_da8c8 0 = .ok (.aload_n 0, 1) := by decide +kernel
theorem dJx4a65c_init_da8c8_1 : decode cJx4a65c_init_da8c8 1 = .ok (.invokespecial 1, 3) := by decide +kernel
theorem dJx4a65c_init_da8c8_4 : decode cJx4a65c_init_da8c8 4 = .ok (.aload_n 0, 1) := by decide +kernel
theorem dJx4a65c_init_da8c8_5 : decode cJx4a65c_init_da8c8 5 = .ok (.getstatic 39, 3) := by decide +kernel
theorem dJx4a65c_init_da8c8_8 : decode cJx4a65c_init_da8c8 8 = .ok (.putfield 9, 3) := by decide +kernel
theorem dJx4a65c_init_da8c8_11 : decode cJx4a65c_init_da8c8 11 = .ok (.return_, 1) := by decide +kernel
set_option maxRecDepth 20000 in
theorem ggJx4a65c_grow_92f84_J8_newLength_cabcc : GoodIn wsJx4a65c_grow_92f84 wsJ8_newLength_cabcc := goodIn_r _ [11, 12, 4, 5, 6, 13, 14, 15, 10, 16] (by decide +kernel) (by decide +kernel)
set_option maxRecDepth 20000 in
theorem gJx4a65c_grow_92f84_J8_newLength_cabcc : GoodIn wsJx4a65c_grow_92f84 (va_wsS RJx4a65c 73 yJ8_newLength_cabcc wsJ8_newLength_cabcc) := goodIn_app (goodIn_of _ (by decide +kernel)) ggJx4a65c_grow_92f84_J8_newLength_cabcc
set_option maxRecDepth 20000 in
theorem ggJx4a65c_grow_92f84_J7_copyOf_1904c : GoodIn wsJx4a65c_grow_92f84 wsJ7_copyOf_1904c := goodIn_r _ [20, 21, 22, 23, 24, 25, 26, 19, 27, 28, 29, 30, 31, 5, 32, 33, 34, 35, 36] (by decide +kernel) (by decide +kernel)
set_option maxRecDepth 20000 in
theorem gJx4a65c_grow_92f84_J7_copyOf_1904c : GoodIn wsJx4a65c_grow_92f84 (va_wsS RJx4a65c 66 yJ7_copyOf_1904c wsJ7_copyOf_1904c) := goodIn_app (goodIn_of _ (by decide +kernel)) ggJx4a65c_grow_92f84_J7_copyOf_1904c
theorem dJx4a65c_grow_92f84_0 : decode cJx4a65c_grow_92f84 0 = .ok (.aload_n 0, 1) := by decide +kernel
theorem dJx4a65c_grow_92f84_1 : decode cJx4a65c_grow_92f84 1 = .ok (.getfield 9, 3) := by decide +kernel
theorem dJx4a65c_grow_92f84_4 : decode cJx4a65c_grow_92f84 4 = .ok (.arraylength, 1) := by decide +kernel
theorem dJx4a65c_grow_92f84_5 : decode cJx4a65c_grow_92f84 5 = .ok (.istore_n 2, 1) := by decide +kernel
theorem dJx4a65c_grow_92f84_6 : decode cJx4a65c_grow_92f84 6 = .ok (.iload_n 2, 1) := by decide +kernel
theorem dJx4a65c_grow_92f84_7 : decode cJx4a65c_grow_92f84 7 = .ok (.ifCond .gt 13, 3) := by decide +kernel
theorem dJx4a65c_grow_92f84_10 : decode cJx4a65c_grow_92f84 10 = .ok (.aload_n 0, 1) := by decide +kernel
theorem dJx4a65c_grow_92f84_11 : decode cJx4a65c_grow_92f84 11 = .ok (.getfield 9, 3) := by decide +kernel
theorem dJx4a65c_grow_92f84_14 : decode cJx4a65c_grow_92f84 14 = .ok (.getstatic 39, 3) := by decide +kernel
theorem dJx4a65c_grow_92f84_17 : decode cJx4a65c_grow_92f84 17 = .ok (.if_acmp .eq 28, 3) := by decide +kernel
theorem dJx4a65c_grow_92f84_20 : decode cJx4a65c_grow_92f84 20 = .ok (.iload_n 2, 1) := by decide +kernel
theorem dJx4a65c_grow_92f84_21 : decode cJx4a65c_grow_92f84 21 = .ok (.iload_n 1, 1) := by decide +kernel
theorem dJx4a65c_grow_92f84_22 : decode cJx4a65c_grow_92f84 22 = .ok (.iload_n 2, 1) := by decide +kernel
theorem dJx4a65c_grow_92f84_23 : decode cJx4a65c_grow_92f84 23 = .ok (.isub, 1) := by decide +kernel
theorem dJx4a65c_grow_92f84_24 : decode cJx4a65c_grow_92f84 24 = .ok (.iload_n 2, 1) := by decide +kernel
theorem dJx4a65c_grow_92f84_25 : decode cJx4a65c_grow_92f84 25 = .ok (.iconst 1, 1) := by decide +kernel
theorem dJx4a65c_grow_92f84_26 : decode cJx4a65c_grow_92f84 26 = .ok (.ishr, 1) := by decide +kernel
theorem dJx4a65c_grow_92f84_27 : decode cJx4a65c_grow_92f84 27 = .ok (.invokestatic 73, 3) := by decide +kernel
theorem dJx4a65c_grow_92f84_30 : decode cJx4a65c_grow_92f84 30 = .ok (.istore_n 3, 1) := by decide +kernel
theorem dJx4a65c_grow_92f84_31 : decode cJx4a65c_grow_92f84 31 = .ok (.aload_n 0, 1) := by decide +kernel
theorem dJx4a65c_grow_92f84_32 : decode cJx4a65c_grow_92f84 32 = .ok (.aload_n 0, 1) := by decide +kernel
theorem dJx4a65c_grow_92f84_33 : decode cJx4a65c_grow_92f84 33 = .ok (.getfield 9, 3) := by decide +kernel
theorem dJx4a65c_grow_92f84_36 : decode cJx4a65c_grow_92f84 36 = .ok (.iload_n 3, 1) := by decide +kernel
theorem dJx4a65c_grow_92f84_37 : decode cJx4a65c_grow_92f84 37 = .ok (.invokestatic 66, 3) := by decide +kernel
theorem dJx4a65c_grow_92f84_40 : decode cJx4a65c_grow_92f84 40 = .ok (.dup_x1, 1) := by decide +kernel
theorem dJx4a65c_grow_92f84_41 : decode cJx4a65c_grow_92f84 41 = .ok (.putfield 9, 3) := by decide +kernel
theorem dJx4a65c_grow_92f84_44 : decode cJx4a65c_grow_92f84 44 = .ok (.areturn, 1) := by decide +kernel
theorem dJx4a65c_grow_92f84_45 : decode cJx4a65c_grow_92f84 45 = .ok (.aload_n 0, 1) := by decide +kernel
theorem dJx4a65c_grow_92f84_46 : decode cJx4a65c_grow_92f84 46 = .ok (.bipush 10, 2) := by decide +kernel
theorem dJx4a65c_grow_92f84_48 : decode cJx4a65c_grow_92f84 48 = .ok (.iload_n 1, 1) := by decide +kernel
theorem dJx4a65c_grow_92f84_49 : decode cJx4a65c_grow_92f84 49 = .ok (.invokestatic 79, 3) := by decide +kernel
theorem dJx4a65c_grow_92f84_52 : decode cJx4a65c_grow_92f84 52 = .ok (.anewarray 7, 3) := by decide +kernel
theorem dJx4a65c_grow_92f84_55 : decode cJx4a65c_grow_92f84 55 = .ok (.dup_x1, 1) := by decide +kernel
theorem dJx4a65c_grow_92f84_56 : decode cJx4a65c_grow_92f84 56 = .ok (.putfield 9, 3) := by decide +kernel
theorem dJx4a65c_grow_92f84_59 : decode cJx4a65c_grow_92f84 59 = .ok (.areturn, 1) := by decide +kernel
set_option maxRecDepth 20000 in
theorem ggJx4a65c_grow_d5877_Jx4a65c_grow_92f84 : GoodIn wsJx4a65c_grow_d5877 wsJx4a65c_grow_92f84 := goodIn_r _ [6, 7, 8, 9, 10, 11, 12, 13, 14, 15, 16, 17, 18, 19, 20, 21, 22, 23, 24, 25, 26, 27, 28, 29, 30, 31, 32, 33, 34, 35, 36, 37, 38, 39, 40, 41, 42, 43, 44, 45] (by decide +kernel) (by decide +kernel)
set_option maxRecDepth 20000 in
theorem gJx4a65c_grow_d5877_Jx4a65c_grow_92f84 : GoodIn wsJx4a65c_grow_d5877 (wsV RJx4a65c 69 RJx4a65c yJx4a65c_grow_92f84 wsJx4a65c_grow_92f84) := goodIn_app (goodIn_of _ (by decide +kernel)) ggJx4a65c_grow_d5877_Jx4a65c_grow_92f84
theorem dJx4a65c_grow_d5877_0 : decode cJx4a65c_grow_d5877 0 = .ok (.aload_n 0, 1) := by decide +kernel
theorem dJx4a65c_grow_d5877_1 : decode cJx4a65c_grow_d5877 1 = .ok (.aload_n 0, 1) := by decide +kernel
theorem dJx4a65c_grow_d5877_2 : decode cJx4a65c_grow_d5877 2 = .ok (.getfield 48, 3) := by decide +kernel
theorem dJx4a65c_grow_d5877_5 : decode cJx4a65c_grow_d5877 5 = .ok (.iconst 1, 1) := by decide +kernel
theorem dJx4a65c_grow_d5877_6 : decode cJx4a65c_grow_d5877 6 = .ok (.iadd, 1) := by decide +kernel
theorem dJx4a65c_grow_d5877_7 : decode cJx4a65c_grow_d5877 7 = .ok (.invokevirtual 69, 3) := by decide +kernel
theorem dJx4a65c_grow_d5877_10 : decode cJx4a65c_grow_d5877 10 = .ok (.areturn, 1) := by decide +kernel
theorem dJx4a65c_size_8abf5_0 : decode cJx4a65c_size_8abf5 0 = .ok (.aload_n 0, 1) := by decide +kernel
theorem dJx4a65c_size_8abf5_1 : decode cJx4a65c_size_8abf5 1 = .ok (.getfield 48, 3) := by decide +kernel
theorem dJx4a65c_size_8abf5_4 : decode cJx4a65c_size_8abf5 4 = .ok (.ireturn, 1) := by decide +kernel
theorem dJx4a65c_elementData_915e3_0 : decode cJx4a65c_elementData_915e3 0 = .ok (.aload_n 0, 1) := by decide +kernel
theorem dJx4a65c_elementData_915e3_1 : decode cJx4a65c_elementData_915e3 1 = .ok (.getfield 9, 3) := by decide +kernel
theorem dJx4a65c_elementData_915e3_4 : decode cJx4a65c_elementData_915e3 4 = .ok (.iload_n 1, 1) := by decide +kernel
theorem dJx4a65c_elementData_915e3_5 : decode cJx4a65c_elementData_915e3 5 = .ok (.aaload, 1) := by decide +kernel
theorem dJx4a65c_elementData_915e3_6 : decode cJx4a65c_elementData_915e3 6 = .ok (.areturn, 1) := by decide +kernel
set_option maxRecDepth 20000 in
theorem ggJx4a65c_get_915e3_J15_checkIndex_7cf53 : GoodIn wsJx4a65c_get_915e3 wsJ15_checkIndex_7cf53 := goodIn_r _ [5, 6, 7, 8, 9] (by decide +kernel) (by decide +kernel)
set_option maxRecDepth 20000 in
theorem gJx4a65c_get_915e3_J15_checkIndex_7cf53 : GoodIn wsJx4a65c_get_915e3 (va_wsS RJx4a65c 118 yJ15_checkIndex_7cf53 wsJ15_checkIndex_7cf53) := goodIn_app (goodIn_of _ (by decide +kernel)) ggJx4a65c_get_915e3_J15_checkIndex_7cf53
set_option maxRecDepth 20000 in
theorem ggJx4a65c_get_915e3_Jx4a65c_elementData_915e3 : GoodIn wsJx4a65c_get_915e3 wsJx4a65c_elementData_915e3 := goodIn_r _ [14, 15, 16, 17, 18] (by decide +kernel) (by decide +kernel)
set_option maxRecDepth 20000 in
theorem gJx4a65c_get_915e3_Jx4a65c_elementData_915e3 : GoodIn wsJx4a65c_get_915e3 (wsV RJx4a65c 123 RJx4a65c yJx4a65c_elementData_915e3 wsJx4a65c_elementData_915e3) := goodIn_app (goodIn_of _ (by decide +kernel)) ggJx4a65c_get_915e3_Jx4a65c_elementData_915e3
theorem dJx4a65c_get_915e3_0 : decode cJx4a65c_get_915e3 0 = .ok (.iload_n 1, 1) := by decide +kernel
theorem dJx4a65c_get_915e3_1 : decode cJx4a65c_get_915e3 1 = .ok (.aload_n 0, 1) := by decide +kernel
theorem dJx4a65c_get_915e3_2 : decode cJx4a65c_get_915e3 2 = .ok (.getfield 48, 3) := by decide +kernel
theorem dJx4a65c_get_915e3_5 : decode cJx4a65c_get_915e3 5 = .ok (.invokestatic 118, 3) := by decide +kernel
theorem dJx4a65c_get_915e3_8 : decode cJx4a65c_get_915e3 8 = .ok (.pop, 1) := by decide +kernel
theorem dJx4a65c_get_915e3_9 : decode cJx4a65c_get_915e3 9 = .ok (.aload_n 0, 1) := by decide +kernel
theorem dJx4a65c_get_915e3_10 : decode cJx4a65c_get_915e3 10 = .ok (.iload_n 1, 1) := by decide +kernel
theorem dJx4a65c_get_915e3_11 : decode cJx4a65c_get_915e3 11 = .ok (.invokevirtual 123, 3) := by decide +kernel
theorem dJx4a65c_get_915e3_14 : decode cJx4a65c_get_915e3 14 = .ok (.areturn, 1) := by decide +kernel
set_option maxRecDepth 20000 in
theorem ggJx4a65c_add_72be8_Jx4a65c_grow_d5877 : GoodIn wsJx4a65c_add_72be8 wsJx4a65c_grow_d5877 := goodIn_r _ [6, 1, 7, 8, 9, 5, 10, 11, 12, 13, 14, 15, 16, 17, 18, 19, 20, 21, 22, 23, 24, 25, 26, 27, 28, 29, 30, 31, 32, 33, 34, 35, 36, 37, 38, 39, 40, 41, 42, 43, 44, 45, 46, 47, 48, 49] (by decide +kernel) (by decide +kernel)
set_option maxRecDepth 20000 in
theorem gJx4a65c_add_72be8_Jx4a65c_grow_d5877 : GoodIn wsJx4a65c_add_72be8 (wsV RJx4a65c 129 RJx4a65c yJx4a65c_grow_d5877 wsJx4a65c_grow_d5877) := goodIn_app (goodIn_of _ (by decide +kernel)) ggJx4a65c_add_72be8_Jx4a65c_grow_d5877
theorem dJx4a65c_add_72be8_0 : decode cJx4a65c_add_72be8 0 = .ok (.iload_n 3, 1) := by decide +kernel
theorem dJx4a65c_add_72be8_1 : decode cJx4a65c_add_72be8 1 = .ok (.aload_n 2, 1) := by decide +kernel
theorem dJx4a65c_add_72be8_2 : decode cJx4a65c_add_72be8 2 = .ok (.arraylength, 1) := by decide +kernel
theorem dJx4a65c_add_72be8_3 : decode cJx4a65c_add_72be8 3 = .ok (.if_icmp .ne 8, 3) := by decide +kernel
theorem dJx4a65c_add_72be8_6 : decode cJx4a65c_add_72be8 6 = .ok (.aload_n 0, 1) := by decide +kernel
theorem dJx4a65c_add_72be8_7 : decode cJx4a65c_add_72be8 7 = .ok (.invokevirtual 129, 3) := by decide +kernel
theorem dJx4a65c_add_72be8_10 : decode cJx4a65c_add_72be8 10 = .ok (.astore_n 2, 1) := by decide +kernel
theorem dJx4a65c_add_72be8_11 : decode cJx4a65c_add_72be8 11 = .ok (.aload_n 2, 1) := by decide +kernel
theorem dJx4a65c_add_72be8_12 : decode cJx4a65c_add_72be8 12 = .ok (.iload_n 3, 1) := by decide +kernel
theorem dJx4a65c_add_72be8_13 : decode cJx4a65c_add_72be8 13 = .ok (.aload_n 1, 1) := by decide +kernel
theorem dJx4a65c_add_72be8_14 : decode cJx4a65c_add_72be8 14 = .ok (.aastore, 1) := by decide +kernel
theorem dJx4a65c_add_72be8_15 : decode cJx4a65c_add_72be8 15 = .ok (.aload_n 0, 1) := by decide +kernel
theorem dJx4a65c_add_72be8_16 : decode cJx4a65c_add_72be8 16 = .ok (.iload_n 3, 1) := by decide +kernel
theorem dJx4a65c_add_72be8_17 : decode cJx4a65c_add_72be8 17 = .ok (.iconst 1, 1) := by decide +kernel
theorem dJx4a65c_add_72be8_18 : decode cJx4a65c_add_72be8 18 = .ok (.iadd, 1) := by decide +kernel
theorem dJx4a65c_add_72be8_19 : decode cJx4a65c_add_72be8 19 = .ok (.putfield 48, 3) := by decide +kernel
theorem dJx4a65c_add_72be8_22 : decode cJx4a65c_add_72be8 22 = .ok (.return_, 1) := by decide +kernel
set_option maxRecDepth 20000 in
theorem ggJx4a65c_add_9ea2d_Jx4a65c_add_72be8 : GoodIn wsJx4a65c_add_9ea2d wsJx4a65c_add_72be8 := goodIn_r _ [9, 4, 10, 11, 12, 8, 13, 14, 15, 16, 17, 3, 18, 19, 20, 21, 22, 23, 24, 25, 26, 27, 28, 29, 30, 31, 32, 33, 34, 35, 36, 37, 38, 39, 40, 41, 42, 43, 44, 45, 46, 47, 48, 49, 50, 51, 52, 53, 54, 55] (by decide +kernel) (by decide +kernel)
set_option maxRecDepth 20000 in
theorem gJx4a65c_add_9ea2d_Jx4a65c_add_72be8 : GoodIn wsJx4a65c_add_9ea2d (wsV RJx4a65c 131 RJx4a65c yJx4a65c_add_72be8 wsJx4a65c_add_72be8) := goodIn_app (goodIn_of _ (by decide +kernel)) ggJx4a65c_add_9ea2d_Jx4a65c_add_72be8
theorem dJx4a65c_add_9ea2d_0 : decode cJx4a65c_add_9ea2d 0 = .ok (.aload_n 0, 1) := by decide +kernel
theorem dJx4a65c_add_9ea2d_1 : decode cJx4a65c_add_9ea2d 1 = .ok (.dup, 1) := by decide +kernel
theorem dJx4a65c_add_9ea2d_2 : decode cJx4a65c_add_9ea2d 2 = .ok (.getfield 63, 3) := by decide +kernel
theorem dJx4a65c_add_9ea2d_5 : decode cJx4a65c_add_9ea2d 5 = .ok (.iconst 1, 1) := by decide +kernel
theorem dJx4a65c_add_9ea2d_6 : decode cJx4a65c_add_9ea2d 6 = .ok (.iadd, 1) := by decide +kernel
theorem dJx4a65c_add_9ea2d_7 : decode cJx4a65c_add_9ea2d 7 = .ok (.putfield 63, 3) := by decide +kernel
theorem dJx4a65c_add_9ea2d_10 : decode cJx4a65c_add_9ea2d 10 = .ok (.aload_n 0, 1) := by decide +kernel
theorem dJx4a65c_add_9ea2d_11 : decode cJx4a65c_add_9ea2d 11 = .ok (.aload_n 1, 1) := by decide +kernel
theorem dJx4a65c_add_9ea2d_12 : decode cJx4a65c_add_9ea2d 12 = .ok (.aload_n 0, 1) := by decide +kernel
theorem dJx4a65c_add_9ea2d_13 : decode cJx4a65c_add_9ea2d 13 = .ok (.getfield 9, 3) := by decide +kernel
theorem dJx4a65c_add_9ea2d_16 : decode cJx4a65c_add_9ea2d 16 = .ok (.aload_n 0, 1) := by decide +kernel
theorem dJx4a65c_add_9ea2d_17 : decode cJx4a65c_add_9ea2d 17 = .ok (.getfield 48, 3) := by decide +kernel
theorem dJx4a65c_add_9ea2d_20 : decode cJx4a65c_add_9ea2d 20 = .ok (.invokevirtual 131, 3) := by decide +kernel
theorem dJx4a65c_add_9ea2d_23 : decode cJx4a65c_add_9ea2d 23 = .ok (.iconst 1, 1) := by decide +kernel
theorem dJx4a65c_add_9ea2d_24 : decode cJx4a65c_add_9ea2d 24 = .ok (.ireturn, 1) := by decide +kernel
theorem dJ7_fill_53178_0 : decode cJ7_fill_53178 0 = .ok (.iconst 0, 1) := by decide +kernel
theorem dJ7_fill_53178_1 : decode cJ7_fill_53178 1 = .ok (.istore_n 2, 1) := by decide +kernel
theorem dJ7_fill_53178_2 : decode cJ7_fill_53178 2 = .ok (.aload_n 0, 1) := by decide +kernel
theorem dJ7_fill_53178_3 : decode cJ7_fill_53178 3 = .ok (.arraylength, 1) := by decide +kernel
theorem dJ7_fill_53178_4 : decode cJ7_fill_53178 4 = .ok (.istore_n 3, 1) := by decide +kernel
theorem dJ7_fill_53178_5 : decode cJ7_fill_53178 5 = .ok (.iload_n 2, 1) := by decide +kernel
theorem dJ7_fill_53178_6 : decode cJ7_fill_53178 6 = .ok (.iload_n 3, 1) := by decide +kernel
theorem dJ7_fill_53178_7 : decode cJ7_fill_53178 7 = .ok (.if_icmp .ge 13, 3) := by decide +kernel
theorem dJ7_fill_53178_10 : decode cJ7_fill_53178 10 = .ok (.aload_n 0, 1) := by decide +kernel
theorem dJ7_fill_53178_11 : decode cJ7_fill_53178 11 = .ok (.iload_n 2, 1) := by decide +kernel
theorem dJ7_fill_53178_12 : decode cJ7_fill_53178 12 = .ok (.iload_n 1, 1) := by decide +kernel
theorem dJ7_fill_53178_13 : decode cJ7_fill_53178 13 = .ok (.iastore, 1) := by decide +kernel
theorem dJ7_fill_53178_14 : decode cJ7_fill_53178 14 = .ok (.iinc 2 1, 3) := by decide +kernel
theorem dJ7_fill_53178_17 : decode cJ7_fill_53178 17 = .ok (.goto (-12), 3) := by decide +kernel
theorem dJ7_fill_53178_20 : decode cJ7_fill_53178 20 = .ok (.return_, 1) := by decide +kernel
set_option maxRecDepth 20000 in
theorem ggJ7_copyOf_1904c_J7_copyOf_6403c : GoodIn wsJ7_copyOf_1904c wsJ7_copyOf_6403c := goodIn_r _ [8, 9, 10, 11, 12, 13, 14, 15, 16, 17, 18] (by decide +kernel) (by decide +kernel)
set_option maxRecDepth 20000 in
theorem gJ7_copyOf_1904c_J7_copyOf_6403c : GoodIn wsJ7_copyOf_1904c (va_wsS RJ7 300 yJ7_copyOf_6403c wsJ7_copyOf_6403c) := goodIn_app (goodIn_of _ (by decide +kernel)) ggJ7_copyOf_1904c_J7_copyOf_6403c
theorem dJ7_copyOf_1904c_0 : decode cJ7_copyOf_1904c 0 = .ok (.aload_n 0, 1) := by decide +kernel
theorem dJ7_copyOf_1904c_1 : decode cJ7_copyOf_1904c 1 = .ok (.iload_n 1, 1) := by decide +kernel
theorem dJ7_copyOf_1904c_2 : decode cJ7_copyOf_1904c 2 = .ok (.aload_n 0, 1) := by decide +kernel
theorem dJ7_copyOf_1904c_3 : decode cJ7_copyOf_1904c 3 = .ok (.invokevirtual 86, 3) := by decide +kernel
theorem dJ7_copyOf_1904c_6 : decode cJ7_copyOf_1904c 6 = .ok (.invokestatic 300, 3) := by decide +kernel
theorem dJ7_copyOf_1904c_9 : decode cJ7_copyOf_1904c 9 = .ok (.areturn, 1) := by decide +kernel
theorem dJ7_copyOf_6403c_0 : decode cJ7_copyOf_6403c 0 = .ok (.aload_n 2, 1) := by decide +kernel
theorem dJ7_copyOf_6403c_1 : decode cJ7_copyOf_6403c 1 = .ok (.ldc 110, 2) := by decide +kernel
theorem dJ7_copyOf_6403c_3 : decode cJ7_copyOf_6403c 3 = .ok (.if_acmp .ne 10, 3) := by decide +kernel
theorem dJ7_copyOf_6403c_6 : decode cJ7_copyOf_6403c 6 = .ok (.iload_n 1, 1) := by decide +kernel
theorem dJ7_copyOf_6403c_7 : decode cJ7_copyOf_6403c 7 = .ok (.anewarray 2, 3) := by decide +kernel
theorem dJ7_copyOf_6403c_10 : decode cJ7_copyOf_6403c 10 = .ok (.goto 14, 3) := by decide +kernel
theorem dJ7_copyOf_6403c_13 : decode cJ7_copyOf_6403c 13 = .ok (.aload_n 2, 1) := by decide +kernel
theorem dJ7_copyOf_6403c_14 : decode cJ7_copyOf_6403c 14 = .ok (.invokevirtual 90, 3) := by decide +kernel
theorem dJ7_copyOf_6403c_17 : decode cJ7_copyOf_6403c 17 = .ok (.iload_n 1, 1) := by decide +kernel
theorem dJ7_copyOf_6403c_18 : decode cJ7_copyOf_6403c 18 = .ok (.invokestatic 95, 3) := by decide +kernel
theorem dJ7_copyOf_6403c_21 : decode cJ7_copyOf_6403c 21 = .ok (.checkcast 110, 3) := by decide +kernel
theorem dJ7_copyOf_6403c_24 : decode cJ7_copyOf_6403c 24 = .ok (.astore_n 3, 1) := by decide +kernel
theorem dJ7_copyOf_6403c_25 : decode cJ7_copyOf_6403c 25 = .ok (.aload_n 0, 1) := by decide +kernel
theorem dJ7_copyOf_6403c_26 : decode cJ7_copyOf_6403c 26 = .ok (.iconst 0, 1) := by decide +kernel
theorem dJ7_copyOf_6403c_27 : decode cJ7_copyOf_6403c 27 = .ok (.aload_n 3, 1) := by decide +kernel
theorem dJ7_copyOf_6403c_28 : decode cJ7_copyOf_6403c 28 = .ok (.iconst 0, 1) := by decide +kernel
theorem dJ7_copyOf_6403c_29 : decode cJ7_copyOf_6403c 29 = .ok (.aload_n 0, 1) := by decide +kernel
theorem dJ7_copyOf_6403c_30 : decode cJ7_copyOf_6403c 30 = .ok (.arraylength, 1) := by decide +kernel
theorem dJ7_copyOf_6403c_31 : decode cJ7_copyOf_6403c 31 = .ok (.iload_n 1, 1) := by decide +kernel
theorem dJ7_copyOf_6403c_32 : decode cJ7_copyOf_6403c 32 = .ok (.invokestatic 304, 3) := by decide +kernel
theorem dJ7_copyOf_6403c_35 : decode cJ7_copyOf_6403c 35 = .ok (.invokestatic 150, 3) := by decide +kernel
theorem dJ7_copyOf_6403c_38 : decode cJ7_copyOf_6403c 38 = .ok (.aload_n 3, 1) := by decide +kernel
theorem dJ7_copyOf_6403c_39 : decode cJ7_copyOf_6403c 39 = .ok (.areturn, 1) := by decide +kernel
set_option maxRecDepth 20000 in
theorem ggJ15_checkIndex_7cf53_J3_checkIndex_8e157 : GoodIn wsJ15_checkIndex_7cf53 wsJ3_checkIndex_8e157 := goodIn_r _ [4] (by decide +kernel) (by decide +kernel)
set_option maxRecDepth 20000 in
theorem gJ15_checkIndex_7cf53_J3_checkIndex_8e157 : GoodIn wsJ15_checkIndex_7cf53 (va_wsS RJ15 105 yJ3_checkIndex_8e157 wsJ3_checkIndex_8e157) := goodIn_app (goodIn_of _ (by decide +kernel)) ggJ15_checkIndex_7cf53_J3_checkIndex_8e157
theorem dJ15_checkIndex_7cf53_0 : decode cJ15_checkIndex_7cf53 0 = .ok (.iload_n 0, 1) := by decide +kernel
theorem dJ15_checkIndex_7cf53_1 : decode cJ15_checkIndex_7cf53 1 = .ok (.iload_n 1, 1) := by decide +kernel
theorem dJ15_checkIndex_7cf53_2 : decode cJ15_checkIndex_7cf53 2 = .ok (.aconst_null, 1) := by decide +kernel
theorem dJ15_checkIndex_7cf53_3 : decode cJ15_checkIndex_7cf53 3 = .ok (.invokestatic 105, 3) := by decide +kernel
theorem dJ15_checkIndex_7cf53_6 : decode cJ15_checkIndex_7cf53 6 = .ok (.ireturn, 1) := by decide +kernel
set_option maxRecDepth 20000 in
theorem ggJ8_newLength_cabcc_J8_hugeLength_7cf53 : GoodIn wsJ8_newLength_cabcc wsJ8_hugeLength_7cf53 := goodIn_r _ [9, 5] (by decide +kernel) (by decide +kernel)
set_option maxRecDepth 20000 in
theorem gJ8_newLength_cabcc_J8_hugeLength_7cf53 : GoodIn wsJ8_newLength_cabcc (va_wsS RJ8 201 yJ8_hugeLength_7cf53 wsJ8_hugeLength_7cf53) := goodIn_app (goodIn_of _ (by decide +kernel)) ggJ8_newLength_cabcc_J8_hugeLength_7cf53
theorem dJ8_newLength_cabcc_0 : decode cJ8_newLength_cabcc 0 = .ok (.iload_n 0, 1) := by decide +kernel
theorem dJ8_newLength_cabcc_1 : decode cJ8_newLength_cabcc 1 = .ok (.iload_n 1, 1) := by decide +kernel
theorem dJ8_newLength_cabcc_2 : decode cJ8_newLength_cabcc 2 = .ok (.iload_n 2, 1) := by decide +kernel
theorem dJ8_newLength_cabcc_3 : decode cJ8_newLength_cabcc 3 = .ok (.invokestatic 194, 3) := by decide +kernel
theorem dJ8_newLength_cabcc_6 : decode cJ8_newLength_cabcc 6 = .ok (.iadd, 1) := by decide +kernel
theorem dJ8_newLength_cabcc_7 : decode cJ8_newLength_cabcc 7 = .ok (.istore_n 3, 1) := by decide +kernel
theorem dJ8_newLength_cabcc_8 : decode cJ8_newLength_cabcc 8 = .ok (.iconst 0, 1) := by decide +kernel
theorem dJ8_newLength_cabcc_9 : decode cJ8_newLength_cabcc 9 = .ok (.iload_n 3, 1) := by decide +kernel
theorem dJ8_newLength_cabcc_10 : decode cJ8_newLength_cabcc 10 = .ok (.if_icmp .ge 11, 3) := by decide +kernel
theorem dJ8_newLength_cabcc_13 : decode cJ8_newLength_cabcc 13 = .ok (.iload_n 3, 1) := by decide +kernel
theorem dJ8_newLength_cabcc_14 : decode cJ8_newLength_cabcc 14 = .ok (.ldc 200, 2) := by decide +kernel
theorem dJ8_newLength_cabcc_16 : decode cJ8_newLength_cabcc 16 = .ok (.if_icmp .gt 5, 3) := by decide +kernel
theorem dJ8_newLength_cabcc_19 : decode cJ8_newLength_cabcc 19 = .ok (.iload_n 3, 1) := by decide +kernel
theorem dJ8_newLength_cabcc_20 : decode cJ8_newLength_cabcc 20 = .ok (.ireturn, 1) := by decide +kernel
theorem dJ8_newLength_cabcc_21 : decode cJ8_newLength_cabcc 21 = .ok (.iload_n 0, 1) := by decide +kernel
theorem dJ8_newLength_cabcc_22 : decode cJ8_newLength_cabcc 22 = .ok (.iload_n 1, 1) := by decide +kernel
theorem dJ8_newLength_cabcc_23 : decode cJ8_newLength_cabcc 23 = .ok (.invokestatic 201, 3) := by decide +kernel
theorem dJ8_newLength_cabcc_26 : decode cJ8_newLength_cabcc 26 = .ok (.ireturn, 1) := by decide +kernel
theorem dJ8_hugeLength_7cf53_0 : decode cJ8_hugeLength_7cf53 0 = .ok (.iload_n 0, 1) := by decide +kernel
theorem dJ8_hugeLength_7cf53_1 : decode cJ8_hugeLength_7cf53 1 = .ok (.iload_n 1, 1) := by decide +kernel
theorem dJ8_hugeLength_7cf53_2 : decode cJ8_hugeLength_7cf53 2 = .ok (.iadd, 1) := by decide +kernel
theorem dJ8_hugeLength_7cf53_3 : decode cJ8_hugeLength_7cf53 3 = .ok (.istore_n 2, 1) := by decide +kernel
theorem dJ8_hugeLength_7cf53_4 : decode cJ8_hugeLength_7cf53 4 = .ok (.iload_n 2, 1) := by decide +kernel
theorem dJ8_hugeLength_7cf53_5 : decode cJ8_hugeLength_7cf53 5 = .ok (.ifCond .ge 44, 3) := by decide +kernel
theorem dJ8_hugeLength_7cf53_8 : decode cJ8_hugeLength_7cf53 8 = .ok (.new 204, 3) := by decide +kernel
theorem dJ8_hugeLength_7cf53_11 : decode cJ8_hugeLength_7cf53 11 = .ok (.dup, 1) := by decide +kernel
theorem dJ8_hugeLength_7cf53_12 : decode cJ8_hugeLength_7cf53 12 = .ok (.new 89, 3) := by decide +kernel
theorem dJ8_hugeLength_7cf53_15 : decode cJ8_hugeLength_7cf53 15 = .ok (.dup, 1) := by decide +kernel
theorem dJ8_hugeLength_7cf53_16 : decode cJ8_hugeLength_7cf53 16 = .ok (.invokespecial 91, 3) := by decide +kernel
theorem dJ8_hugeLength_7cf53_19 : decode cJ8_hugeLength_7cf53 19 = .ok (.ldc 206, 2) := by decide +kernel
theorem dJ8_hugeLength_7cf53_21 : decode cJ8_hugeLength_7cf53 21 = .ok (.invokevirtual 94, 3) := by decide +kernel
theorem dJ8_hugeLength_7cf53_24 : decode cJ8_hugeLength_7cf53 24 = .ok (.iload_n 0, 1) := by decide +kernel
theorem dJ8_hugeLength_7cf53_25 : decode cJ8_hugeLength_7cf53 25 = .ok (.invokevirtual 98, 3) := by decide +kernel
theorem dJ8_hugeLength_7cf53_28 : decode cJ8_hugeLength_7cf53 28 = .ok (.ldc 208, 2) := by decide +kernel
theorem dJ8_hugeLength_7cf53_30 : decode cJ8_hugeLength_7cf53 30 = .ok (.invokevirtual 94, 3) := by decide +kernel
theorem dJ8_hugeLength_7cf53_33 : decode cJ8_hugeLength_7cf53 33 = .ok (.iload_n 1, 1) := by decide +kernel
theorem dJ8_hugeLength_7cf53_34 : decode cJ8_hugeLength_7cf53 34 = .ok (.invokevirtual 98, 3) := by decide +kernel
theorem dJ8_hugeLength_7cf53_37 : decode cJ8_hugeLength_7cf53 37 = .ok (.ldc 210, 2) := by decide +kernel
theorem dJ8_hugeLength_7cf53_39 : decode cJ8_hugeLength_7cf53 39 = .ok (.invokevirtual 94, 3) := by decide +kernel
theorem dJ8_hugeLength_7cf53_42 : decode cJ8_hugeLength_7cf53 42 = .ok (.invokevirtual 101, 3) := by decide +kernel
theorem dJ8_hugeLength_7cf53_45 : decode cJ8_hugeLength_7cf53 45 = .ok (.invokespecial 212, 3) := by decide +kernel
theorem dJ8_hugeLength_7cf53_48 : decode cJ8_hugeLength_7cf53 48 = .ok (.athrow, 1) := by decide +kernel
theorem dJ8_hugeLength_7cf53_49 : decode cJ8_hugeLength_7cf53 49 = .ok (.iload_n 2, 1) := by decide +kernel
theorem dJ8_hugeLength_7cf53_50 : decode cJ8_hugeLength_7cf53 50 = .ok (.ldc 200, 2) := by decide +kernel
theorem dJ8_hugeLength_7cf53_52 : decode cJ8_hugeLength_7cf53 52 = .ok (.if_icmp .gt 6, 3) := by decide +kernel
theorem dJ8_hugeLength_7cf53_55 : decode cJ8_hugeLength_7cf53 55 = .ok (.ldc 200, 2) := by decide +kernel
theorem dJ8_hugeLength_7cf53_57 : decode cJ8_hugeLength_7cf53 57 = .ok (.ireturn, 1) := by decide +kernel
theorem dJ8_hugeLength_7cf53_58 : decode cJ8_hugeLength_7cf53 58 = .ok (.iload_n 2, 1) := by decide +kernel
theorem dJ8_hugeLength_7cf53_59 : decode cJ8_hugeLength_7cf53 59 = .ok (.ireturn, 1) := by decide +kernel
theorem dJ3_checkIndex_8e157_0 : decode cJ3_checkIndex_8e157 0 = .ok (.iload_n 0, 1) := by decide +kernel
theorem dJ3_checkIndex_8e157_1 : decode cJ3_checkIndex_8e157 1 = .ok (.ifCond .lt 8, 3) := by decide +kernel
theorem dJ3_checkIndex_8e157_4 : decode cJ3_checkIndex_8e157 4 = .ok (.iload_n 0, 1) := by decide +kernel
theorem dJ3_checkIndex_8e157_5 : decode cJ3_checkIndex_8e157 5 = .ok (.iload_n 1, 1) := by decide +kernel
theorem dJ3_checkIndex_8e157_6 : decode cJ3_checkIndex_8e157 6 = .ok (.if_icmp .lt 10, 3) := by decide +kernel
theorem dJ3_checkIndex_8e157_9 : decode cJ3_checkIndex_8e157 9 = .ok (.aload_n 2, 1) := by decide +kernel
theorem dJ3_checkIndex_8e157_10 : decode cJ3_checkIndex_8e157 10 = .ok (.iload_n 0, 1) := by decide +kernel
theorem dJ3_checkIndex_8e157_11 : decode cJ3_checkIndex_8e157 11 = .ok (.iload_n 1, 1) := by decide +kernel
theorem dJ3_checkIndex_8e157_12 : decode cJ3_checkIndex_8e157 12 = .ok (.invokestatic 95, 3) := by decide +kernel
theorem dJ3_checkIndex_8e157_15 : decode cJ3_checkIndex_8e157 15 = .ok (.athrow, 1) := by decide +kernel
theorem dJ3_checkIndex_8e157_16 : decode cJ3_checkIndex_8e157 16 = .ok (.iload_n 0, 1) := by decide +kernel
theorem dJ3_checkIndex_8e157_17 : decode cJ3_checkIndex_8e157 17 = .ok (.ireturn, 1) := by decide +kernel
set_option maxRecDepth 20000 in
theorem ggL_law_X5_init : GoodIn wsL_law wsX5_init := goodIn_r _ [8, 9, 10, 11, 12, 13, 14, 15, 16, 17, 18, 19, 20, 21, 22, 23, 24, 25, 26, 27, 28, 29, 30, 31, 32, 33, 34, 35, 36, 37, 38, 39, 40, 41, 42, 43, 44, 45, 46, 47, 48, 49, 50, 51, 52, 53, 54, 55, 56, 57, 58, 59, 60, 61, 62, 63, 64, 65, 890, 891, 892, 893, 861, 862, 863, 894, 895, 896, 897, 898, 899, 900, 901, 902, 903, 904, 905, 906, 907, 908] (by decide +kernel) (by decide +kernel)
set_option maxRecDepth 20000 in
theorem gL_law_X5_init : GoodIn wsL_law (wsX5_init) := ggL_law_X5_init
set_option maxRecDepth 20000 in
theorem ggL_law_X6_init : GoodIn wsL_law wsX6_init := goodIn_r _ [68, 69, 10, 11, 70, 71, 60, 72, 73, 74, 75, 76, 77, 78, 79, 80, 81, 82, 83, 84, 85, 86, 87, 88, 89, 90, 91, 92, 93, 94, 864, 865, 866, 867, 868, 869, 870, 871, 872, 873, 874, 875, 876, 877, 878, 879, 880, 881, 882, 883, 884, 885, 886, 887, 888, 889] (by decide +kernel) (by decide +kernel)
set_option maxRecDepth 20000 in
theorem gL_law_X6_init : GoodIn wsL_law (wsX6_init) := ggL_law_X6_init
set_option maxRecDepth 20000 in
theorem ggL_law_X5_canvas : GoodIn wsL_law wsX5_canvas := goodIn_r _ [98, 15, 23, 99, 100, 101, 2, 102, 103, 104, 105, 14, 106, 27, 28, 32, 107, 33, 108, 109, 110, 111, 19, 112, 113, 114, 115, 116, 18, 117, 118, 119, 120, 121, 122, 123, 124, 125, 126, 127, 128, 129, 130, 131, 132, 133, 134, 46, 861, 862, 863, 897, 898, 899, 900, 901, 902, 890, 891, 892, 893, 903, 904, 905, 906, 907, 908, 909, 910, 911, 912, 913, 914, 915, 916, 917, 918, 919, 894, 895, 896] (by decide +kernel) (by decide +kernel)
set_option maxRecDepth 20000 in
theorem gL_law_X5_canvas : GoodIn wsL_law (wsV RL 13 RX5 yX5_canvas wsX5_canvas) := goodIn_app (goodIn_of _ (by decide +kernel)) ggL_law_X5_canvas
set_option maxRecDepth 20000 in
theorem ggL_law_X6_canvas : GoodIn wsL_law wsX6_canvas := goodIn_r _ [138, 70, 71, 139, 140, 141, 142, 5, 143, 864, 865, 866, 867, 868, 869, 870, 871, 872, 873, 874, 875, 876, 877, 878, 879, 880, 881, 882, 883, 884, 885, 886, 887, 888, 889] (by decide +kernel) (by decide +kernel)
set_option maxRecDepth 20000 in
theorem gL_law_X6_canvas : GoodIn wsL_law (wsV RL 17 RX6 yX6_canvas wsX6_canvas) := goodIn_app (goodIn_of _ (by decide +kernel)) ggL_law_X6_canvas
set_option maxRecDepth 20000 in
theorem ggL_law_X5_scale : GoodIn wsL_law wsX5_scale := goodIn_r _ [147, 15, 148, 149, 150, 151, 152, 153, 14, 154, 32, 33, 100, 101, 2, 102, 155, 156, 157, 31, 158, 38, 39, 40, 108, 109, 110, 111, 19, 112, 113, 114, 115, 116, 18, 117, 118, 119, 120, 121, 122, 123, 124, 125, 126, 127, 128, 129, 130, 131, 132, 133, 134, 46, 861, 862, 863, 903, 904, 905, 906, 907, 908, 890, 891, 892, 893, 909, 910, 911, 912, 913, 914, 915, 916, 917, 918, 919, 894, 895, 896] (by decide +kernel) (by decide +kernel)
set_option maxRecDepth 20000 in
theorem gL_law_X5_scale : GoodIn wsL_law (wsV RL 18 RX5 yX5_scale wsX5_scale) := goodIn_app (goodIn_of _ (by decide +kernel)) ggL_law_X5_scale
set_option maxRecDepth 20000 in
theorem ggL_law_X6_scale : GoodIn wsL_law wsX6_scale := goodIn_r _ [162, 73, 74, 163, 164, 5, 165, 141, 142, 143, 166, 167, 168, 169, 170, 171, 172, 173, 174, 72, 140, 864, 865, 866, 867, 868, 869, 870, 871, 872, 873, 874, 875, 876, 877, 878, 879, 880, 881, 882, 883, 884, 885, 886, 887, 888, 889] (by decide +kernel) (by decide +kernel)
set_option maxRecDepth 20000 in
theorem gL_law_X6_scale : GoodIn wsL_law (wsV RL 22 RX6 yX6_scale wsX6_scale) := goodIn_app (goodIn_of _ (by decide +kernel)) ggL_law_X6_scale
set_option maxRecDepth 20000 in
theorem ggL_law_X5_cut : GoodIn wsL_law wsX5_cut := goodIn_r _ [178, 15, 179, 180, 150, 151, 152, 153, 14, 154, 32, 33, 181, 182, 183, 31, 184, 38, 185, 186, 108, 109, 110, 2, 111, 19, 112, 113, 114, 115, 116, 18, 117, 118, 119, 120, 121, 122, 123, 124, 125, 126, 127, 128, 129, 130, 131, 132, 133, 134, 46, 861, 862, 863, 903, 904, 905, 906, 907, 908, 890, 891, 892, 893, 909, 910, 911, 912, 913, 914, 915, 916, 917, 918, 919, 894, 895, 896] (by decide +kernel) (by decide +kernel)
set_option maxRecDepth 20000 in
theorem gL_law_X5_cut : GoodIn wsL_law (wsV RL 23 RX5 yX5_cut wsX5_cut) := goodIn_app (goodIn_of _ (by decide +kernel)) ggL_law_X5_cut
set_option maxRecDepth 20000 in
theorem ggL_law_X6_cut : GoodIn wsL_law wsX6_cut := goodIn_r _ [190, 73, 74, 75, 76, 163, 164, 5, 165, 141, 142, 143, 171, 172, 173, 174, 72, 140, 864, 865, 866, 867, 868, 869, 870, 871, 872, 873, 874, 875, 876, 877, 878, 879, 880, 881, 882, 883, 884, 885, 886, 887, 888, 889] (by decide +kernel) (by decide +kernel)
set_option maxRecDepth 20000 in
theorem gL_law_X6_cut : GoodIn wsL_law (wsV RL 27 RX6 yX6_cut wsX6_cut) := goodIn_app (goodIn_of _ (by decide +kernel)) ggL_law_X6_cut
set_option maxRecDepth 20000 in
theorem ggL_law_X5_fit : GoodIn wsL_law wsX5_fit := goodIn_r _ [194, 15, 195, 196, 19, 112, 197, 198, 199, 200, 201, 202, 203, 149, 151, 152, 153, 14, 154, 32, 33, 114, 115, 116, 18, 117, 118, 119, 120, 121, 122, 123, 124, 125, 126, 127, 128, 129, 130, 131, 132, 133, 134, 46, 204, 205, 206, 207, 208, 209, 210, 211, 212, 213, 214, 215, 216, 217, 218, 219, 220, 221, 222, 223, 224, 225, 226, 227, 228, 229, 230, 231, 155, 156, 157, 31, 158, 38, 39, 40, 108, 109, 110, 2, 111, 113, 861, 862, 863, 890, 891, 892, 893, 894, 895, 896, 909, 910, 911, 912, 913, 914, 915, 916, 917, 918, 919, 903, 904, 905, 906, 907, 908] (by decide +kernel) (by decide +kernel)
set_option maxRecDepth 20000 in
theorem gL_law_X5_fit : GoodIn wsL_law (wsV RL 28 RX5 yX5_fit wsX5_fit) := goodIn_app (goodIn_of _ (by decide +kernel)) ggL_law_X5_fit
set_option maxRecDepth 20000 in
theorem ggL_law_X6_fit : GoodIn wsL_law wsX6_fit := goodIn_r _ [235, 236, 237, 94, 80, 85, 81, 82, 83, 169, 170, 73, 74, 163, 164, 5, 165, 141, 142, 143, 171, 172, 173, 174, 72, 140, 864, 865, 866, 867, 868, 869, 870, 871, 872, 873, 874, 875, 876, 877, 878, 879, 880, 881, 882, 883, 884, 885, 886, 887, 888, 889] (by decide +kernel) (by decide +kernel)
set_option maxRecDepth 20000 in
theorem gL_law_X6_fit : GoodIn wsL_law (wsV RL 32 RX6 yX6_fit wsX6_fit) := goodIn_app (goodIn_of _ (by decide +kernel)) ggL_law_X6_fit
set_option maxRecDepth 20000 in
theorem ggL_law_X5_place : GoodIn wsL_law wsX5_place := goodIn_r _ [241, 15, 151, 152, 153, 14, 154, 32, 33, 242, 243, 244, 31, 245, 40, 39, 38, 186, 41, 246, 247, 248, 249, 185, 250, 251, 252, 253, 861, 862, 863, 890, 891, 892, 893, 903, 904, 905, 906, 907, 908] (by decide +kernel) (by decide +kernel)
set_option maxRecDepth 20000 in
theorem gL_law_X5_place : GoodIn wsL_law (wsV RL 33 RX5 yX5_place wsX5_place) := goodIn_app (goodIn_of _ (by decide +kernel)) ggL_law_X5_place
set_option maxRecDepth 20000 in
theorem ggL_law_X6_place : GoodIn wsL_law wsX6_place := goodIn_r _ [257, 163, 164, 5, 165, 141, 142, 143, 258, 259, 260, 261, 73, 72, 76, 262, 263, 264, 265, 75, 74, 266, 267, 268, 269, 270, 271, 272, 273, 274, 275, 276, 277, 278, 279, 280, 281, 282, 70, 71, 864, 865, 866, 867, 868, 869, 870, 871, 872, 873, 874, 875, 876, 877, 878, 879, 880, 881, 882, 883, 884, 885, 886, 887, 888, 889] (by decide +kernel) (by decide +kernel)
set_option maxRecDepth 20000 in
theorem gL_law_X6_place : GoodIn wsL_law (wsV RL 36 RX6 yX6_place wsX6_place) := goodIn_app (goodIn_of _ (by decide +kernel)) ggL_law_X6_place
set_option maxRecDepth 20000 in
theorem ggL_law_X5_value : GoodIn wsL_law wsX5_value := goodIn_r _ [286, 15, 287, 151, 152, 153, 14, 154, 32, 33, 288, 289, 290, 31, 291, 41, 292, 38, 40, 39, 293, 202, 199, 203, 185, 246, 247, 248, 249, 186, 294, 295, 296, 297, 298, 243, 244, 245, 250, 251, 252, 253, 861, 862, 863, 890, 891, 892, 893, 903, 904, 905, 906, 907, 908] (by decide +kernel) (by decide +kernel)
set_option maxRecDepth 20000 in
theorem gL_law_X5_value : GoodIn wsL_law (wsV RL 37 RX5 yX5_value wsX5_value) := goodIn_app (goodIn_of _ (by decide +kernel)) ggL_law_X5_value
set_option maxRecDepth 20000 in
theorem ggL_law_X6_value : GoodIn wsL_law wsX6_value := goodIn_r _ [302, 303, 72, 274, 73, 75, 163, 164, 5, 165, 141, 142, 143, 279, 280, 281, 282, 70, 71, 275, 276, 277, 278, 74, 266, 267, 268, 269, 76, 270, 271, 272, 273, 864, 865, 866, 867, 868, 869, 870, 871, 872, 873, 874, 875, 876, 877, 878, 879, 880, 881, 882, 883, 884, 885, 886, 887, 888, 889] (by decide +kernel) (by decide +kernel)
set_option maxRecDepth 20000 in
theorem gL_law_X6_value : GoodIn wsL_law (wsV RL 40 RX6 yX6_value wsX6_value) := goodIn_app (goodIn_of _ (by decide +kernel)) ggL_law_X6_value
set_option maxRecDepth 20000 in
theorem ggL_law_X5_step : GoodIn wsL_law wsX5_step := goodIn_r _ [307, 15, 151, 152, 153, 14, 154, 32, 33, 100, 101, 2, 102, 308, 309, 310, 31, 311, 312, 313, 314, 315, 316, 39, 38, 185, 40, 317, 318, 319, 294, 295, 296, 297, 320, 321, 322, 323, 186, 861, 862, 863, 890, 891, 892, 893, 903, 904, 905, 906, 907, 908] (by decide +kernel) (by decide +kernel)
set_option maxRecDepth 20000 in
theorem gL_law_X5_step : GoodIn wsL_law (wsV RL 41 RX5 yX5_step wsX5_step) := goodIn_app (goodIn_of _ (by decide +kernel)) ggL_law_X5_step
set_option maxRecDepth 20000 in
theorem ggL_law_X6_step : GoodIn wsL_law wsX6_step := goodIn_r _ [327, 163, 164, 5, 165, 141, 142, 143, 328, 329, 330, 331, 332, 333, 334, 335, 73, 74, 72, 75, 76, 336, 337, 338, 339, 340, 341, 864, 865, 866, 867, 868, 869, 870, 871, 872, 873, 874, 875, 876, 877, 878, 879, 880, 881, 882, 883, 884, 885, 886, 887, 888, 889] (by decide +kernel) (by decide +kernel)
set_option maxRecDepth 20000 in
theorem gL_law_X6_step : GoodIn wsL_law (wsV RL 44 RX6 yX6_step wsX6_step) := goodIn_app (goodIn_of _ (by decide +kernel)) ggL_law_X6_step
set_option maxRecDepth 20000 in
theorem ggL_law_X5_tick : GoodIn wsL_law wsX5_tick := goodIn_r _ [345, 15, 287, 151, 152, 153, 14, 154, 32, 33, 100, 101, 2, 102, 346, 347, 348, 31, 349, 292, 39, 186, 350, 309, 310, 311, 312, 313, 314, 315, 316, 38, 185, 40, 317, 318, 319, 294, 295, 296, 297, 320, 321, 322, 323, 351, 352, 353, 861, 862, 863, 890, 891, 892, 893, 903, 904, 905, 906, 907, 908] (by decide +kernel) (by decide +kernel)
set_option maxRecDepth 20000 in
theorem gL_law_X5_tick : GoodIn wsL_law (wsV RL 45 RX5 yX5_tick wsX5_tick) := goodIn_app (goodIn_of _ (by decide +kernel)) ggL_law_X5_tick
set_option maxRecDepth 20000 in
theorem ggL_law_X6_tick : GoodIn wsL_law wsX6_tick := goodIn_r _ [357, 303, 73, 74, 163, 164, 5, 165, 141, 142, 143, 328, 329, 330, 331, 332, 333, 334, 335, 72, 75, 76, 336, 337, 338, 339, 340, 341, 262, 263, 264, 265, 864, 865, 866, 867, 868, 869, 870, 871, 872, 873, 874, 875, 876, 877, 878, 879, 880, 881, 882, 883, 884, 885, 886, 887, 888, 889] (by decide +kernel) (by decide +kernel)
set_option maxRecDepth 20000 in
theorem gL_law_X6_tick : GoodIn wsL_law (wsV RL 48 RX6 yX6_tick wsX6_tick) := goodIn_app (goodIn_of _ (by decide +kernel)) ggL_law_X6_tick
set_option maxRecDepth 20000 in
theorem ggL_law_X5_series : GoodIn wsL_law wsX5_series := goodIn_r _ [361, 19, 362, 363, 207, 15, 364, 365, 2, 366, 100, 101, 102, 114, 115, 116, 18, 117, 118, 367, 368, 369, 370, 10, 11, 371, 60, 211, 213, 214, 84, 221, 372, 373, 374, 375, 376, 377, 378, 379, 380, 381, 382, 383, 384, 385, 386, 387, 388, 389, 390, 391, 392, 46, 393, 394, 395, 396, 397, 398, 399, 400, 401, 402, 403, 404, 45, 405, 202, 199, 203, 406, 407, 408, 409, 410, 411, 412, 413, 414, 415, 416, 417, 418, 419, 420, 421, 422, 423, 424, 425, 426, 427, 428, 429, 198, 200, 430, 431, 432, 433, 861, 862, 863, 909, 910, 911, 912, 913, 914, 915, 916, 917, 918, 919, 894, 895, 896, 920, 921, 922] (by decide +kernel) (by decide +kernel)
set_option maxRecDepth 20000 in
theorem gL_law_X5_series : GoodIn wsL_law (wsV RL 49 RX5 yX5_series wsX5_series) := goodIn_app (goodIn_of _ (by decide +kernel)) ggL_law_X5_series
set_option maxRecDepth 20000 in
theorem ggL_law_X6_series : GoodIn wsL_law wsX6_series := goodIn_r _ [437, 94, 77, 78, 79, 80, 140, 438, 439, 5, 440, 141, 142, 143, 864, 865, 866, 867, 868, 869, 870, 871, 872, 873, 874, 875, 876, 877, 878, 879, 880, 881, 882, 883, 884, 885, 886, 887, 888, 889] (by decide +kernel) (by decide +kernel)
set_option maxRecDepth 20000 in
theorem gL_law_X6_series : GoodIn wsL_law (wsV RL 52 RX6 yX6_series wsX6_series) := goodIn_app (goodIn_of _ (by decide +kernel)) ggL_law_X6_series
set_option maxRecDepth 20000 in
theorem ggL_law_X5_style : GoodIn wsL_law wsX5_style := goodIn_r _ [444, 445, 446, 447, 2, 448, 19, 112, 114, 115, 116, 18, 117, 118, 119, 120, 121, 122, 123, 124, 125, 126, 127, 128, 129, 130, 131, 132, 133, 134, 46, 364, 365, 366, 100, 101, 102, 449, 450, 451, 207, 452, 373, 371, 374, 375, 861, 862, 863, 894, 895, 896, 909, 910, 911, 912, 913, 914, 915, 916, 917, 918, 919] (by decide +kernel) (by decide +kernel)
set_option maxRecDepth 20000 in
theorem gL_law_X5_style : GoodIn wsL_law (wsV RL 53 RX5 yX5_style wsX5_style) := goodIn_app (goodIn_of _ (by decide +kernel)) ggL_law_X5_style
set_option maxRecDepth 20000 in
theorem ggL_law_X6_style : GoodIn wsL_law wsX6_style := goodIn_r _ [456, 77, 78, 79, 140, 457, 458, 459, 5, 460, 94, 141, 142, 143, 438, 439, 440, 864, 865, 866, 867, 868, 869, 870, 871, 872, 873, 874, 875, 876, 877, 878, 879, 880, 881, 882, 883, 884, 885, 886, 887, 888, 889] (by decide +kernel) (by decide +kernel)
set_option maxRecDepth 20000 in
theorem gL_law_X6_style : GoodIn wsL_law (wsV RL 56 RX6 yX6_style wsX6_style) := goodIn_app (goodIn_of _ (by decide +kernel)) ggL_law_X6_style
