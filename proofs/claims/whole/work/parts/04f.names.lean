theorem dX6_isAxis_6 : decode cX6_isAxis 6 = .ok (.ireturn, 1) := by decide +kernel
set_option maxRecDepth 20000 in
theorem ggX6_canvas_X6_in : GoodIn wsX6_canvas wsX6_in := goodIn_r _ [8] (by decide +kernel) (by decide +kernel)
set_option maxRecDepth 20000 in
theorem gX6_canvas_X6_in : GoodIn wsX6_canvas (va_wsS RX6 86 yX6_in wsX6_in) := goodIn_app (goodIn_of _ (by decide +kernel)) ggX6_canvas_X6_in
theorem dX6_canvas_0 : decode cX6_canvas 0 = .ok (.iload_n 1, 1) := by decide +kernel
theorem dX6_canvas_1 : decode cX6_canvas 1 = .ok (.iconst 4, 1) := by decide +kernel
theorem dX6_canvas_2 : decode cX6_canvas 2 = .ok (.bipush 40, 2) := by decide +kernel
theorem dX6_canvas_4 : decode cX6_canvas 4 = .ok (.invokestatic 86, 3) := by decide +kernel
theorem dX6_canvas_7 : decode cX6_canvas 7 = .ok (.ifCond .eq 13, 3) := by decide +kernel
theorem dX6_canvas_10 : decode cX6_canvas 10 = .ok (.iload_n 2, 1) := by decide +kernel
theorem dX6_canvas_11 : decode cX6_canvas 11 = .ok (.iconst 2, 1) := by decide +kernel
theorem dX6_canvas_12 : decode cX6_canvas 12 = .ok (.bipush 16, 2) := by decide +kernel
theorem dX6_canvas_14 : decode cX6_canvas 14 = .ok (.invokestatic 86, 3) := by decide +kernel
theorem dX6_canvas_17 : decode cX6_canvas 17 = .ok (.ifCond .ne 5, 3) := by decide +kernel
theorem dX6_canvas_20 : decode cX6_canvas 20 = .ok (.iconst (-1), 1) := by decide +kernel
theorem dX6_canvas_21 : decode cX6_canvas 21 = .ok (.ireturn, 1) := by decide +kernel
theorem dX6_canvas_22 : decode cX6_canvas 22 = .ok (.aload_n 0, 1) := by decide +kernel
theorem dX6_canvas_23 : decode cX6_canvas 23 = .ok (.iload_n 1, 1) := by decide +kernel
theorem dX6_canvas_24 : decode cX6_canvas 24 = .ok (.putfield 7, 3) := by decide +kernel
theorem dX6_canvas_27 : decode cX6_canvas 27 = .ok (.aload_n 0, 1) := by decide +kernel
theorem dX6_canvas_28 : decode cX6_canvas 28 = .ok (.iload_n 2, 1) := by decide +kernel
theorem dX6_canvas_29 : decode cX6_canvas 29 = .ok (.putfield 13, 3) := by decide +kernel
theorem dX6_canvas_32 : decode cX6_canvas 32 = .ok (.aload_n 0, 1) := by decide +kernel
theorem dX6_canvas_33 : decode cX6_canvas 33 = .ok (.iconst 0, 1) := by decide +kernel
theorem dX6_canvas_34 : decode cX6_canvas 34 = .ok (.putfield 90, 3) := by decide +kernel
theorem dX6_canvas_37 : decode cX6_canvas 37 = .ok (.aload_n 0, 1) := by decide +kernel
theorem dX6_canvas_38 : decode cX6_canvas 38 = .ok (.iconst 0, 1) := by decide +kernel
theorem dX6_canvas_39 : decode cX6_canvas 39 = .ok (.putfield 93, 3) := by decide +kernel
theorem dX6_canvas_42 : decode cX6_canvas 42 = .ok (.iconst 1, 1) := by decide +kernel
theorem dX6_canvas_43 : decode cX6_canvas 43 = .ok (.ireturn, 1) := by decide +kernel
theorem dX6_dots_0 : decode cX6_dots 0 = .ok (.iload_n 1, 1) := by decide +kernel
theorem dX6_dots_1 : decode cX6_dots 1 = .ok (.ifCond .ne 12, 3) := by decide +kernel
theorem dX6_dots_4 : decode cX6_dots 4 = .ok (.iconst 2, 1) := by decide +kernel
theorem dX6_dots_5 : decode cX6_dots 5 = .ok (.aload_n 0, 1) := by decide +kernel
theorem dX6_dots_6 : decode cX6_dots 6 = .ok (.getfield 7, 3) := by decide +kernel
theorem dX6_dots_9 : decode cX6_dots 9 = .ok (.imul, 1) := by decide +kernel
theorem dX6_dots_10 : decode cX6_dots 10 = .ok (.goto 9, 3) := by decide +kernel
theorem dX6_dots_13 : decode cX6_dots 13 = .ok (.iconst 4, 1) := by decide +kernel
theorem dX6_dots_14 : decode cX6_dots 14 = .ok (.aload_n 0, 1) := by decide +kernel
theorem dX6_dots_15 : decode cX6_dots 15 = .ok (.getfield 13, 3) := by decide +kernel
theorem dX6_dots_18 : decode cX6_dots 18 = .ok (.imul, 1) := by decide +kernel
theorem dX6_dots_19 : decode cX6_dots 19 = .ok (.ireturn, 1) := by decide +kernel
theorem dX6_becomes_0 : decode cX6_becomes 0 = .ok (.aload_n 0, 1) := by decide +kernel
theorem dX6_becomes_1 : decode cX6_becomes 1 = .ok (.getfield 16, 3) := by decide +kernel
theorem dX6_becomes_4 : decode cX6_becomes 4 = .ok (.iload_n 1, 1) := by decide +kernel
theorem dX6_becomes_5 : decode cX6_becomes 5 = .ok (.iaload, 1) := by decide +kernel
theorem dX6_becomes_6 : decode cX6_becomes 6 = .ok (.istore_n 3, 1) := by decide +kernel
theorem dX6_becomes_7 : decode cX6_becomes 7 = .ok (.aload_n 0, 1) := by decide +kernel
theorem dX6_becomes_8 : decode cX6_becomes 8 = .ok (.getfield 16, 3) := by decide +kernel
theorem dX6_becomes_11 : decode cX6_becomes 11 = .ok (.iload_n 1, 1) := by decide +kernel
theorem dX6_becomes_12 : decode cX6_becomes 12 = .ok (.iload_n 2, 1) := by decide +kernel
theorem dX6_becomes_13 : decode cX6_becomes 13 = .ok (.iastore, 1) := by decide +kernel
theorem dX6_becomes_14 : decode cX6_becomes 14 = .ok (.aload_n 0, 1) := by decide +kernel
theorem dX6_becomes_15 : decode cX6_becomes 15 = .ok (.iconst 0, 1) := by decide +kernel
theorem dX6_becomes_16 : decode cX6_becomes 16 = .ok (.putfield 93, 3) := by decide +kernel
theorem dX6_becomes_19 : decode cX6_becomes 19 = .ok (.iload_n 3, 1) := by decide +kernel
theorem dX6_becomes_20 : decode cX6_becomes 20 = .ok (.ireturn, 1) := by decide +kernel
set_option maxRecDepth 20000 in
theorem ggX6_scale_X6_isAxis : GoodIn wsX6_scale wsX6_isAxis := goodIn_r _ [6, 7, 8, 5, 9] (by decide +kernel) (by decide +kernel)
set_option maxRecDepth 20000 in
theorem gX6_scale_X6_isAxis : GoodIn wsX6_scale (va_wsS RX6 97 yX6_isAxis wsX6_isAxis) := goodIn_app (goodIn_of _ (by decide +kernel)) ggX6_scale_X6_isAxis
set_option maxRecDepth 20000 in
theorem ggX6_scale_X6_in : GoodIn wsX6_scale wsX6_in := goodIn_r _ [9] (by decide +kernel) (by decide +kernel)
set_option maxRecDepth 20000 in
theorem gX6_scale_X6_in : GoodIn wsX6_scale (va_wsS RX6 86 yX6_in wsX6_in) := goodIn_app (goodIn_of _ (by decide +kernel)) ggX6_scale_X6_in
set_option maxRecDepth 20000 in
theorem ggX6_scale_X6_isValue : GoodIn wsX6_scale wsX6_isValue := goodIn_r _ [12, 13, 14, 7, 8, 5, 9] (by decide +kernel) (by decide +kernel)
set_option maxRecDepth 20000 in
theorem gX6_scale_X6_isValue : GoodIn wsX6_scale (va_wsS RX6 101 yX6_isValue wsX6_isValue) := goodIn_app (goodIn_of _ (by decide +kernel)) ggX6_scale_X6_isValue
set_option maxRecDepth 20000 in
theorem ggX6_scale_X6_becomes : GoodIn wsX6_scale wsX6_becomes := goodIn_r _ [18, 19, 20, 21, 22, 23, 24, 25, 26, 27, 28, 29, 30, 31, 32, 33, 34, 35, 36, 37, 38, 39, 40, 41, 42, 43, 44, 45, 46] (by decide +kernel) (by decide +kernel)
set_option maxRecDepth 20000 in
theorem gX6_scale_X6_becomes : GoodIn wsX6_scale (wsV RX6 104 RX6 yX6_becomes wsX6_becomes) := goodIn_app (goodIn_of _ (by decide +kernel)) ggX6_scale_X6_becomes
theorem dX6_scale_0 : decode cX6_scale 0 = .ok (.iload_n 1, 1) := by decide +kernel
theorem dX6_scale_1 : decode cX6_scale 1 = .ok (.invokestatic 97, 3) := by decide +kernel
theorem dX6_scale_4 : decode cX6_scale 4 = .ok (.ifCond .eq 33, 3) := by decide +kernel
theorem dX6_scale_7 : decode cX6_scale 7 = .ok (.iload_n 2, 1) := by decide +kernel
theorem dX6_scale_8 : decode cX6_scale 8 = .ok (.iconst 0, 1) := by decide +kernel
theorem dX6_scale_9 : decode cX6_scale 9 = .ok (.iconst 1, 1) := by decide +kernel
theorem dX6_scale_10 : decode cX6_scale 10 = .ok (.invokestatic 86, 3) := by decide +kernel
theorem dX6_scale_13 : decode cX6_scale 13 = .ok (.ifCond .eq 24, 3) := by decide +kernel
theorem dX6_scale_16 : decode cX6_scale 16 = .ok (.iload_n 3, 1) := by decide +kernel
theorem dX6_scale_17 : decode cX6_scale 17 = .ok (.invokestatic 101, 3) := by decide +kernel
theorem dX6_scale_20 : decode cX6_scale 20 = .ok (.ifCond .eq 17, 3) := by decide +kernel
theorem dX6_scale_23 : decode cX6_scale 23 = .ok (.iload 4, 2) := by decide +kernel
theorem dX6_scale_25 : decode cX6_scale 25 = .ok (.invokestatic 101, 3) := by decide +kernel
theorem dX6_scale_28 : decode cX6_scale 28 = .ok (.ifCond .eq 9, 3) := by decide +kernel
theorem dX6_scale_31 : decode cX6_scale 31 = .ok (.iload_n 3, 1) := by decide +kernel
theorem dX6_scale_32 : decode cX6_scale 32 = .ok (.iload 4, 2) := by decide +kernel
theorem dX6_scale_34 : decode cX6_scale 34 = .ok (.if_icmp .lt 5, 3) := by decide +kernel
theorem dX6_scale_37 : decode cX6_scale 37 = .ok (.iconst (-1), 1) := by decide +kernel
theorem dX6_scale_38 : decode cX6_scale 38 = .ok (.ireturn, 1) := by decide +kernel
theorem dX6_scale_39 : decode cX6_scale 39 = .ok (.aload_n 0, 1) := by decide +kernel
theorem dX6_scale_40 : decode cX6_scale 40 = .ok (.getfield 20, 3) := by decide +kernel
theorem dX6_scale_43 : decode cX6_scale 43 = .ok (.iload_n 1, 1) := by decide +kernel
theorem dX6_scale_44 : decode cX6_scale 44 = .ok (.iload_n 3, 1) := by decide +kernel
theorem dX6_scale_45 : decode cX6_scale 45 = .ok (.iastore, 1) := by decide +kernel
theorem dX6_scale_46 : decode cX6_scale 46 = .ok (.aload_n 0, 1) := by decide +kernel
theorem dX6_scale_47 : decode cX6_scale 47 = .ok (.getfield 23, 3) := by decide +kernel
theorem dX6_scale_50 : decode cX6_scale 50 = .ok (.iload_n 1, 1) := by decide +kernel
theorem dX6_scale_51 : decode cX6_scale 51 = .ok (.iload 4, 2) := by decide +kernel
theorem dX6_scale_53 : decode cX6_scale 53 = .ok (.iastore, 1) := by decide +kernel
theorem dX6_scale_54 : decode cX6_scale 54 = .ok (.aload_n 0, 1) := by decide +kernel
theorem dX6_scale_55 : decode cX6_scale 55 = .ok (.iload_n 1, 1) := by decide +kernel
theorem dX6_scale_56 : decode cX6_scale 56 = .ok (.iload_n 2, 1) := by decide +kernel
theorem dX6_scale_57 : decode cX6_scale 57 = .ok (.invokevirtual 104, 3) := by decide +kernel
theorem dX6_scale_60 : decode cX6_scale 60 = .ok (.ireturn, 1) := by decide +kernel
set_option maxRecDepth 20000 in
theorem ggX6_cut_X6_isAxis : GoodIn wsX6_cut wsX6_isAxis := goodIn_r _ [8, 9, 10, 7, 11] (by decide +kernel) (by decide +kernel)
set_option maxRecDepth 20000 in
theorem gX6_cut_X6_isAxis : GoodIn wsX6_cut (va_wsS RX6 97 yX6_isAxis wsX6_isAxis) := goodIn_app (goodIn_of _ (by decide +kernel)) ggX6_cut_X6_isAxis
set_option maxRecDepth 20000 in
theorem ggX6_cut_X6_becomes : GoodIn wsX6_cut wsX6_becomes := goodIn_r _ [15, 16, 17, 18, 19, 20, 21, 22, 23, 24, 25, 26, 27, 28, 29, 30, 31, 32, 33, 34, 35, 36, 37, 38, 39, 40, 41, 42, 43] (by decide +kernel) (by decide +kernel)
set_option maxRecDepth 20000 in
theorem gX6_cut_X6_becomes : GoodIn wsX6_cut (wsV RX6 104 RX6 yX6_becomes wsX6_becomes) := goodIn_app (goodIn_of _ (by decide +kernel)) ggX6_cut_X6_becomes
theorem dX6_cut_0 : decode cX6_cut 0 = .ok (.iload_n 1, 1) := by decide +kernel
theorem dX6_cut_1 : decode cX6_cut 1 = .ok (.invokestatic 97, 3) := by decide +kernel
theorem dX6_cut_4 : decode cX6_cut 4 = .ok (.ifCond .eq 28, 3) := by decide +kernel
theorem dX6_cut_7 : decode cX6_cut 7 = .ok (.iload_n 2, 1) := by decide +kernel
theorem dX6_cut_8 : decode cX6_cut 8 = .ok (.aload_n 0, 1) := by decide +kernel
theorem dX6_cut_9 : decode cX6_cut 9 = .ok (.getfield 20, 3) := by decide +kernel
theorem dX6_cut_12 : decode cX6_cut 12 = .ok (.iload_n 1, 1) := by decide +kernel
theorem dX6_cut_13 : decode cX6_cut 13 = .ok (.iaload, 1) := by decide +kernel
theorem dX6_cut_14 : decode cX6_cut 14 = .ok (.if_icmp .le 18, 3) := by decide +kernel
theorem dX6_cut_17 : decode cX6_cut 17 = .ok (.iload_n 3, 1) := by decide +kernel
theorem dX6_cut_18 : decode cX6_cut 18 = .ok (.iload_n 2, 1) := by decide +kernel
theorem dX6_cut_19 : decode cX6_cut 19 = .ok (.if_icmp .le 13, 3) := by decide +kernel
theorem dX6_cut_22 : decode cX6_cut 22 = .ok (.aload_n 0, 1) := by decide +kernel
theorem dX6_cut_23 : decode cX6_cut 23 = .ok (.getfield 23, 3) := by decide +kernel
theorem dX6_cut_26 : decode cX6_cut 26 = .ok (.iload_n 1, 1) := by decide +kernel
theorem dX6_cut_27 : decode cX6_cut 27 = .ok (.iaload, 1) := by decide +kernel
theorem dX6_cut_28 : decode cX6_cut 28 = .ok (.iload_n 3, 1) := by decide +kernel
theorem dX6_cut_29 : decode cX6_cut 29 = .ok (.if_icmp .gt 5, 3) := by decide +kernel
theorem dX6_cut_32 : decode cX6_cut 32 = .ok (.iconst (-1), 1) := by decide +kernel
theorem dX6_cut_33 : decode cX6_cut 33 = .ok (.ireturn, 1) := by decide +kernel
theorem dX6_cut_34 : decode cX6_cut 34 = .ok (.aload_n 0, 1) := by decide +kernel
theorem dX6_cut_35 : decode cX6_cut 35 = .ok (.getfield 26, 3) := by decide +kernel
theorem dX6_cut_38 : decode cX6_cut 38 = .ok (.iload_n 1, 1) := by decide +kernel
theorem dX6_cut_39 : decode cX6_cut 39 = .ok (.iload_n 2, 1) := by decide +kernel
theorem dX6_cut_40 : decode cX6_cut 40 = .ok (.iastore, 1) := by decide +kernel
theorem dX6_cut_41 : decode cX6_cut 41 = .ok (.aload_n 0, 1) := by decide +kernel
theorem dX6_cut_42 : decode cX6_cut 42 = .ok (.getfield 29, 3) := by decide +kernel
theorem dX6_cut_45 : decode cX6_cut 45 = .ok (.iload_n 1, 1) := by decide +kernel
theorem dX6_cut_46 : decode cX6_cut 46 = .ok (.iload_n 3, 1) := by decide +kernel
theorem dX6_cut_47 : decode cX6_cut 47 = .ok (.iastore, 1) := by decide +kernel
theorem dX6_cut_48 : decode cX6_cut 48 = .ok (.aload_n 0, 1) := by decide +kernel
theorem dX6_cut_49 : decode cX6_cut 49 = .ok (.iload_n 1, 1) := by decide +kernel
theorem dX6_cut_50 : decode cX6_cut 50 = .ok (.iconst 2, 1) := by decide +kernel
theorem dX6_cut_51 : decode cX6_cut 51 = .ok (.invokevirtual 104, 3) := by decide +kernel
theorem dX6_cut_54 : decode cX6_cut 54 = .ok (.ireturn, 1) := by decide +kernel
set_option maxRecDepth 20000 in
theorem ggX6_fit_X6_isAxis : GoodIn wsX6_fit wsX6_isAxis := goodIn_r _ [16, 17, 18, 15, 19] (by decide +kernel) (by decide +kernel)
set_option maxRecDepth 20000 in
theorem gX6_fit_X6_isAxis : GoodIn wsX6_fit (va_wsS RX6 97 yX6_isAxis wsX6_isAxis) := goodIn_app (goodIn_of _ (by decide +kernel)) ggX6_fit_X6_isAxis
set_option maxRecDepth 20000 in
theorem ggX6_fit_X6_becomes : GoodIn wsX6_fit wsX6_becomes := goodIn_r _ [23, 24, 25, 26, 27, 28, 29, 30, 31, 32, 33, 34, 35, 36, 37, 38, 39, 40, 41, 42, 43, 44, 45, 46, 47, 48, 49, 50, 51] (by decide +kernel) (by decide +kernel)
set_option maxRecDepth 20000 in
theorem gX6_fit_X6_becomes : GoodIn wsX6_fit (wsV RX6 104 RX6 yX6_becomes wsX6_becomes) := goodIn_app (goodIn_of _ (by decide +kernel)) ggX6_fit_X6_becomes
theorem dX6_fit_0 : decode cX6_fit 0 = .ok (.iload_n 1, 1) := by decide +kernel
theorem dX6_fit_1 : decode cX6_fit 1 = .ok (.invokestatic 97, 3) := by decide +kernel
theorem dX6_fit_4 : decode cX6_fit 4 = .ok (.ifCond .ne 5, 3) := by decide +kernel
theorem dX6_fit_7 : decode cX6_fit 7 = .ok (.iconst (-1), 1) := by decide +kernel
theorem dX6_fit_8 : decode cX6_fit 8 = .ok (.ireturn, 1) := by decide +kernel
theorem dX6_fit_9 : decode cX6_fit 9 = .ok (.ldc 108, 2) := by decide +kernel
theorem dX6_fit_11 : decode cX6_fit 11 = .ok (.istore_n 2, 1) := by decide +kernel
theorem dX6_fit_12 : decode cX6_fit 12 = .ok (.ldc 109, 2) := by decide +kernel
theorem dX6_fit_14 : decode cX6_fit 14 = .ok (.istore_n 3, 1) := by decide +kernel
theorem dX6_fit_15 : decode cX6_fit 15 = .ok (.iconst 0, 1) := by decide +kernel
theorem dX6_fit_16 : decode cX6_fit 16 = .ok (.istore 4, 2) := by decide +kernel
theorem dX6_fit_18 : decode cX6_fit 18 = .ok (.iload 4, 2) := by decide +kernel
theorem dX6_fit_20 : decode cX6_fit 20 = .ok (.aload_n 0, 1) := by decide +kernel
theorem dX6_fit_21 : decode cX6_fit 21 = .ok (.getfield 81, 3) := by decide +kernel
theorem dX6_fit_24 : decode cX6_fit 24 = .ok (.if_icmp .ge 170, 3) := by decide +kernel
theorem dX6_fit_27 : decode cX6_fit 27 = .ok (.bipush 24, 2) := by decide +kernel
theorem dX6_fit_29 : decode cX6_fit 29 = .ok (.iload 4, 2) := by decide +kernel
theorem dX6_fit_31 : decode cX6_fit 31 = .ok (.imul, 1) := by decide +kernel
theorem dX6_fit_32 : decode cX6_fit 32 = .ok (.istore 5, 2) := by decide +kernel
theorem dX6_fit_34 : decode cX6_fit 34 = .ok (.iload 5, 2) := by decide +kernel
theorem dX6_fit_36 : decode cX6_fit 36 = .ok (.bipush 24, 2) := by decide +kernel
theorem dX6_fit_38 : decode cX6_fit 38 = .ok (.iload 4, 2) := by decide +kernel
theorem dX6_fit_40 : decode cX6_fit 40 = .ok (.imul, 1) := by decide +kernel
theorem dX6_fit_41 : decode cX6_fit 41 = .ok (.aload_n 0, 1) := by decide +kernel
theorem dX6_fit_42 : decode cX6_fit 42 = .ok (.getfield 41, 3) := by decide +kernel
theorem dX6_fit_45 : decode cX6_fit 45 = .ok (.iload 4, 2) := by decide +kernel
theorem dX6_fit_47 : decode cX6_fit 47 = .ok (.iaload, 1) := by decide +kernel
theorem dX6_fit_48 : decode cX6_fit 48 = .ok (.iadd, 1) := by decide +kernel
theorem dX6_fit_49 : decode cX6_fit 49 = .ok (.if_icmp .ge 139, 3) := by decide +kernel
theorem dX6_fit_52 : decode cX6_fit 52 = .ok (.aload_n 0, 1) := by decide +kernel
theorem dX6_fit_53 : decode cX6_fit 53 = .ok (.getfield 53, 3) := by decide +kernel
theorem dX6_fit_56 : decode cX6_fit 56 = .ok (.iload 5, 2) := by decide +kernel
theorem dX6_fit_58 : decode cX6_fit 58 = .ok (.baload, 1) := by decide +kernel
theorem dX6_fit_59 : decode cX6_fit 59 = .ok (.ifCond .ne 123, 3) := by decide +kernel
theorem dX6_fit_62 : decode cX6_fit 62 = .ok (.iload_n 1, 1) := by decide +kernel
theorem dX6_fit_63 : decode cX6_fit 63 = .ok (.ifCond .ne 13, 3) := by decide +kernel
theorem dX6_fit_66 : decode cX6_fit 66 = .ok (.aload_n 0, 1) := by decide +kernel
theorem dX6_fit_67 : decode cX6_fit 67 = .ok (.getfield 44, 3) := by decide +kernel
theorem dX6_fit_70 : decode cX6_fit 70 = .ok (.iload 5, 2) := by decide +kernel
theorem dX6_fit_72 : decode cX6_fit 72 = .ok (.iaload, 1) := by decide +kernel
theorem dX6_fit_73 : decode cX6_fit 73 = .ok (.goto 18, 3) := by decide +kernel
theorem dX6_fit_76 : decode cX6_fit 76 = .ok (.aload_n 0, 1) := by decide +kernel
theorem dX6_fit_77 : decode cX6_fit 77 = .ok (.getfield 47, 3) := by decide +kernel
theorem dX6_fit_80 : decode cX6_fit 80 = .ok (.iload 5, 2) := by decide +kernel
theorem dX6_fit_82 : decode cX6_fit 82 = .ok (.iaload, 1) := by decide +kernel
theorem dX6_fit_83 : decode cX6_fit 83 = .ok (.aload_n 0, 1) := by decide +kernel
theorem dX6_fit_84 : decode cX6_fit 84 = .ok (.getfield 50, 3) := by decide +kernel
theorem dX6_fit_87 : decode cX6_fit 87 = .ok (.iload 5, 2) := by decide +kernel
theorem dX6_fit_89 : decode cX6_fit 89 = .ok (.iaload, 1) := by decide +kernel
theorem dX6_fit_90 : decode cX6_fit 90 = .ok (.isub, 1) := by decide +kernel
theorem dX6_fit_91 : decode cX6_fit 91 = .ok (.istore 6, 2) := by decide +kernel
theorem dX6_fit_93 : decode cX6_fit 93 = .ok (.iload_n 1, 1) := by decide +kernel
theorem dX6_fit_94 : decode cX6_fit 94 = .ok (.ifCond .ne 13, 3) := by decide +kernel
theorem dX6_fit_97 : decode cX6_fit 97 = .ok (.aload_n 0, 1) := by decide +kernel
theorem dX6_fit_98 : decode cX6_fit 98 = .ok (.getfield 44, 3) := by decide +kernel
theorem dX6_fit_101 : decode cX6_fit 101 = .ok (.iload 5, 2) := by decide +kernel
theorem dX6_fit_103 : decode cX6_fit 103 = .ok (.iaload, 1) := by decide +kernel
theorem dX6_fit_104 : decode cX6_fit 104 = .ok (.goto 18, 3) := by decide +kernel
theorem dX6_fit_107 : decode cX6_fit 107 = .ok (.aload_n 0, 1) := by decide +kernel
theorem dX6_fit_108 : decode cX6_fit 108 = .ok (.getfield 47, 3) := by decide +kernel
theorem dX6_fit_111 : decode cX6_fit 111 = .ok (.iload 5, 2) := by decide +kernel
theorem dX6_fit_113 : decode cX6_fit 113 = .ok (.iaload, 1) := by decide +kernel
theorem dX6_fit_114 : decode cX6_fit 114 = .ok (.aload_n 0, 1) := by decide +kernel
theorem dX6_fit_115 : decode cX6_fit 115 = .ok (.getfield 50, 3) := by decide +kernel
theorem dX6_fit_118 : decode cX6_fit 118 = .ok (.iload 5, 2) := by decide +kernel
theorem dX6_fit_120 : decode cX6_fit 120 = .ok (.iaload, 1) := by decide +kernel
theorem dX6_fit_121 : decode cX6_fit 121 = .ok (.iadd, 1) := by decide +kernel
theorem dX6_fit_122 : decode cX6_fit 122 = .ok (.istore 7, 2) := by decide +kernel
theorem dX6_fit_124 : decode cX6_fit 124 = .ok (.iload 6, 2) := by decide +kernel
theorem dX6_fit_126 : decode cX6_fit 126 = .ok (.ldc 84, 2) := by decide +kernel
theorem dX6_fit_128 : decode cX6_fit 128 = .ok (.if_icmp .ge 8, 3) := by decide +kernel
theorem dX6_fit_131 : decode cX6_fit 131 = .ok (.ldc 84, 2) := by decide +kernel
theorem dX6_fit_133 : decode cX6_fit 133 = .ok (.goto 5, 3) := by decide +kernel
theorem dX6_fit_136 : decode cX6_fit 136 = .ok (.iload 6, 2) := by decide +kernel
theorem dX6_fit_138 : decode cX6_fit 138 = .ok (.istore 6, 2) := by decide +kernel
theorem dX6_fit_140 : decode cX6_fit 140 = .ok (.iload 7, 2) := by decide +kernel
theorem dX6_fit_142 : decode cX6_fit 142 = .ok (.ldc 85, 2) := by decide +kernel
theorem dX6_fit_144 : decode cX6_fit 144 = .ok (.if_icmp .le 8, 3) := by decide +kernel
theorem dX6_fit_147 : decode cX6_fit 147 = .ok (.ldc 85, 2) := by decide +kernel
theorem dX6_fit_149 : decode cX6_fit 149 = .ok (.goto 5, 3) := by decide +kernel
theorem dX6_fit_152 : decode cX6_fit 152 = .ok (.iload 7, 2) := by decide +kernel
theorem dX6_fit_154 : decode cX6_fit 154 = .ok (.istore 7, 2) := by decide +kernel
theorem dX6_fit_156 : decode cX6_fit 156 = .ok (.iload 6, 2) := by decide +kernel
theorem dX6_fit_158 : decode cX6_fit 158 = .ok (.iload_n 2, 1) := by decide +kernel
theorem dX6_fit_159 : decode cX6_fit 159 = .ok (.if_icmp .ge 8, 3) := by decide +kernel
theorem dX6_fit_162 : decode cX6_fit 162 = .ok (.iload 6, 2) := by decide +kernel
theorem dX6_fit_164 : decode cX6_fit 164 = .ok (.goto 4, 3) := by decide +kernel
theorem dX6_fit_167 : decode cX6_fit 167 = .ok (.iload_n 2, 1) := by decide +kernel
theorem dX6_fit_168 : decode cX6_fit 168 = .ok (.istore_n 2, 1) := by decide +kernel
theorem dX6_fit_169 : decode cX6_fit 169 = .ok (.iload 7, 2) := by decide +kernel
theorem dX6_fit_171 : decode cX6_fit 171 = .ok (.iload_n 3, 1) := by decide +kernel
theorem dX6_fit_172 : decode cX6_fit 172 = .ok (.if_icmp .le 8, 3) := by decide +kernel
theorem dX6_fit_175 : decode cX6_fit 175 = .ok (.iload 7, 2) := by decide +kernel
theorem dX6_fit_177 : decode cX6_fit 177 = .ok (.goto 4, 3) := by decide +kernel
theorem dX6_fit_180 : decode cX6_fit 180 = .ok (.iload_n 3, 1) := by decide +kernel
theorem dX6_fit_181 : decode cX6_fit 181 = .ok (.istore_n 3, 1) := by decide +kernel
theorem dX6_fit_182 : decode cX6_fit 182 = .ok (.iinc 5 1, 3) := by decide +kernel
theorem dX6_fit_185 : decode cX6_fit 185 = .ok (.goto (-151), 3) := by decide +kernel
theorem dX6_fit_188 : decode cX6_fit 188 = .ok (.iinc 4 1, 3) := by decide +kernel
theorem dX6_fit_191 : decode cX6_fit 191 = .ok (.goto (-173), 3) := by decide +kernel
theorem dX6_fit_194 : decode cX6_fit 194 = .ok (.iload_n 2, 1) := by decide +kernel
theorem dX6_fit_195 : decode cX6_fit 195 = .ok (.iload_n 3, 1) := by decide +kernel
theorem dX6_fit_196 : decode cX6_fit 196 = .ok (.if_icmp .gt 9, 3) := by decide +kernel
theorem dX6_fit_199 : decode cX6_fit 199 = .ok (.iload_n 2, 1) := by decide +kernel
theorem dX6_fit_200 : decode cX6_fit 200 = .ok (.ldc 85, 2) := by decide +kernel
theorem dX6_fit_202 : decode cX6_fit 202 = .ok (.if_icmp .ne 6, 3) := by decide +kernel
theorem dX6_fit_205 : decode cX6_fit 205 = .ok (.bipush (-2), 2) := by decide +kernel
theorem dX6_fit_207 : decode cX6_fit 207 = .ok (.ireturn, 1) := by decide +kernel
theorem dX6_fit_208 : decode cX6_fit 208 = .ok (.aload_n 0, 1) := by decide +kernel
theorem dX6_fit_209 : decode cX6_fit 209 = .ok (.getfield 20, 3) := by decide +kernel
theorem dX6_fit_212 : decode cX6_fit 212 = .ok (.iload_n 1, 1) := by decide +kernel
theorem dX6_fit_213 : decode cX6_fit 213 = .ok (.iload_n 2, 1) := by decide +kernel
theorem dX6_fit_214 : decode cX6_fit 214 = .ok (.iastore, 1) := by decide +kernel
theorem dX6_fit_215 : decode cX6_fit 215 = .ok (.aload_n 0, 1) := by decide +kernel
theorem dX6_fit_216 : decode cX6_fit 216 = .ok (.getfield 23, 3) := by decide +kernel
theorem dX6_fit_219 : decode cX6_fit 219 = .ok (.iload_n 1, 1) := by decide +kernel
theorem dX6_fit_220 : decode cX6_fit 220 = .ok (.iload_n 2, 1) := by decide +kernel
theorem dX6_fit_221 : decode cX6_fit 221 = .ok (.iload_n 3, 1) := by decide +kernel
theorem dX6_fit_222 : decode cX6_fit 222 = .ok (.if_icmp .ne 9, 3) := by decide +kernel
theorem dX6_fit_225 : decode cX6_fit 225 = .ok (.iload_n 3, 1) := by decide +kernel
theorem dX6_fit_226 : decode cX6_fit 226 = .ok (.iconst 1, 1) := by decide +kernel
theorem dX6_fit_227 : decode cX6_fit 227 = .ok (.iadd, 1) := by decide +kernel
theorem dX6_fit_228 : decode cX6_fit 228 = .ok (.goto 4, 3) := by decide +kernel
theorem dX6_fit_231 : decode cX6_fit 231 = .ok (.iload_n 3, 1) := by decide +kernel
theorem dX6_fit_232 : decode cX6_fit 232 = .ok (.iastore, 1) := by decide +kernel
theorem dX6_fit_233 : decode cX6_fit 233 = .ok (.aload_n 0, 1) := by decide +kernel
theorem dX6_fit_234 : decode cX6_fit 234 = .ok (.iload_n 1, 1) := by decide +kernel
theorem dX6_fit_235 : decode cX6_fit 235 = .ok (.iconst 0, 1) := by decide +kernel
theorem dX6_fit_236 : decode cX6_fit 236 = .ok (.invokevirtual 104, 3) := by decide +kernel
theorem dX6_fit_239 : decode cX6_fit 239 = .ok (.istore 4, 2) := by decide +kernel
theorem dX6_fit_241 : decode cX6_fit 241 = .ok (.iconst 1, 1) := by decide +kernel
theorem dX6_fit_242 : decode cX6_fit 242 = .ok (.ireturn, 1) := by decide +kernel
theorem dX6_left_0 : decode cX6_left 0 = .ok (.aload_n 0, 1) := by decide +kernel
theorem dX6_left_1 : decode cX6_left 1 = .ok (.getfield 16, 3) := by decide +kernel
theorem dX6_left_4 : decode cX6_left 4 = .ok (.iload_n 1, 1) := by decide +kernel
theorem dX6_left_5 : decode cX6_left 5 = .ok (.iaload, 1) := by decide +kernel
theorem dX6_left_6 : decode cX6_left 6 = .ok (.iconst 2, 1) := by decide +kernel
theorem dX6_left_7 : decode cX6_left 7 = .ok (.if_icmp .ne 19, 3) := by decide +kernel
theorem dX6_left_10 : decode cX6_left 10 = .ok (.aload_n 0, 1) := by decide +kernel
theorem dX6_left_11 : decode cX6_left 11 = .ok (.getfield 29, 3) := by decide +kernel
theorem dX6_left_14 : decode cX6_left 14 = .ok (.iload_n 1, 1) := by decide +kernel
theorem dX6_left_15 : decode cX6_left 15 = .ok (.iaload, 1) := by decide +kernel
theorem dX6_left_16 : decode cX6_left 16 = .ok (.aload_n 0, 1) := by decide +kernel
theorem dX6_left_17 : decode cX6_left 17 = .ok (.getfield 26, 3) := by decide +kernel
theorem dX6_left_20 : decode cX6_left 20 = .ok (.iload_n 1, 1) := by decide +kernel
theorem dX6_left_21 : decode cX6_left 21 = .ok (.iaload, 1) := by decide +kernel
theorem dX6_left_22 : decode cX6_left 22 = .ok (.isub, 1) := by decide +kernel
theorem dX6_left_23 : decode cX6_left 23 = .ok (.goto 4, 3) := by decide +kernel
theorem dX6_left_26 : decode cX6_left 26 = .ok (.iconst 0, 1) := by decide +kernel
theorem dX6_left_27 : decode cX6_left 27 = .ok (.ireturn, 1) := by decide +kernel
set_option maxRecDepth 20000 in
theorem ggX6_span_X6_left : GoodIn wsX6_span wsX6_left := goodIn_r _ [7, 8, 9, 10, 11, 12, 13, 14, 15, 16, 17, 18, 19, 20, 21, 22, 23, 24, 25, 26, 27, 28, 29, 30, 31, 32, 33, 34, 35, 36] (by decide +kernel) (by decide +kernel)
set_option maxRecDepth 20000 in
theorem gX6_span_X6_left : GoodIn wsX6_span (wsV RX6 110 RX6 yX6_left wsX6_left) := goodIn_app (goodIn_of _ (by decide +kernel)) ggX6_span_X6_left
theorem dX6_span_0 : decode cX6_span 0 = .ok (.aload_n 0, 1) := by decide +kernel
theorem dX6_span_1 : decode cX6_span 1 = .ok (.getfield 23, 3) := by decide +kernel
theorem dX6_span_4 : decode cX6_span 4 = .ok (.iload_n 1, 1) := by decide +kernel
theorem dX6_span_5 : decode cX6_span 5 = .ok (.iaload, 1) := by decide +kernel
theorem dX6_span_6 : decode cX6_span 6 = .ok (.i2l, 1) := by decide +kernel
theorem dX6_span_7 : decode cX6_span 7 = .ok (.aload_n 0, 1) := by decide +kernel
theorem dX6_span_8 : decode cX6_span 8 = .ok (.getfield 20, 3) := by decide +kernel
theorem dX6_span_11 : decode cX6_span 11 = .ok (.iload_n 1, 1) := by decide +kernel
theorem dX6_span_12 : decode cX6_span 12 = .ok (.iaload, 1) := by decide +kernel
theorem dX6_span_13 : decode cX6_span 13 = .ok (.i2l, 1) := by decide +kernel
theorem dX6_span_14 : decode cX6_span 14 = .ok (.lsub, 1) := by decide +kernel
theorem dX6_span_15 : decode cX6_span 15 = .ok (.aload_n 0, 1) := by decide +kernel
theorem dX6_span_16 : decode cX6_span 16 = .ok (.iload_n 1, 1) := by decide +kernel
theorem dX6_span_17 : decode cX6_span 17 = .ok (.invokevirtual 110, 3) := by decide +kernel
theorem dX6_span_20 : decode cX6_span 20 = .ok (.i2l, 1) := by decide +kernel
theorem dX6_span_21 : decode cX6_span 21 = .ok (.lsub, 1) := by decide +kernel
theorem dX6_span_22 : decode cX6_span 22 = .ok (.lreturn, 1) := by decide +kernel
set_option maxRecDepth 20000 in
theorem ggX6_dotOf_X6_span : GoodIn wsX6_dotOf wsX6_span := goodIn_r _ [6, 7, 8, 9, 10, 11, 5, 12, 13, 14, 15, 22, 23, 24, 25, 26, 27, 28, 29, 30, 31, 32, 33, 34, 35, 36, 37, 38, 39, 40, 41, 42, 43, 44, 45, 46, 47] (by decide +kernel) (by decide +kernel)
set_option maxRecDepth 20000 in
theorem gX6_dotOf_X6_span : GoodIn wsX6_dotOf (wsV RX6 114 RX6 yX6_span wsX6_span) := goodIn_app (goodIn_of _ (by decide +kernel)) ggX6_dotOf_X6_span
set_option maxRecDepth 20000 in
theorem ggX6_dotOf_X6_dots : GoodIn wsX6_dotOf wsX6_dots := goodIn_r _ [19, 20, 21, 22, 23, 24, 25, 26, 27, 28, 29, 30, 31, 32, 33, 34, 35, 36, 37, 38, 39, 40, 41, 42, 43, 44, 45, 46, 47] (by decide +kernel) (by decide +kernel)
set_option maxRecDepth 20000 in
theorem gX6_dotOf_X6_dots : GoodIn wsX6_dotOf (wsV RX6 120 RX6 yX6_dots wsX6_dots) := goodIn_app (goodIn_of _ (by decide +kernel)) ggX6_dotOf_X6_dots
theorem dX6_dotOf_0 : decode cX6_dotOf 0 = .ok (.aload_n 0, 1) := by decide +kernel
theorem dX6_dotOf_1 : decode cX6_dotOf 1 = .ok (.iload_n 1, 1) := by decide +kernel
theorem dX6_dotOf_2 : decode cX6_dotOf 2 = .ok (.invokevirtual 114, 3) := by decide +kernel
theorem dX6_dotOf_5 : decode cX6_dotOf 5 = .ok (.lstore 4, 2) := by decide +kernel
theorem dX6_dotOf_7 : decode cX6_dotOf 7 = .ok (.ldc2_w 118, 3) := by decide +kernel
theorem dX6_dotOf_10 : decode cX6_dotOf 10 = .ok (.lload_n 2, 1) := by decide +kernel
theorem dX6_dotOf_11 : decode cX6_dotOf 11 = .ok (.lmul, 1) := by decide +kernel
theorem dX6_dotOf_12 : decode cX6_dotOf 12 = .ok (.aload_n 0, 1) := by decide +kernel
theorem dX6_dotOf_13 : decode cX6_dotOf 13 = .ok (.iload_n 1, 1) := by decide +kernel
theorem dX6_dotOf_14 : decode cX6_dotOf 14 = .ok (.invokevirtual 120, 3) := by decide +kernel
theorem dX6_dotOf_17 : decode cX6_dotOf 17 = .ok (.iconst 1, 1) := by decide +kernel
theorem dX6_dotOf_18 : decode cX6_dotOf 18 = .ok (.isub, 1) := by decide +kernel
theorem dX6_dotOf_19 : decode cX6_dotOf 19 = .ok (.i2l, 1) := by decide +kernel
theorem dX6_dotOf_20 : decode cX6_dotOf 20 = .ok (.lmul, 1) := by decide +kernel
theorem dX6_dotOf_21 : decode cX6_dotOf 21 = .ok (.lload 4, 2) := by decide +kernel
theorem dX6_dotOf_23 : decode cX6_dotOf 23 = .ok (.ladd, 1) := by decide +kernel
theorem dX6_dotOf_24 : decode cX6_dotOf 24 = .ok (.ldc2_w 118, 3) := by decide +kernel
theorem dX6_dotOf_27 : decode cX6_dotOf 27 = .ok (.lload 4, 2) := by decide +kernel
theorem dX6_dotOf_29 : decode cX6_dotOf 29 = .ok (.lmul, 1) := by decide +kernel
theorem dX6_dotOf_30 : decode cX6_dotOf 30 = .ok (.ldiv, 1) := by decide +kernel
theorem dX6_dotOf_31 : decode cX6_dotOf 31 = .ok (.l2i, 1) := by decide +kernel
theorem dX6_dotOf_32 : decode cX6_dotOf 32 = .ok (.ireturn, 1) := by decide +kernel
theorem dX6_has_0 : decode cX6_has 0 = .ok (.aload_n 0, 1) := by decide +kernel
theorem dX6_has_1 : decode cX6_has 1 = .ok (.getfield 16, 3) := by decide +kernel
theorem dX6_has_4 : decode cX6_has 4 = .ok (.iload_n 1, 1) := by decide +kernel
theorem dX6_has_5 : decode cX6_has 5 = .ok (.iaload, 1) := by decide +kernel
theorem dX6_has_6 : decode cX6_has 6 = .ok (.iconst 2, 1) := by decide +kernel
theorem dX6_has_7 : decode cX6_has 7 = .ok (.if_icmp .ne 27, 3) := by decide +kernel
theorem dX6_has_10 : decode cX6_has 10 = .ok (.iload_n 2, 1) := by decide +kernel
theorem dX6_has_11 : decode cX6_has 11 = .ok (.aload_n 0, 1) := by decide +kernel
theorem dX6_has_12 : decode cX6_has 12 = .ok (.getfield 26, 3) := by decide +kernel
theorem dX6_has_15 : decode cX6_has 15 = .ok (.iload_n 1, 1) := by decide +kernel
theorem dX6_has_16 : decode cX6_has 16 = .ok (.iaload, 1) := by decide +kernel
theorem dX6_has_17 : decode cX6_has 17 = .ok (.if_icmp .le 17, 3) := by decide +kernel
theorem dX6_has_20 : decode cX6_has 20 = .ok (.iload_n 2, 1) := by decide +kernel
theorem dX6_has_21 : decode cX6_has 21 = .ok (.aload_n 0, 1) := by decide +kernel
theorem dX6_has_22 : decode cX6_has 22 = .ok (.getfield 29, 3) := by decide +kernel
theorem dX6_has_25 : decode cX6_has 25 = .ok (.iload_n 1, 1) := by decide +kernel
theorem dX6_has_26 : decode cX6_has 26 = .ok (.iaload, 1) := by decide +kernel
theorem dX6_has_27 : decode cX6_has 27 = .ok (.if_icmp .ge 7, 3) := by decide +kernel
theorem dX6_has_30 : decode cX6_has 30 = .ok (.iconst 1, 1) := by decide +kernel
theorem dX6_has_31 : decode cX6_has 31 = .ok (.goto 4, 3) := by decide +kernel
theorem dX6_has_34 : decode cX6_has 34 = .ok (.iconst 0, 1) := by decide +kernel
theorem dX6_has_35 : decode cX6_has 35 = .ok (.istore_n 3, 1) := by decide +kernel
theorem dX6_has_36 : decode cX6_has 36 = .ok (.iload_n 2, 1) := by decide +kernel
theorem dX6_has_37 : decode cX6_has 37 = .ok (.aload_n 0, 1) := by decide +kernel
theorem dX6_has_38 : decode cX6_has 38 = .ok (.getfield 20, 3) := by decide +kernel
theorem dX6_has_41 : decode cX6_has 41 = .ok (.iload_n 1, 1) := by decide +kernel
theorem dX6_has_42 : decode cX6_has 42 = .ok (.iaload, 1) := by decide +kernel
theorem dX6_has_43 : decode cX6_has 43 = .ok (.if_icmp .lt 21, 3) := by decide +kernel
theorem dX6_has_46 : decode cX6_has 46 = .ok (.iload_n 2, 1) := by decide +kernel
theorem dX6_has_47 : decode cX6_has 47 = .ok (.aload_n 0, 1) := by decide +kernel
theorem dX6_has_48 : decode cX6_has 48 = .ok (.getfield 23, 3) := by decide +kernel
theorem dX6_has_51 : decode cX6_has 51 = .ok (.iload_n 1, 1) := by decide +kernel
theorem dX6_has_52 : decode cX6_has 52 = .ok (.iaload, 1) := by decide +kernel
theorem dX6_has_53 : decode cX6_has 53 = .ok (.if_icmp .gt 11, 3) := by decide +kernel
theorem dX6_has_56 : decode cX6_has 56 = .ok (.iload_n 3, 1) := by decide +kernel
theorem dX6_has_57 : decode cX6_has 57 = .ok (.ifCond .ne 7, 3) := by decide +kernel
theorem dX6_has_60 : decode cX6_has 60 = .ok (.iconst 1, 1) := by decide +kernel
theorem dX6_has_61 : decode cX6_has 61 = .ok (.goto 4, 3) := by decide +kernel
theorem dX6_has_64 : decode cX6_has 64 = .ok (.iconst 0, 1) := by decide +kernel
theorem dX6_has_65 : decode cX6_has 65 = .ok (.ireturn, 1) := by decide +kernel
set_option maxRecDepth 20000 in
theorem ggX6_placeOf_X6_has : GoodIn wsX6_placeOf wsX6_has := goodIn_r _ [8, 2, 9, 3, 1, 10, 30, 31, 32, 33, 34, 35, 36, 37, 38, 39, 40, 41, 42, 43, 44, 45, 46, 47, 48, 49, 50, 51, 52, 53, 54, 55] (by decide +kernel) (by decide +kernel)
set_option maxRecDepth 20000 in
theorem gX6_placeOf_X6_has : GoodIn wsX6_placeOf (wsV RX6 123 RX6 yX6_has wsX6_has) := goodIn_app (goodIn_of _ (by decide +kernel)) ggX6_placeOf_X6_has
set_option maxRecDepth 20000 in
theorem ggX6_placeOf_X6_left : GoodIn wsX6_placeOf wsX6_left := goodIn_r _ [14, 2, 3, 9, 30, 31, 32, 33, 34, 35, 36, 37, 38, 39, 40, 41, 42, 43, 44, 45, 46, 47, 48, 49, 50, 51, 52, 53, 54, 55] (by decide +kernel) (by decide +kernel)
set_option maxRecDepth 20000 in
theorem gX6_placeOf_X6_left : GoodIn wsX6_placeOf (wsV RX6 110 RX6 yX6_left wsX6_left) := goodIn_app (goodIn_of _ (by decide +kernel)) ggX6_placeOf_X6_left
set_option maxRecDepth 20000 in
theorem ggX6_placeOf_X6_dotOf : GoodIn wsX6_placeOf wsX6_dotOf := goodIn_r _ [18, 19, 20, 21, 22, 7, 23, 10, 1, 11, 12, 13, 14, 2, 3, 9, 24, 25, 26, 27, 28, 29, 30, 31, 32, 33, 34, 35, 36, 37, 38, 39, 40, 41, 42, 43, 44, 45, 46, 47, 48, 49, 50, 51, 52, 53, 54, 55] (by decide +kernel) (by decide +kernel)
set_option maxRecDepth 20000 in
theorem gX6_placeOf_X6_dotOf : GoodIn wsX6_placeOf (wsV RX6 127 RX6 yX6_dotOf wsX6_dotOf) := goodIn_app (goodIn_of _ (by decide +kernel)) ggX6_placeOf_X6_dotOf
set_option maxRecDepth 20000 in
theorem ggX6_placeOf_X6_dots : GoodIn wsX6_placeOf wsX6_dots := goodIn_r _ [27, 28, 29, 30, 31, 32, 33, 34, 35, 36, 37, 38, 39, 40, 41, 42, 43, 44, 45, 46, 47, 48, 49, 50, 51, 52, 53, 54, 55] (by decide +kernel) (by decide +kernel)
set_option maxRecDepth 20000 in
theorem gX6_placeOf_X6_dots : GoodIn wsX6_placeOf (wsV RX6 120 RX6 yX6_dots wsX6_dots) := goodIn_app (goodIn_of _ (by decide +kernel)) ggX6_placeOf_X6_dots
theorem dX6_placeOf_0 : decode cX6_placeOf 0 = .ok (.aload_n 0, 1) := by decide +kernel
theorem dX6_placeOf_1 : decode cX6_placeOf 1 = .ok (.iload_n 1, 1) := by decide +kernel
theorem dX6_placeOf_2 : decode cX6_placeOf 2 = .ok (.iload_n 2, 1) := by decide +kernel
theorem dX6_placeOf_3 : decode cX6_placeOf 3 = .ok (.invokevirtual 123, 3) := by decide +kernel
theorem dX6_placeOf_6 : decode cX6_placeOf 6 = .ok (.ifCond .ne 6, 3) := by decide +kernel
theorem dX6_placeOf_9 : decode cX6_placeOf 9 = .ok (.bipush (-9), 2) := by decide +kernel
theorem dX6_placeOf_11 : decode cX6_placeOf 11 = .ok (.ireturn, 1) := by decide +kernel
theorem dX6_placeOf_12 : decode cX6_placeOf 12 = .ok (.iload_n 2, 1) := by decide +kernel
theorem dX6_placeOf_13 : decode cX6_placeOf 13 = .ok (.i2l, 1) := by decide +kernel
theorem dX6_placeOf_14 : decode cX6_placeOf 14 = .ok (.aload_n 0, 1) := by decide +kernel
theorem dX6_placeOf_15 : decode cX6_placeOf 15 = .ok (.getfield 20, 3) := by decide +kernel
theorem dX6_placeOf_18 : decode cX6_placeOf 18 = .ok (.iload_n 1, 1) := by decide +kernel
theorem dX6_placeOf_19 : decode cX6_placeOf 19 = .ok (.iaload, 1) := by decide +kernel
theorem dX6_placeOf_20 : decode cX6_placeOf 20 = .ok (.i2l, 1) := by decide +kernel
theorem dX6_placeOf_21 : decode cX6_placeOf 21 = .ok (.lsub, 1) := by decide +kernel
theorem dX6_placeOf_22 : decode cX6_placeOf 22 = .ok (.aload_n 0, 1) := by decide +kernel
theorem dX6_placeOf_23 : decode cX6_placeOf 23 = .ok (.getfield 16, 3) := by decide +kernel
theorem dX6_placeOf_26 : decode cX6_placeOf 26 = .ok (.iload_n 1, 1) := by decide +kernel
theorem dX6_placeOf_27 : decode cX6_placeOf 27 = .ok (.iaload, 1) := by decide +kernel
theorem dX6_placeOf_28 : decode cX6_placeOf 28 = .ok (.iconst 2, 1) := by decide +kernel
theorem dX6_placeOf_29 : decode cX6_placeOf 29 = .ok (.if_icmp .ne 21, 3) := by decide +kernel
theorem dX6_placeOf_32 : decode cX6_placeOf 32 = .ok (.iload_n 2, 1) := by decide +kernel
theorem dX6_placeOf_33 : decode cX6_placeOf 33 = .ok (.aload_n 0, 1) := by decide +kernel
theorem dX6_placeOf_34 : decode cX6_placeOf 34 = .ok (.getfield 29, 3) := by decide +kernel
theorem dX6_placeOf_37 : decode cX6_placeOf 37 = .ok (.iload_n 1, 1) := by decide +kernel
theorem dX6_placeOf_38 : decode cX6_placeOf 38 = .ok (.iaload, 1) := by decide +kernel
theorem dX6_placeOf_39 : decode cX6_placeOf 39 = .ok (.if_icmp .lt 11, 3) := by decide +kernel
theorem dX6_placeOf_42 : decode cX6_placeOf 42 = .ok (.aload_n 0, 1) := by decide +kernel
theorem dX6_placeOf_43 : decode cX6_placeOf 43 = .ok (.iload_n 1, 1) := by decide +kernel
theorem dX6_placeOf_44 : decode cX6_placeOf 44 = .ok (.invokevirtual 110, 3) := by decide +kernel
theorem dX6_placeOf_47 : decode cX6_placeOf 47 = .ok (.goto 4, 3) := by decide +kernel
theorem dX6_placeOf_50 : decode cX6_placeOf 50 = .ok (.iconst 0, 1) := by decide +kernel
theorem dX6_placeOf_51 : decode cX6_placeOf 51 = .ok (.i2l, 1) := by decide +kernel
theorem dX6_placeOf_52 : decode cX6_placeOf 52 = .ok (.lsub, 1) := by decide +kernel
theorem dX6_placeOf_53 : decode cX6_placeOf 53 = .ok (.lstore_n 3, 1) := by decide +kernel
theorem dX6_placeOf_54 : decode cX6_placeOf 54 = .ok (.aload_n 0, 1) := by decide +kernel
theorem dX6_placeOf_55 : decode cX6_placeOf 55 = .ok (.iload_n 1, 1) := by decide +kernel
theorem dX6_placeOf_56 : decode cX6_placeOf 56 = .ok (.lload_n 3, 1) := by decide +kernel
theorem dX6_placeOf_57 : decode cX6_placeOf 57 = .ok (.invokevirtual 127, 3) := by decide +kernel
theorem dX6_placeOf_60 : decode cX6_placeOf 60 = .ok (.istore 5, 2) := by decide +kernel
theorem dX6_placeOf_62 : decode cX6_placeOf 62 = .ok (.aload_n 0, 1) := by decide +kernel
theorem dX6_placeOf_63 : decode cX6_placeOf 63 = .ok (.getfield 16, 3) := by decide +kernel
theorem dX6_placeOf_66 : decode cX6_placeOf 66 = .ok (.iload_n 1, 1) := by decide +kernel
theorem dX6_placeOf_67 : decode cX6_placeOf 67 = .ok (.iaload, 1) := by decide +kernel
theorem dX6_placeOf_68 : decode cX6_placeOf 68 = .ok (.iconst 1, 1) := by decide +kernel
theorem dX6_placeOf_69 : decode cX6_placeOf 69 = .ok (.if_icmp .ne 16, 3) := by decide +kernel
theorem dX6_placeOf_72 : decode cX6_placeOf 72 = .ok (.aload_n 0, 1) := by decide +kernel
theorem dX6_placeOf_73 : decode cX6_placeOf 73 = .ok (.iload_n 1, 1) := by decide +kernel
theorem dX6_placeOf_74 : decode cX6_placeOf 74 = .ok (.invokevirtual 120, 3) := by decide +kernel
theorem dX6_placeOf_77 : decode cX6_placeOf 77 = .ok (.iconst 1, 1) := by decide +kernel
theorem dX6_placeOf_78 : decode cX6_placeOf 78 = .ok (.isub, 1) := by decide +kernel
theorem dX6_placeOf_79 : decode cX6_placeOf 79 = .ok (.iload 5, 2) := by decide +kernel
theorem dX6_placeOf_81 : decode cX6_placeOf 81 = .ok (.isub, 1) := by decide +kernel
theorem dX6_placeOf_82 : decode cX6_placeOf 82 = .ok (.goto 5, 3) := by decide +kernel
theorem dX6_placeOf_85 : decode cX6_placeOf 85 = .ok (.iload 5, 2) := by decide +kernel
theorem dX6_placeOf_87 : decode cX6_placeOf 87 = .ok (.ireturn, 1) := by decide +kernel
set_option maxRecDepth 20000 in
theorem ggX6_place_X6_isAxis : GoodIn wsX6_place wsX6_isAxis := goodIn_r _ [4, 5, 6, 3, 7] (by decide +kernel) (by decide +kernel)
set_option maxRecDepth 20000 in
theorem gX6_place_X6_isAxis : GoodIn wsX6_place (va_wsS RX6 97 yX6_isAxis wsX6_isAxis) := goodIn_app (goodIn_of _ (by decide +kernel)) ggX6_place_X6_isAxis
set_option maxRecDepth 20000 in
theorem ggX6_place_X6_placeOf : GoodIn wsX6_place wsX6_placeOf := goodIn_r _ [11, 12, 13, 14, 15, 16, 17, 3, 18, 19, 20, 21, 22, 23, 24, 25, 26, 27, 28, 29, 30, 31, 32, 33, 34, 35, 36, 37, 38, 39, 40, 41, 42, 43, 44, 45, 46, 47, 48, 49, 50, 51, 52, 53, 54, 55, 56, 57, 58, 59, 60, 61, 62, 63, 64, 65] (by decide +kernel) (by decide +kernel)
set_option maxRecDepth 20000 in
theorem gX6_place_X6_placeOf : GoodIn wsX6_place (wsV RX6 131 RX6 yX6_placeOf wsX6_placeOf) := goodIn_app (goodIn_of _ (by decide +kernel)) ggX6_place_X6_placeOf
theorem dX6_place_0 : decode cX6_place 0 = .ok (.iload_n 1, 1) := by decide +kernel
theorem dX6_place_1 : decode cX6_place 1 = .ok (.invokestatic 97, 3) := by decide +kernel
theorem dX6_place_4 : decode cX6_place 4 = .ok (.ifCond .eq 12, 3) := by decide +kernel
theorem dX6_place_7 : decode cX6_place 7 = .ok (.aload_n 0, 1) := by decide +kernel
theorem dX6_place_8 : decode cX6_place 8 = .ok (.iload_n 1, 1) := by decide +kernel
theorem dX6_place_9 : decode cX6_place 9 = .ok (.iload_n 2, 1) := by decide +kernel
theorem dX6_place_10 : decode cX6_place 10 = .ok (.invokevirtual 131, 3) := by decide +kernel
theorem dX6_place_13 : decode cX6_place 13 = .ok (.goto 4, 3) := by decide +kernel
theorem dX6_place_16 : decode cX6_place 16 = .ok (.iconst (-1), 1) := by decide +kernel
theorem dX6_place_17 : decode cX6_place 17 = .ok (.ireturn, 1) := by decide +kernel
set_option maxRecDepth 20000 in
theorem ggX6_value_X6_isAxis : GoodIn wsX6_value wsX6_isAxis := goodIn_r _ [9, 10, 11, 8, 12] (by decide +kernel) (by decide +kernel)
set_option maxRecDepth 20000 in
theorem gX6_value_X6_isAxis : GoodIn wsX6_value (va_wsS RX6 97 yX6_isAxis wsX6_isAxis) := goodIn_app (goodIn_of _ (by decide +kernel)) ggX6_value_X6_isAxis
set_option maxRecDepth 20000 in
theorem ggX6_value_X6_dots : GoodIn wsX6_value wsX6_dots := goodIn_r _ [16, 17, 18, 33, 34, 35, 36, 37, 38, 39, 40, 41, 42, 43, 44, 45, 46, 47, 48, 49, 50, 51, 52, 53, 54, 55, 56, 57, 58] (by decide +kernel) (by decide +kernel)
set_option maxRecDepth 20000 in
theorem gX6_value_X6_dots : GoodIn wsX6_value (wsV RX6 120 RX6 yX6_dots wsX6_dots) := goodIn_app (goodIn_of _ (by decide +kernel)) ggX6_value_X6_dots
set_option maxRecDepth 20000 in
theorem ggX6_value_X6_in : GoodIn wsX6_value wsX6_in := goodIn_r _ [12] (by decide +kernel) (by decide +kernel)
set_option maxRecDepth 20000 in
theorem gX6_value_X6_in : GoodIn wsX6_value (va_wsS RX6 86 yX6_in wsX6_in) := goodIn_app (goodIn_of _ (by decide +kernel)) ggX6_value_X6_in
set_option maxRecDepth 20000 in
theorem ggX6_value_X6_span : GoodIn wsX6_value wsX6_span := goodIn_r _ [22, 23, 4, 24, 25, 26, 8, 27, 2, 28, 5, 33, 34, 35, 36, 37, 38, 39, 40, 41, 42, 43, 44, 45, 46, 47, 48, 49, 50, 51, 52, 53, 54, 55, 56, 57, 58] (by decide +kernel) (by decide +kernel)
set_option maxRecDepth 20000 in
theorem gX6_value_X6_span : GoodIn wsX6_value (wsV RX6 114 RX6 yX6_span wsX6_span) := goodIn_app (goodIn_of _ (by decide +kernel)) ggX6_value_X6_span
set_option maxRecDepth 20000 in
theorem ggX6_value_X6_dotOf : GoodIn wsX6_value wsX6_dotOf := goodIn_r _ [32, 3, 19, 20, 21, 8, 22, 23, 4, 24, 25, 26, 27, 2, 28, 5, 13, 14, 15, 16, 17, 18, 33, 34, 35, 36, 37, 38, 39, 40, 41, 42, 43, 44, 45, 46, 47, 48, 49, 50, 51, 52, 53, 54, 55, 56, 57, 58] (by decide +kernel) (by decide +kernel)
set_option maxRecDepth 20000 in
theorem gX6_value_X6_dotOf : GoodIn wsX6_value (wsV RX6 127 RX6 yX6_dotOf wsX6_dotOf) := goodIn_app (goodIn_of _ (by decide +kernel)) ggX6_value_X6_dotOf
set_option maxRecDepth 20000 in
theorem ggX6_value_X6_left : GoodIn wsX6_value wsX6_left := goodIn_r _ [27, 2, 28, 5, 33, 34, 35, 36, 37, 38, 39, 40, 41, 42, 43, 44, 45, 46, 47, 48, 49, 50, 51, 52, 53, 54, 55, 56, 57, 58] (by decide +kernel) (by decide +kernel)
set_option maxRecDepth 20000 in
theorem gX6_value_X6_left : GoodIn wsX6_value (wsV RX6 110 RX6 yX6_left wsX6_left) := goodIn_app (goodIn_of _ (by decide +kernel)) ggX6_value_X6_left
theorem dX6_value_0 : decode cX6_value 0 = .ok (.iload_n 1, 1) := by decide +kernel
theorem dX6_value_1 : decode cX6_value 1 = .ok (.invokestatic 97, 3) := by decide +kernel
theorem dX6_value_4 : decode cX6_value 4 = .ok (.ifCond .eq 18, 3) := by decide +kernel
theorem dX6_value_7 : decode cX6_value 7 = .ok (.iload_n 2, 1) := by decide +kernel
theorem dX6_value_8 : decode cX6_value 8 = .ok (.iconst 0, 1) := by decide +kernel
theorem dX6_value_9 : decode cX6_value 9 = .ok (.aload_n 0, 1) := by decide +kernel
theorem dX6_value_10 : decode cX6_value 10 = .ok (.iload_n 1, 1) := by decide +kernel
theorem dX6_value_11 : decode cX6_value 11 = .ok (.invokevirtual 120, 3) := by decide +kernel
theorem dX6_value_14 : decode cX6_value 14 = .ok (.iconst 1, 1) := by decide +kernel
theorem dX6_value_15 : decode cX6_value 15 = .ok (.isub, 1) := by decide +kernel
theorem dX6_value_16 : decode cX6_value 16 = .ok (.invokestatic 86, 3) := by decide +kernel
theorem dX6_value_19 : decode cX6_value 19 = .ok (.ifCond .ne 6, 3) := by decide +kernel
theorem dX6_value_22 : decode cX6_value 22 = .ok (.ldc 134, 2) := by decide +kernel
theorem dX6_value_24 : decode cX6_value 24 = .ok (.ireturn, 1) := by decide +kernel
theorem dX6_value_25 : decode cX6_value 25 = .ok (.aload_n 0, 1) := by decide +kernel
theorem dX6_value_26 : decode cX6_value 26 = .ok (.getfield 16, 3) := by decide +kernel
theorem dX6_value_29 : decode cX6_value 29 = .ok (.iload_n 1, 1) := by decide +kernel
theorem dX6_value_30 : decode cX6_value 30 = .ok (.iaload, 1) := by decide +kernel
theorem dX6_value_31 : decode cX6_value 31 = .ok (.iconst 1, 1) := by decide +kernel
theorem dX6_value_32 : decode cX6_value 32 = .ok (.if_icmp .ne 15, 3) := by decide +kernel
theorem dX6_value_35 : decode cX6_value 35 = .ok (.aload_n 0, 1) := by decide +kernel
theorem dX6_value_36 : decode cX6_value 36 = .ok (.iload_n 1, 1) := by decide +kernel
theorem dX6_value_37 : decode cX6_value 37 = .ok (.invokevirtual 120, 3) := by decide +kernel
theorem dX6_value_40 : decode cX6_value 40 = .ok (.iconst 1, 1) := by decide +kernel
theorem dX6_value_41 : decode cX6_value 41 = .ok (.isub, 1) := by decide +kernel
theorem dX6_value_42 : decode cX6_value 42 = .ok (.iload_n 2, 1) := by decide +kernel
theorem dX6_value_43 : decode cX6_value 43 = .ok (.isub, 1) := by decide +kernel
theorem dX6_value_44 : decode cX6_value 44 = .ok (.goto 4, 3) := by decide +kernel
theorem dX6_value_47 : decode cX6_value 47 = .ok (.iload_n 2, 1) := by decide +kernel
theorem dX6_value_48 : decode cX6_value 48 = .ok (.istore_n 3, 1) := by decide +kernel
theorem dX6_value_49 : decode cX6_value 49 = .ok (.lconst 0, 1) := by decide +kernel
theorem dX6_value_50 : decode cX6_value 50 = .ok (.lstore 4, 2) := by decide +kernel
theorem dX6_value_52 : decode cX6_value 52 = .ok (.aload_n 0, 1) := by decide +kernel
theorem dX6_value_53 : decode cX6_value 53 = .ok (.iload_n 1, 1) := by decide +kernel
theorem dX6_value_54 : decode cX6_value 54 = .ok (.invokevirtual 114, 3) := by decide +kernel
theorem dX6_value_57 : decode cX6_value 57 = .ok (.lstore 6, 2) := by decide +kernel
theorem dX6_value_59 : decode cX6_value 59 = .ok (.lload 4, 2) := by decide +kernel
theorem dX6_value_61 : decode cX6_value 61 = .ok (.lload 6, 2) := by decide +kernel
theorem dX6_value_63 : decode cX6_value 63 = .ok (.lcmp, 1) := by decide +kernel
theorem dX6_value_64 : decode cX6_value 64 = .ok (.ifCond .ge 41, 3) := by decide +kernel
theorem dX6_value_67 : decode cX6_value 67 = .ok (.lload 4, 2) := by decide +kernel
theorem dX6_value_69 : decode cX6_value 69 = .ok (.lload 6, 2) := by decide +kernel
theorem dX6_value_71 : decode cX6_value 71 = .ok (.ladd, 1) := by decide +kernel
theorem dX6_value_72 : decode cX6_value 72 = .ok (.ldc2_w 118, 3) := by decide +kernel
theorem dX6_value_75 : decode cX6_value 75 = .ok (.ldiv, 1) := by decide +kernel
theorem dX6_value_76 : decode cX6_value 76 = .ok (.lstore 8, 2) := by decide +kernel
theorem dX6_value_78 : decode cX6_value 78 = .ok (.aload_n 0, 1) := by decide +kernel
theorem dX6_value_79 : decode cX6_value 79 = .ok (.iload_n 1, 1) := by decide +kernel
theorem dX6_value_80 : decode cX6_value 80 = .ok (.lload 8, 2) := by decide +kernel
theorem dX6_value_82 : decode cX6_value 82 = .ok (.invokevirtual 127, 3) := by decide +kernel
theorem dX6_value_85 : decode cX6_value 85 = .ok (.iload_n 3, 1) := by decide +kernel
theorem dX6_value_86 : decode cX6_value 86 = .ok (.if_icmp .lt 10, 3) := by decide +kernel
theorem dX6_value_89 : decode cX6_value 89 = .ok (.lload 8, 2) := by decide +kernel
theorem dX6_value_91 : decode cX6_value 91 = .ok (.lstore 6, 2) := by decide +kernel
theorem dX6_value_93 : decode cX6_value 93 = .ok (.goto 9, 3) := by decide +kernel
theorem dX6_value_96 : decode cX6_value 96 = .ok (.lload 8, 2) := by decide +kernel
theorem dX6_value_98 : decode cX6_value 98 = .ok (.lconst 1, 1) := by decide +kernel
theorem dX6_value_99 : decode cX6_value 99 = .ok (.ladd, 1) := by decide +kernel
theorem dX6_value_100 : decode cX6_value 100 = .ok (.lstore 4, 2) := by decide +kernel
theorem dX6_value_102 : decode cX6_value 102 = .ok (.goto (-43), 3) := by decide +kernel
theorem dX6_value_105 : decode cX6_value 105 = .ok (.aload_n 0, 1) := by decide +kernel
theorem dX6_value_106 : decode cX6_value 106 = .ok (.iload_n 1, 1) := by decide +kernel
theorem dX6_value_107 : decode cX6_value 107 = .ok (.lload 4, 2) := by decide +kernel
theorem dX6_value_109 : decode cX6_value 109 = .ok (.invokevirtual 127, 3) := by decide +kernel
theorem dX6_value_112 : decode cX6_value 112 = .ok (.iload_n 3, 1) := by decide +kernel
theorem dX6_value_113 : decode cX6_value 113 = .ok (.if_icmp .eq 6, 3) := by decide +kernel
theorem dX6_value_116 : decode cX6_value 116 = .ok (.ldc 134, 2) := by decide +kernel
theorem dX6_value_118 : decode cX6_value 118 = .ok (.ireturn, 1) := by decide +kernel
theorem dX6_value_119 : decode cX6_value 119 = .ok (.aload_n 0, 1) := by decide +kernel
theorem dX6_value_120 : decode cX6_value 120 = .ok (.getfield 20, 3) := by decide +kernel
theorem dX6_value_123 : decode cX6_value 123 = .ok (.iload_n 1, 1) := by decide +kernel
theorem dX6_value_124 : decode cX6_value 124 = .ok (.iaload, 1) := by decide +kernel
theorem dX6_value_125 : decode cX6_value 125 = .ok (.i2l, 1) := by decide +kernel
theorem dX6_value_126 : decode cX6_value 126 = .ok (.lload 4, 2) := by decide +kernel
theorem dX6_value_128 : decode cX6_value 128 = .ok (.ladd, 1) := by decide +kernel
theorem dX6_value_129 : decode cX6_value 129 = .ok (.lstore 8, 2) := by decide +kernel
theorem dX6_value_131 : decode cX6_value 131 = .ok (.aload_n 0, 1) := by decide +kernel
theorem dX6_value_132 : decode cX6_value 132 = .ok (.getfield 16, 3) := by decide +kernel
theorem dX6_value_135 : decode cX6_value 135 = .ok (.iload_n 1, 1) := by decide +kernel
theorem dX6_value_136 : decode cX6_value 136 = .ok (.iaload, 1) := by decide +kernel
theorem dX6_value_137 : decode cX6_value 137 = .ok (.iconst 2, 1) := by decide +kernel
theorem dX6_value_138 : decode cX6_value 138 = .ok (.if_icmp .ne 28, 3) := by decide +kernel
theorem dX6_value_141 : decode cX6_value 141 = .ok (.lload 8, 2) := by decide +kernel
theorem dX6_value_143 : decode cX6_value 143 = .ok (.aload_n 0, 1) := by decide +kernel
theorem dX6_value_144 : decode cX6_value 144 = .ok (.getfield 26, 3) := by decide +kernel
theorem dX6_value_147 : decode cX6_value 147 = .ok (.iload_n 1, 1) := by decide +kernel
theorem dX6_value_148 : decode cX6_value 148 = .ok (.iaload, 1) := by decide +kernel
theorem dX6_value_149 : decode cX6_value 149 = .ok (.i2l, 1) := by decide +kernel
theorem dX6_value_150 : decode cX6_value 150 = .ok (.lcmp, 1) := by decide +kernel
theorem dX6_value_151 : decode cX6_value 151 = .ok (.ifCond .le 15, 3) := by decide +kernel
theorem dX6_value_154 : decode cX6_value 154 = .ok (.lload 8, 2) := by decide +kernel
theorem dX6_value_156 : decode cX6_value 156 = .ok (.aload_n 0, 1) := by decide +kernel
theorem dX6_value_157 : decode cX6_value 157 = .ok (.iload_n 1, 1) := by decide +kernel
theorem dX6_value_158 : decode cX6_value 158 = .ok (.invokevirtual 110, 3) := by decide +kernel
theorem dX6_value_161 : decode cX6_value 161 = .ok (.i2l, 1) := by decide +kernel
theorem dX6_value_162 : decode cX6_value 162 = .ok (.ladd, 1) := by decide +kernel
theorem dX6_value_163 : decode cX6_value 163 = .ok (.goto 5, 3) := by decide +kernel
theorem dX6_value_166 : decode cX6_value 166 = .ok (.lload 8, 2) := by decide +kernel
theorem dX6_value_168 : decode cX6_value 168 = .ok (.l2i, 1) := by decide +kernel
theorem dX6_value_169 : decode cX6_value 169 = .ok (.ireturn, 1) := by decide +kernel
theorem dX6_floor_0 : decode cX6_floor 0 = .ok (.iload_n 0, 1) := by decide +kernel
theorem dX6_floor_1 : decode cX6_floor 1 = .ok (.ifCond .lt 9, 3) := by decide +kernel
theorem dX6_floor_4 : decode cX6_floor 4 = .ok (.iload_n 0, 1) := by decide +kernel
theorem dX6_floor_5 : decode cX6_floor 5 = .ok (.iload_n 1, 1) := by decide +kernel
theorem dX6_floor_6 : decode cX6_floor 6 = .ok (.idiv, 1) := by decide +kernel
theorem dX6_floor_7 : decode cX6_floor 7 = .ok (.goto 11, 3) := by decide +kernel
theorem dX6_floor_10 : decode cX6_floor 10 = .ok (.iload_n 1, 1) := by decide +kernel
theorem dX6_floor_11 : decode cX6_floor 11 = .ok (.iconst 1, 1) := by decide +kernel
theorem dX6_floor_12 : decode cX6_floor 12 = .ok (.isub, 1) := by decide +kernel
theorem dX6_floor_13 : decode cX6_floor 13 = .ok (.iload_n 0, 1) := by decide +kernel
theorem dX6_floor_14 : decode cX6_floor 14 = .ok (.isub, 1) := by decide +kernel
theorem dX6_floor_15 : decode cX6_floor 15 = .ok (.iload_n 1, 1) := by decide +kernel
theorem dX6_floor_16 : decode cX6_floor 16 = .ok (.idiv, 1) := by decide +kernel
theorem dX6_floor_17 : decode cX6_floor 17 = .ok (.ineg, 1) := by decide +kernel
theorem dX6_floor_18 : decode cX6_floor 18 = .ok (.ireturn, 1) := by decide +kernel
set_option maxRecDepth 20000 in
theorem ggX6_multiples_X6_floor : GoodIn wsX6_multiples wsX6_floor := goodIn_r _ [4] (by decide +kernel) (by decide +kernel)
set_option maxRecDepth 20000 in
theorem gX6_multiples_X6_floor : GoodIn wsX6_multiples (va_wsS RX6 135 yX6_floor wsX6_floor) := goodIn_app (goodIn_of _ (by decide +kernel)) ggX6_multiples_X6_floor
theorem dX6_multiples_0 : decode cX6_multiples 0 = .ok (.iload_n 0, 1) := by decide +kernel
theorem dX6_multiples_1 : decode cX6_multiples 1 = .ok (.iload_n 1, 1) := by decide +kernel
theorem dX6_multiples_2 : decode cX6_multiples 2 = .ok (.if_icmp .le 7, 3) := by decide +kernel
theorem dX6_multiples_5 : decode cX6_multiples 5 = .ok (.iconst 0, 1) := by decide +kernel
theorem dX6_multiples_6 : decode cX6_multiples 6 = .ok (.goto 16, 3) := by decide +kernel
theorem dX6_multiples_9 : decode cX6_multiples 9 = .ok (.iload_n 1, 1) := by decide +kernel
theorem dX6_multiples_10 : decode cX6_multiples 10 = .ok (.iload_n 2, 1) := by decide +kernel
theorem dX6_multiples_11 : decode cX6_multiples 11 = .ok (.invokestatic 135, 3) := by decide +kernel
theorem dX6_multiples_14 : decode cX6_multiples 14 = .ok (.iload_n 0, 1) := by decide +kernel
theorem dX6_multiples_15 : decode cX6_multiples 15 = .ok (.iconst 1, 1) := by decide +kernel
theorem dX6_multiples_16 : decode cX6_multiples 16 = .ok (.isub, 1) := by decide +kernel
theorem dX6_multiples_17 : decode cX6_multiples 17 = .ok (.iload_n 2, 1) := by decide +kernel
theorem dX6_multiples_18 : decode cX6_multiples 18 = .ok (.invokestatic 135, 3) := by decide +kernel
theorem dX6_multiples_21 : decode cX6_multiples 21 = .ok (.isub, 1) := by decide +kernel
theorem dX6_multiples_22 : decode cX6_multiples 22 = .ok (.ireturn, 1) := by decide +kernel
set_option maxRecDepth 20000 in
theorem ggX6_ticks_X6_multiples : GoodIn wsX6_ticks wsX6_multiples := goodIn_r _ [9, 10, 11, 8, 12] (by decide +kernel) (by decide +kernel)
set_option maxRecDepth 20000 in
theorem gX6_ticks_X6_multiples : GoodIn wsX6_ticks (va_wsS RX6 138 yX6_multiples wsX6_multiples) := goodIn_app (goodIn_of _ (by decide +kernel)) ggX6_ticks_X6_multiples
theorem dX6_ticks_0 : decode cX6_ticks 0 = .ok (.aload_n 0, 1) := by decide +kernel
theorem dX6_ticks_1 : decode cX6_ticks 1 = .ok (.getfield 20, 3) := by decide +kernel
theorem dX6_ticks_4 : decode cX6_ticks 4 = .ok (.iload_n 1, 1) := by decide +kernel
theorem dX6_ticks_5 : decode cX6_ticks 5 = .ok (.iaload, 1) := by decide +kernel
theorem dX6_ticks_6 : decode cX6_ticks 6 = .ok (.aload_n 0, 1) := by decide +kernel
theorem dX6_ticks_7 : decode cX6_ticks 7 = .ok (.getfield 23, 3) := by decide +kernel
theorem dX6_ticks_10 : decode cX6_ticks 10 = .ok (.iload_n 1, 1) := by decide +kernel
theorem dX6_ticks_11 : decode cX6_ticks 11 = .ok (.iaload, 1) := by decide +kernel
theorem dX6_ticks_12 : decode cX6_ticks 12 = .ok (.iload_n 2, 1) := by decide +kernel
theorem dX6_ticks_13 : decode cX6_ticks 13 = .ok (.invokestatic 138, 3) := by decide +kernel
theorem dX6_ticks_16 : decode cX6_ticks 16 = .ok (.istore_n 3, 1) := by decide +kernel
theorem dX6_ticks_17 : decode cX6_ticks 17 = .ok (.aload_n 0, 1) := by decide +kernel
theorem dX6_ticks_18 : decode cX6_ticks 18 = .ok (.getfield 16, 3) := by decide +kernel
theorem dX6_ticks_21 : decode cX6_ticks 21 = .ok (.iload_n 1, 1) := by decide +kernel
theorem dX6_ticks_22 : decode cX6_ticks 22 = .ok (.iaload, 1) := by decide +kernel
theorem dX6_ticks_23 : decode cX6_ticks 23 = .ok (.iconst 2, 1) := by decide +kernel
theorem dX6_ticks_24 : decode cX6_ticks 24 = .ok (.if_icmp .ne 28, 3) := by decide +kernel
theorem dX6_ticks_27 : decode cX6_ticks 27 = .ok (.iload_n 3, 1) := by decide +kernel
theorem dX6_ticks_28 : decode cX6_ticks 28 = .ok (.aload_n 0, 1) := by decide +kernel
theorem dX6_ticks_29 : decode cX6_ticks 29 = .ok (.getfield 26, 3) := by decide +kernel
theorem dX6_ticks_32 : decode cX6_ticks 32 = .ok (.iload_n 1, 1) := by decide +kernel
theorem dX6_ticks_33 : decode cX6_ticks 33 = .ok (.iaload, 1) := by decide +kernel
theorem dX6_ticks_34 : decode cX6_ticks 34 = .ok (.iconst 1, 1) := by decide +kernel
theorem dX6_ticks_35 : decode cX6_ticks 35 = .ok (.iadd, 1) := by decide +kernel
theorem dX6_ticks_36 : decode cX6_ticks 36 = .ok (.aload_n 0, 1) := by decide +kernel
theorem dX6_ticks_37 : decode cX6_ticks 37 = .ok (.getfield 29, 3) := by decide +kernel
theorem dX6_ticks_40 : decode cX6_ticks 40 = .ok (.iload_n 1, 1) := by decide +kernel
theorem dX6_ticks_41 : decode cX6_ticks 41 = .ok (.iaload, 1) := by decide +kernel
theorem dX6_ticks_42 : decode cX6_ticks 42 = .ok (.iconst 1, 1) := by decide +kernel
theorem dX6_ticks_43 : decode cX6_ticks 43 = .ok (.isub, 1) := by decide +kernel
theorem dX6_ticks_44 : decode cX6_ticks 44 = .ok (.iload_n 2, 1) := by decide +kernel
theorem dX6_ticks_45 : decode cX6_ticks 45 = .ok (.invokestatic 138, 3) := by decide +kernel
theorem dX6_ticks_48 : decode cX6_ticks 48 = .ok (.isub, 1) := by decide +kernel
theorem dX6_ticks_49 : decode cX6_ticks 49 = .ok (.goto 4, 3) := by decide +kernel
theorem dX6_ticks_52 : decode cX6_ticks 52 = .ok (.iload_n 3, 1) := by decide +kernel
theorem dX6_ticks_53 : decode cX6_ticks 53 = .ok (.ireturn, 1) := by decide +kernel
set_option maxRecDepth 20000 in
theorem ggX6_stepOf_X6_ticks : GoodIn wsX6_stepOf wsX6_ticks := goodIn_r _ [5, 6, 7, 8, 9, 10, 11, 12, 4, 13, 14, 15, 16, 17, 18, 19, 20, 21, 22, 23, 24, 25, 26, 27, 28, 29, 30, 31, 32, 33, 34, 35, 36, 37, 38, 39, 40, 41, 42] (by decide +kernel) (by decide +kernel)
set_option maxRecDepth 20000 in
theorem gX6_stepOf_X6_ticks : GoodIn wsX6_stepOf (wsV RX6 142 RX6 yX6_ticks wsX6_ticks) := goodIn_app (goodIn_of _ (by decide +kernel)) ggX6_stepOf_X6_ticks
theorem dX6_stepOf_0 : decode cX6_stepOf 0 = .ok (.iconst 1, 1) := by decide +kernel
theorem dX6_stepOf_1 : decode cX6_stepOf 1 = .ok (.istore_n 3, 1) := by decide +kernel
theorem dX6_stepOf_2 : decode cX6_stepOf 2 = .ok (.iconst 0, 1) := by decide +kernel
theorem dX6_stepOf_3 : decode cX6_stepOf 3 = .ok (.istore 4, 2) := by decide +kernel
theorem dX6_stepOf_5 : decode cX6_stepOf 5 = .ok (.iload 4, 2) := by decide +kernel
theorem dX6_stepOf_7 : decode cX6_stepOf 7 = .ok (.iconst 4, 1) := by decide +kernel
theorem dX6_stepOf_8 : decode cX6_stepOf 8 = .ok (.if_icmp .ge 74, 3) := by decide +kernel
theorem dX6_stepOf_11 : decode cX6_stepOf 11 = .ok (.iload 4, 2) := by decide +kernel
theorem dX6_stepOf_13 : decode cX6_stepOf 13 = .ok (.ifCond .ne 7, 3) := by decide +kernel
theorem dX6_stepOf_16 : decode cX6_stepOf 16 = .ok (.iload_n 3, 1) := by decide +kernel
theorem dX6_stepOf_17 : decode cX6_stepOf 17 = .ok (.goto 32, 3) := by decide +kernel
theorem dX6_stepOf_20 : decode cX6_stepOf 20 = .ok (.iload 4, 2) := by decide +kernel
theorem dX6_stepOf_22 : decode cX6_stepOf 22 = .ok (.iconst 1, 1) := by decide +kernel
theorem dX6_stepOf_23 : decode cX6_stepOf 23 = .ok (.if_icmp .ne 9, 3) := by decide +kernel
theorem dX6_stepOf_26 : decode cX6_stepOf 26 = .ok (.iconst 2, 1) := by decide +kernel
theorem dX6_stepOf_27 : decode cX6_stepOf 27 = .ok (.iload_n 3, 1) := by decide +kernel
theorem dX6_stepOf_28 : decode cX6_stepOf 28 = .ok (.imul, 1) := by decide +kernel
theorem dX6_stepOf_29 : decode cX6_stepOf 29 = .ok (.goto 20, 3) := by decide +kernel
theorem dX6_stepOf_32 : decode cX6_stepOf 32 = .ok (.iload 4, 2) := by decide +kernel
theorem dX6_stepOf_34 : decode cX6_stepOf 34 = .ok (.iconst 2, 1) := by decide +kernel
theorem dX6_stepOf_35 : decode cX6_stepOf 35 = .ok (.if_icmp .ne 11, 3) := by decide +kernel
theorem dX6_stepOf_38 : decode cX6_stepOf 38 = .ok (.iconst 5, 1) := by decide +kernel
theorem dX6_stepOf_39 : decode cX6_stepOf 39 = .ok (.iload_n 3, 1) := by decide +kernel
theorem dX6_stepOf_40 : decode cX6_stepOf 40 = .ok (.imul, 1) := by decide +kernel
theorem dX6_stepOf_41 : decode cX6_stepOf 41 = .ok (.iconst 2, 1) := by decide +kernel
theorem dX6_stepOf_42 : decode cX6_stepOf 42 = .ok (.idiv, 1) := by decide +kernel
theorem dX6_stepOf_43 : decode cX6_stepOf 43 = .ok (.goto 6, 3) := by decide +kernel
theorem dX6_stepOf_46 : decode cX6_stepOf 46 = .ok (.iconst 5, 1) := by decide +kernel
theorem dX6_stepOf_47 : decode cX6_stepOf 47 = .ok (.iload_n 3, 1) := by decide +kernel
theorem dX6_stepOf_48 : decode cX6_stepOf 48 = .ok (.imul, 1) := by decide +kernel
theorem dX6_stepOf_49 : decode cX6_stepOf 49 = .ok (.istore 5, 2) := by decide +kernel
theorem dX6_stepOf_51 : decode cX6_stepOf 51 = .ok (.iload 4, 2) := by decide +kernel
theorem dX6_stepOf_53 : decode cX6_stepOf 53 = .ok (.iconst 2, 1) := by decide +kernel
theorem dX6_stepOf_54 : decode cX6_stepOf 54 = .ok (.if_icmp .ne 8, 3) := by decide +kernel
theorem dX6_stepOf_57 : decode cX6_stepOf 57 = .ok (.iload_n 3, 1) := by decide +kernel
theorem dX6_stepOf_58 : decode cX6_stepOf 58 = .ok (.iconst 1, 1) := by decide +kernel
theorem dX6_stepOf_59 : decode cX6_stepOf 59 = .ok (.if_icmp .le 17, 3) := by decide +kernel
theorem dX6_stepOf_62 : decode cX6_stepOf 62 = .ok (.aload_n 0, 1) := by decide +kernel
theorem dX6_stepOf_63 : decode cX6_stepOf 63 = .ok (.iload_n 1, 1) := by decide +kernel
theorem dX6_stepOf_64 : decode cX6_stepOf 64 = .ok (.iload 5, 2) := by decide +kernel
theorem dX6_stepOf_66 : decode cX6_stepOf 66 = .ok (.invokevirtual 142, 3) := by decide +kernel
theorem dX6_stepOf_69 : decode cX6_stepOf 69 = .ok (.iload_n 2, 1) := by decide +kernel
theorem dX6_stepOf_70 : decode cX6_stepOf 70 = .ok (.if_icmp .gt 6, 3) := by decide +kernel
theorem dX6_stepOf_73 : decode cX6_stepOf 73 = .ok (.iload 5, 2) := by decide +kernel
theorem dX6_stepOf_75 : decode cX6_stepOf 75 = .ok (.ireturn, 1) := by decide +kernel
theorem dX6_stepOf_76 : decode cX6_stepOf 76 = .ok (.iinc 4 1, 3) := by decide +kernel
theorem dX6_stepOf_79 : decode cX6_stepOf 79 = .ok (.goto (-74), 3) := by decide +kernel
theorem dX6_stepOf_82 : decode cX6_stepOf 82 = .ok (.iload_n 3, 1) := by decide +kernel
theorem dX6_stepOf_83 : decode cX6_stepOf 83 = .ok (.bipush 10, 2) := by decide +kernel
theorem dX6_stepOf_85 : decode cX6_stepOf 85 = .ok (.imul, 1) := by decide +kernel
theorem dX6_stepOf_86 : decode cX6_stepOf 86 = .ok (.istore_n 3, 1) := by decide +kernel
theorem dX6_stepOf_87 : decode cX6_stepOf 87 = .ok (.goto (-85), 3) := by decide +kernel
set_option maxRecDepth 20000 in
theorem ggX6_step_X6_isAxis : GoodIn wsX6_step wsX6_isAxis := goodIn_r _ [4, 5, 6, 3, 7] (by decide +kernel) (by decide +kernel)
set_option maxRecDepth 20000 in
theorem gX6_step_X6_isAxis : GoodIn wsX6_step (va_wsS RX6 97 yX6_isAxis wsX6_isAxis) := goodIn_app (goodIn_of _ (by decide +kernel)) ggX6_step_X6_isAxis
set_option maxRecDepth 20000 in
theorem ggX6_step_X6_in : GoodIn wsX6_step wsX6_in := goodIn_r _ [7] (by decide +kernel) (by decide +kernel)
set_option maxRecDepth 20000 in
theorem gX6_step_X6_in : GoodIn wsX6_step (va_wsS RX6 86 yX6_in wsX6_in) := goodIn_app (goodIn_of _ (by decide +kernel)) ggX6_step_X6_in
set_option maxRecDepth 20000 in
theorem ggX6_step_X6_stepOf : GoodIn wsX6_step wsX6_stepOf := goodIn_r _ [11, 12, 13, 14, 3, 15, 16, 17, 18, 19, 20, 21, 22, 23, 24, 25, 26, 27, 28, 29, 30, 31, 32, 33, 34, 35, 36, 37, 38, 39, 40, 41, 42, 43, 44, 45, 46, 47, 48, 49, 50, 51, 52] (by decide +kernel) (by decide +kernel)
set_option maxRecDepth 20000 in
theorem gX6_step_X6_stepOf : GoodIn wsX6_step (wsV RX6 145 RX6 yX6_stepOf wsX6_stepOf) := goodIn_app (goodIn_of _ (by decide +kernel)) ggX6_step_X6_stepOf
theorem dX6_step_0 : decode cX6_step 0 = .ok (.iload_n 1, 1) := by decide +kernel
theorem dX6_step_1 : decode cX6_step 1 = .ok (.invokestatic 97, 3) := by decide +kernel
theorem dX6_step_4 : decode cX6_step 4 = .ok (.ifCond .eq 22, 3) := by decide +kernel
theorem dX6_step_7 : decode cX6_step 7 = .ok (.iload_n 2, 1) := by decide +kernel
theorem dX6_step_8 : decode cX6_step 8 = .ok (.iconst 2, 1) := by decide +kernel
theorem dX6_step_9 : decode cX6_step 9 = .ok (.bipush 20, 2) := by decide +kernel
theorem dX6_step_11 : decode cX6_step 11 = .ok (.invokestatic 86, 3) := by decide +kernel
theorem dX6_step_14 : decode cX6_step 14 = .ok (.ifCond .eq 12, 3) := by decide +kernel
theorem dX6_step_17 : decode cX6_step 17 = .ok (.aload_n 0, 1) := by decide +kernel
theorem dX6_step_18 : decode cX6_step 18 = .ok (.iload_n 1, 1) := by decide +kernel
theorem dX6_step_19 : decode cX6_step 19 = .ok (.iload_n 2, 1) := by decide +kernel
theorem dX6_step_20 : decode cX6_step 20 = .ok (.invokevirtual 145, 3) := by decide +kernel
theorem dX6_step_23 : decode cX6_step 23 = .ok (.goto 4, 3) := by decide +kernel
theorem dX6_step_26 : decode cX6_step 26 = .ok (.iconst (-1), 1) := by decide +kernel
theorem dX6_step_27 : decode cX6_step 27 = .ok (.ireturn, 1) := by decide +kernel
set_option maxRecDepth 20000 in
theorem ggX6_tick_X6_isAxis : GoodIn wsX6_tick wsX6_isAxis := goodIn_r _ [7, 8, 9, 6, 10] (by decide +kernel) (by decide +kernel)
set_option maxRecDepth 20000 in
theorem gX6_tick_X6_isAxis : GoodIn wsX6_tick (va_wsS RX6 97 yX6_isAxis wsX6_isAxis) := goodIn_app (goodIn_of _ (by decide +kernel)) ggX6_tick_X6_isAxis
set_option maxRecDepth 20000 in
theorem ggX6_tick_X6_in : GoodIn wsX6_tick wsX6_in := goodIn_r _ [10] (by decide +kernel) (by decide +kernel)
set_option maxRecDepth 20000 in
theorem gX6_tick_X6_in : GoodIn wsX6_tick (va_wsS RX6 86 yX6_in wsX6_in) := goodIn_app (goodIn_of _ (by decide +kernel)) ggX6_tick_X6_in
set_option maxRecDepth 20000 in
theorem ggX6_tick_X6_stepOf : GoodIn wsX6_tick wsX6_stepOf := goodIn_r _ [14, 15, 16, 17, 6, 18, 2, 3, 19, 20, 21, 22, 23, 24, 25, 26, 27, 32, 33, 34, 35, 36, 37, 38, 39, 40, 41, 42, 43, 44, 45, 46, 47, 48, 49, 50, 51, 52, 53, 54, 55, 56, 57] (by decide +kernel) (by decide +kernel)
set_option maxRecDepth 20000 in
theorem gX6_tick_X6_stepOf : GoodIn wsX6_tick (wsV RX6 145 RX6 yX6_stepOf wsX6_stepOf) := goodIn_app (goodIn_of _ (by decide +kernel)) ggX6_tick_X6_stepOf
set_option maxRecDepth 20000 in
theorem ggX6_tick_X6_floor : GoodIn wsX6_tick wsX6_floor := goodIn_r _ [27] (by decide +kernel) (by decide +kernel)
set_option maxRecDepth 20000 in
theorem gX6_tick_X6_floor : GoodIn wsX6_tick (va_wsS RX6 135 yX6_floor wsX6_floor) := goodIn_app (goodIn_of _ (by decide +kernel)) ggX6_tick_X6_floor
set_option maxRecDepth 20000 in
theorem ggX6_tick_X6_has : GoodIn wsX6_tick wsX6_has := goodIn_r _ [31, 19, 20, 21, 2, 3, 32, 33, 34, 35, 36, 37, 38, 39, 40, 41, 42, 43, 44, 45, 46, 47, 48, 49, 50, 51, 52, 53, 54, 55, 56, 57] (by decide +kernel) (by decide +kernel)
set_option maxRecDepth 20000 in
theorem gX6_tick_X6_has : GoodIn wsX6_tick (wsV RX6 123 RX6 yX6_has wsX6_has) := goodIn_app (goodIn_of _ (by decide +kernel)) ggX6_tick_X6_has
theorem dX6_tick_0 : decode cX6_tick 0 = .ok (.iload_n 1, 1) := by decide +kernel
theorem dX6_tick_1 : decode cX6_tick 1 = .ok (.invokestatic 97, 3) := by decide +kernel
theorem dX6_tick_4 : decode cX6_tick 4 = .ok (.ifCond .eq 17, 3) := by decide +kernel
theorem dX6_tick_7 : decode cX6_tick 7 = .ok (.iload_n 2, 1) := by decide +kernel
theorem dX6_tick_8 : decode cX6_tick 8 = .ok (.iconst 2, 1) := by decide +kernel
theorem dX6_tick_9 : decode cX6_tick 9 = .ok (.bipush 20, 2) := by decide +kernel
theorem dX6_tick_11 : decode cX6_tick 11 = .ok (.invokestatic 86, 3) := by decide +kernel
theorem dX6_tick_14 : decode cX6_tick 14 = .ok (.ifCond .eq 7, 3) := by decide +kernel
theorem dX6_tick_17 : decode cX6_tick 17 = .ok (.iload_n 3, 1) := by decide +kernel
theorem dX6_tick_18 : decode cX6_tick 18 = .ok (.ifCond .ge 6, 3) := by decide +kernel
theorem dX6_tick_21 : decode cX6_tick 21 = .ok (.ldc 134, 2) := by decide +kernel
theorem dX6_tick_23 : decode cX6_tick 23 = .ok (.ireturn, 1) := by decide +kernel
theorem dX6_tick_24 : decode cX6_tick 24 = .ok (.aload_n 0, 1) := by decide +kernel
theorem dX6_tick_25 : decode cX6_tick 25 = .ok (.iload_n 1, 1) := by decide +kernel
theorem dX6_tick_26 : decode cX6_tick 26 = .ok (.iload_n 2, 1) := by decide +kernel
theorem dX6_tick_27 : decode cX6_tick 27 = .ok (.invokevirtual 145, 3) := by decide +kernel
theorem dX6_tick_30 : decode cX6_tick 30 = .ok (.istore 4, 2) := by decide +kernel
theorem dX6_tick_32 : decode cX6_tick 32 = .ok (.iload_n 3, 1) := by decide +kernel
theorem dX6_tick_33 : decode cX6_tick 33 = .ok (.istore 5, 2) := by decide +kernel
theorem dX6_tick_35 : decode cX6_tick 35 = .ok (.aload_n 0, 1) := by decide +kernel
theorem dX6_tick_36 : decode cX6_tick 36 = .ok (.getfield 20, 3) := by decide +kernel
theorem dX6_tick_39 : decode cX6_tick 39 = .ok (.iload_n 1, 1) := by decide +kernel
theorem dX6_tick_40 : decode cX6_tick 40 = .ok (.iaload, 1) := by decide +kernel
theorem dX6_tick_41 : decode cX6_tick 41 = .ok (.ineg, 1) := by decide +kernel
theorem dX6_tick_42 : decode cX6_tick 42 = .ok (.iload 4, 2) := by decide +kernel
theorem dX6_tick_44 : decode cX6_tick 44 = .ok (.invokestatic 135, 3) := by decide +kernel
theorem dX6_tick_47 : decode cX6_tick 47 = .ok (.ineg, 1) := by decide +kernel
theorem dX6_tick_48 : decode cX6_tick 48 = .ok (.iload 4, 2) := by decide +kernel
theorem dX6_tick_50 : decode cX6_tick 50 = .ok (.imul, 1) := by decide +kernel
theorem dX6_tick_51 : decode cX6_tick 51 = .ok (.istore 6, 2) := by decide +kernel
theorem dX6_tick_53 : decode cX6_tick 53 = .ok (.iload 6, 2) := by decide +kernel
theorem dX6_tick_55 : decode cX6_tick 55 = .ok (.aload_n 0, 1) := by decide +kernel
theorem dX6_tick_56 : decode cX6_tick 56 = .ok (.getfield 23, 3) := by decide +kernel
theorem dX6_tick_59 : decode cX6_tick 59 = .ok (.iload_n 1, 1) := by decide +kernel
theorem dX6_tick_60 : decode cX6_tick 60 = .ok (.iaload, 1) := by decide +kernel
theorem dX6_tick_61 : decode cX6_tick 61 = .ok (.if_icmp .gt 34, 3) := by decide +kernel
theorem dX6_tick_64 : decode cX6_tick 64 = .ok (.aload_n 0, 1) := by decide +kernel
theorem dX6_tick_65 : decode cX6_tick 65 = .ok (.iload_n 1, 1) := by decide +kernel
theorem dX6_tick_66 : decode cX6_tick 66 = .ok (.iload 6, 2) := by decide +kernel
theorem dX6_tick_68 : decode cX6_tick 68 = .ok (.invokevirtual 123, 3) := by decide +kernel
theorem dX6_tick_71 : decode cX6_tick 71 = .ok (.ifCond .eq 14, 3) := by decide +kernel
theorem dX6_tick_74 : decode cX6_tick 74 = .ok (.iload 5, 2) := by decide +kernel
theorem dX6_tick_76 : decode cX6_tick 76 = .ok (.ifCond .ne 6, 3) := by decide +kernel
theorem dX6_tick_79 : decode cX6_tick 79 = .ok (.iload 6, 2) := by decide +kernel
theorem dX6_tick_81 : decode cX6_tick 81 = .ok (.ireturn, 1) := by decide +kernel
theorem dX6_tick_82 : decode cX6_tick 82 = .ok (.iinc 5 (-1), 3) := by decide +kernel
theorem dX6_tick_85 : decode cX6_tick 85 = .ok (.iload 6, 2) := by decide +kernel
theorem dX6_tick_87 : decode cX6_tick 87 = .ok (.iload 4, 2) := by decide +kernel
theorem dX6_tick_89 : decode cX6_tick 89 = .ok (.iadd, 1) := by decide +kernel
theorem dX6_tick_90 : decode cX6_tick 90 = .ok (.istore 6, 2) := by decide +kernel
theorem dX6_tick_92 : decode cX6_tick 92 = .ok (.goto (-39), 3) := by decide +kernel
theorem dX6_tick_95 : decode cX6_tick 95 = .ok (.ldc 134, 2) := by decide +kernel
theorem dX6_tick_97 : decode cX6_tick 97 = .ok (.ireturn, 1) := by decide +kernel
set_option maxRecDepth 20000 in
theorem ggX6_isSeries_X6_in : GoodIn wsX6_isSeries wsX6_in := goodIn_r _ [5] (by decide +kernel) (by decide +kernel)
set_option maxRecDepth 20000 in
theorem gX6_isSeries_X6_in : GoodIn wsX6_isSeries (va_wsS RX6 86 yX6_in wsX6_in) := goodIn_app (goodIn_of _ (by decide +kernel)) ggX6_isSeries_X6_in
theorem dX6_isSeries_0 : decode cX6_isSeries 0 = .ok (.iload_n 1, 1) := by decide +kernel
theorem dX6_isSeries_1 : decode cX6_isSeries 1 = .ok (.iconst 0, 1) := by decide +kernel
theorem dX6_isSeries_2 : decode cX6_isSeries 2 = .ok (.aload_n 0, 1) := by decide +kernel
theorem dX6_isSeries_3 : decode cX6_isSeries 3 = .ok (.getfield 81, 3) := by decide +kernel
theorem dX6_isSeries_6 : decode cX6_isSeries 6 = .ok (.iconst 1, 1) := by decide +kernel
theorem dX6_isSeries_7 : decode cX6_isSeries 7 = .ok (.isub, 1) := by decide +kernel
theorem dX6_isSeries_8 : decode cX6_isSeries 8 = .ok (.invokestatic 86, 3) := by decide +kernel
