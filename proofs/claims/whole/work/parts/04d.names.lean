theorem dX5_canvas_21 : decode cX5_canvas 21 = .ok (.ireturn, 1) := by decide +kernel
theorem dX5_canvas_22 : decode cX5_canvas 22 = .ok (.aload_n 0, 1) := by decide +kernel
theorem dX5_canvas_23 : decode cX5_canvas 23 = .ok (.getfield 12, 3) := by decide +kernel
theorem dX5_canvas_26 : decode cX5_canvas 26 = .ok (.iload_n 1, 1) := by decide +kernel
theorem dX5_canvas_27 : decode cX5_canvas 27 = .ok (.iload_n 2, 1) := by decide +kernel
theorem dX5_canvas_28 : decode cX5_canvas 28 = .ok (.invokevirtual 34, 3) := by decide +kernel
theorem dX5_canvas_31 : decode cX5_canvas 31 = .ok (.aload_n 0, 1) := by decide +kernel
theorem dX5_canvas_32 : decode cX5_canvas 32 = .ok (.getfield 26, 3) := by decide +kernel
theorem dX5_canvas_35 : decode cX5_canvas 35 = .ok (.iconst 0, 1) := by decide +kernel
theorem dX5_canvas_36 : decode cX5_canvas 36 = .ok (.putfield 38, 3) := by decide +kernel
theorem dX5_canvas_39 : decode cX5_canvas 39 = .ok (.aload_n 0, 1) := by decide +kernel
theorem dX5_canvas_40 : decode cX5_canvas 40 = .ok (.invokevirtual 42, 3) := by decide +kernel
theorem dX5_canvas_43 : decode cX5_canvas 43 = .ok (.iconst 1, 1) := by decide +kernel
theorem dX5_canvas_44 : decode cX5_canvas 44 = .ok (.ireturn, 1) := by decide +kernel
set_option maxRecDepth 20000 in
theorem ggX5_scale_X1_scaleOf : GoodIn wsX5_scale wsX1_scaleOf := goodIn_r _ [9, 10, 11, 63, 64, 65, 66] (by decide +kernel) (by decide +kernel)
set_option maxRecDepth 20000 in
theorem gX5_scale_X1_scaleOf : GoodIn wsX5_scale (wsV RX5 45 RX1 yX1_scaleOf wsX1_scaleOf) := goodIn_app (goodIn_of _ (by decide +kernel)) ggX5_scale_X1_scaleOf
set_option maxRecDepth 20000 in
theorem ggX5_scale_X5_within : GoodIn wsX5_scale wsX5_within := goodIn_r _ [15] (by decide +kernel) (by decide +kernel)
set_option maxRecDepth 20000 in
theorem gX5_scale_X5_within : GoodIn wsX5_scale (va_wsS RX5 30 yX5_within wsX5_within) := goodIn_app (goodIn_of _ (by decide +kernel)) ggX5_scale_X5_within
set_option maxRecDepth 20000 in
theorem ggX5_scale_X2_spread : GoodIn wsX5_scale wsX2_spread := goodIn_r _ [20, 21, 22, 23, 57, 58, 59, 60, 61, 62] (by decide +kernel) (by decide +kernel)
set_option maxRecDepth 20000 in
theorem gX5_scale_X2_spread : GoodIn wsX5_scale (wsV RX5 56 RX2 yX2_spread wsX2_spread) := goodIn_app (goodIn_of _ (by decide +kernel)) ggX5_scale_X2_spread
set_option maxRecDepth 20000 in
theorem ggX5_scale_X5_markAllStale : GoodIn wsX5_scale wsX5_markAllStale := goodIn_r _ [27, 28, 29, 30, 31, 32, 33, 34, 35, 36, 37, 38, 39, 40, 41, 42, 43, 44, 45, 46, 47, 48, 49, 50, 51, 52, 53, 54, 55, 56, 67, 68, 69, 70, 71, 72, 73, 74, 75, 76, 77, 78, 79, 80] (by decide +kernel) (by decide +kernel)
set_option maxRecDepth 20000 in
theorem gX5_scale_X5_markAllStale : GoodIn wsX5_scale (wsV RX5 42 RX5 yX5_markAllStale wsX5_markAllStale) := goodIn_app (goodIn_of _ (by decide +kernel)) ggX5_scale_X5_markAllStale
theorem dX5_scale_0 : decode cX5_scale 0 = .ok (.aload_n 0, 1) := by decide +kernel
theorem dX5_scale_1 : decode cX5_scale 1 = .ok (.getfield 12, 3) := by decide +kernel
theorem dX5_scale_4 : decode cX5_scale 4 = .ok (.iload_n 1, 1) := by decide +kernel
theorem dX5_scale_5 : decode cX5_scale 5 = .ok (.invokevirtual 45, 3) := by decide +kernel
theorem dX5_scale_8 : decode cX5_scale 8 = .ok (.astore 5, 2) := by decide +kernel
theorem dX5_scale_10 : decode cX5_scale 10 = .ok (.aload 5, 2) := by decide +kernel
theorem dX5_scale_12 : decode cX5_scale 12 = .ok (.ifnull 12, 3) := by decide +kernel
theorem dX5_scale_15 : decode cX5_scale 15 = .ok (.iload_n 2, 1) := by decide +kernel
theorem dX5_scale_16 : decode cX5_scale 16 = .ok (.iconst 0, 1) := by decide +kernel
theorem dX5_scale_17 : decode cX5_scale 17 = .ok (.iconst 1, 1) := by decide +kernel
theorem dX5_scale_18 : decode cX5_scale 18 = .ok (.invokestatic 30, 3) := by decide +kernel
theorem dX5_scale_21 : decode cX5_scale 21 = .ok (.ifCond .ne 5, 3) := by decide +kernel
theorem dX5_scale_24 : decode cX5_scale 24 = .ok (.iconst (-1), 1) := by decide +kernel
theorem dX5_scale_25 : decode cX5_scale 25 = .ok (.ireturn, 1) := by decide +kernel
theorem dX5_scale_26 : decode cX5_scale 26 = .ok (.iload_n 3, 1) := by decide +kernel
theorem dX5_scale_27 : decode cX5_scale 27 = .ok (.ldc 49, 2) := by decide +kernel
theorem dX5_scale_29 : decode cX5_scale 29 = .ok (.ldc 50, 2) := by decide +kernel
theorem dX5_scale_31 : decode cX5_scale 31 = .ok (.invokestatic 30, 3) := by decide +kernel
theorem dX5_scale_34 : decode cX5_scale 34 = .ok (.ifCond .eq 21, 3) := by decide +kernel
theorem dX5_scale_37 : decode cX5_scale 37 = .ok (.iload 4, 2) := by decide +kernel
theorem dX5_scale_39 : decode cX5_scale 39 = .ok (.ldc 49, 2) := by decide +kernel
theorem dX5_scale_41 : decode cX5_scale 41 = .ok (.ldc 50, 2) := by decide +kernel
theorem dX5_scale_43 : decode cX5_scale 43 = .ok (.invokestatic 30, 3) := by decide +kernel
theorem dX5_scale_46 : decode cX5_scale 46 = .ok (.ifCond .eq 9, 3) := by decide +kernel
theorem dX5_scale_49 : decode cX5_scale 49 = .ok (.iload_n 3, 1) := by decide +kernel
theorem dX5_scale_50 : decode cX5_scale 50 = .ok (.iload 4, 2) := by decide +kernel
theorem dX5_scale_52 : decode cX5_scale 52 = .ok (.if_icmp .lt 5, 3) := by decide +kernel
theorem dX5_scale_55 : decode cX5_scale 55 = .ok (.iconst (-1), 1) := by decide +kernel
theorem dX5_scale_56 : decode cX5_scale 56 = .ok (.ireturn, 1) := by decide +kernel
theorem dX5_scale_57 : decode cX5_scale 57 = .ok (.aload 5, 2) := by decide +kernel
theorem dX5_scale_59 : decode cX5_scale 59 = .ok (.getfield 51, 3) := by decide +kernel
theorem dX5_scale_62 : decode cX5_scale 62 = .ok (.istore 6, 2) := by decide +kernel
theorem dX5_scale_64 : decode cX5_scale 64 = .ok (.aload 5, 2) := by decide +kernel
theorem dX5_scale_66 : decode cX5_scale 66 = .ok (.iload_n 2, 1) := by decide +kernel
theorem dX5_scale_67 : decode cX5_scale 67 = .ok (.iload_n 3, 1) := by decide +kernel
theorem dX5_scale_68 : decode cX5_scale 68 = .ok (.iload 4, 2) := by decide +kernel
theorem dX5_scale_70 : decode cX5_scale 70 = .ok (.invokevirtual 56, 3) := by decide +kernel
theorem dX5_scale_73 : decode cX5_scale 73 = .ok (.aload_n 0, 1) := by decide +kernel
theorem dX5_scale_74 : decode cX5_scale 74 = .ok (.invokevirtual 42, 3) := by decide +kernel
theorem dX5_scale_77 : decode cX5_scale 77 = .ok (.iload 6, 2) := by decide +kernel
theorem dX5_scale_79 : decode cX5_scale 79 = .ok (.ireturn, 1) := by decide +kernel
set_option maxRecDepth 20000 in
theorem ggX5_cut_X1_scaleOf : GoodIn wsX5_cut wsX1_scaleOf := goodIn_r _ [9, 10, 11, 60, 61, 62, 63] (by decide +kernel) (by decide +kernel)
set_option maxRecDepth 20000 in
theorem gX5_cut_X1_scaleOf : GoodIn wsX5_cut (wsV RX5 45 RX1 yX1_scaleOf wsX1_scaleOf) := goodIn_app (goodIn_of _ (by decide +kernel)) ggX5_cut_X1_scaleOf
set_option maxRecDepth 20000 in
theorem ggX5_cut_X2_leaveOut : GoodIn wsX5_cut wsX2_leaveOut := goodIn_r _ [16, 17, 18, 19, 54, 55, 56, 57, 58, 59] (by decide +kernel) (by decide +kernel)
set_option maxRecDepth 20000 in
theorem gX5_cut_X2_leaveOut : GoodIn wsX5_cut (wsV RX5 66 RX2 yX2_leaveOut wsX2_leaveOut) := goodIn_app (goodIn_of _ (by decide +kernel)) ggX5_cut_X2_leaveOut
set_option maxRecDepth 20000 in
theorem ggX5_cut_X5_markAllStale : GoodIn wsX5_cut wsX5_markAllStale := goodIn_r _ [24, 25, 26, 27, 28, 29, 30, 31, 32, 33, 34, 35, 36, 37, 38, 39, 40, 41, 42, 43, 44, 45, 46, 47, 48, 49, 50, 51, 52, 53, 64, 65, 66, 67, 68, 69, 70, 71, 72, 73, 74, 75, 76, 77] (by decide +kernel) (by decide +kernel)
set_option maxRecDepth 20000 in
theorem gX5_cut_X5_markAllStale : GoodIn wsX5_cut (wsV RX5 42 RX5 yX5_markAllStale wsX5_markAllStale) := goodIn_app (goodIn_of _ (by decide +kernel)) ggX5_cut_X5_markAllStale
theorem dX5_cut_0 : decode cX5_cut 0 = .ok (.aload_n 0, 1) := by decide +kernel
theorem dX5_cut_1 : decode cX5_cut 1 = .ok (.getfield 12, 3) := by decide +kernel
theorem dX5_cut_4 : decode cX5_cut 4 = .ok (.iload_n 1, 1) := by decide +kernel
theorem dX5_cut_5 : decode cX5_cut 5 = .ok (.invokevirtual 45, 3) := by decide +kernel
theorem dX5_cut_8 : decode cX5_cut 8 = .ok (.astore 4, 2) := by decide +kernel
theorem dX5_cut_10 : decode cX5_cut 10 = .ok (.aload 4, 2) := by decide +kernel
theorem dX5_cut_12 : decode cX5_cut 12 = .ok (.ifnull 26, 3) := by decide +kernel
theorem dX5_cut_15 : decode cX5_cut 15 = .ok (.aload 4, 2) := by decide +kernel
theorem dX5_cut_17 : decode cX5_cut 17 = .ok (.getfield 60, 3) := by decide +kernel
theorem dX5_cut_20 : decode cX5_cut 20 = .ok (.iload_n 2, 1) := by decide +kernel
theorem dX5_cut_21 : decode cX5_cut 21 = .ok (.if_icmp .ge 17, 3) := by decide +kernel
theorem dX5_cut_24 : decode cX5_cut 24 = .ok (.iload_n 2, 1) := by decide +kernel
theorem dX5_cut_25 : decode cX5_cut 25 = .ok (.iload_n 3, 1) := by decide +kernel
theorem dX5_cut_26 : decode cX5_cut 26 = .ok (.if_icmp .ge 12, 3) := by decide +kernel
theorem dX5_cut_29 : decode cX5_cut 29 = .ok (.iload_n 3, 1) := by decide +kernel
theorem dX5_cut_30 : decode cX5_cut 30 = .ok (.aload 4, 2) := by decide +kernel
theorem dX5_cut_32 : decode cX5_cut 32 = .ok (.getfield 63, 3) := by decide +kernel
theorem dX5_cut_35 : decode cX5_cut 35 = .ok (.if_icmp .lt 5, 3) := by decide +kernel
theorem dX5_cut_38 : decode cX5_cut 38 = .ok (.iconst (-1), 1) := by decide +kernel
theorem dX5_cut_39 : decode cX5_cut 39 = .ok (.ireturn, 1) := by decide +kernel
theorem dX5_cut_40 : decode cX5_cut 40 = .ok (.aload 4, 2) := by decide +kernel
theorem dX5_cut_42 : decode cX5_cut 42 = .ok (.getfield 51, 3) := by decide +kernel
theorem dX5_cut_45 : decode cX5_cut 45 = .ok (.istore 5, 2) := by decide +kernel
theorem dX5_cut_47 : decode cX5_cut 47 = .ok (.aload 4, 2) := by decide +kernel
theorem dX5_cut_49 : decode cX5_cut 49 = .ok (.iload_n 2, 1) := by decide +kernel
theorem dX5_cut_50 : decode cX5_cut 50 = .ok (.iload_n 3, 1) := by decide +kernel
theorem dX5_cut_51 : decode cX5_cut 51 = .ok (.invokevirtual 66, 3) := by decide +kernel
theorem dX5_cut_54 : decode cX5_cut 54 = .ok (.aload_n 0, 1) := by decide +kernel
theorem dX5_cut_55 : decode cX5_cut 55 = .ok (.invokevirtual 42, 3) := by decide +kernel
theorem dX5_cut_58 : decode cX5_cut 58 = .ok (.iload 5, 2) := by decide +kernel
theorem dX5_cut_60 : decode cX5_cut 60 = .ok (.ireturn, 1) := by decide +kernel
set_option maxRecDepth 20000 in
theorem ggX5_fit_X1_scaleOf : GoodIn wsX5_fit wsX1_scaleOf := goodIn_r _ [18, 19, 20, 89, 90, 91, 92] (by decide +kernel) (by decide +kernel)
set_option maxRecDepth 20000 in
theorem gX5_fit_X1_scaleOf : GoodIn wsX5_fit (wsV RX5 45 RX1 yX1_scaleOf wsX1_scaleOf) := goodIn_app (goodIn_of _ (by decide +kernel)) ggX5_fit_X1_scaleOf
set_option maxRecDepth 20000 in
theorem ggX5_fit_Jx4a65c_size_8abf5 : GoodIn wsX5_fit wsJx4a65c_size_8abf5 := goodIn_r _ [25, 26, 93, 94, 95] (by decide +kernel) (by decide +kernel)
set_option maxRecDepth 20000 in
theorem gX5_fit_Jx4a65c_size_8abf5 : GoodIn wsX5_fit (wsV RX5 71 RJx4a65c yJx4a65c_size_8abf5 wsJx4a65c_size_8abf5) := goodIn_app (goodIn_of _ (by decide +kernel)) ggX5_fit_Jx4a65c_size_8abf5
set_option maxRecDepth 20000 in
theorem ggX5_fit_Jx4a65c_get_915e3 : GoodIn wsX5_fit wsJx4a65c_get_915e3 := goodIn_r _ [30, 26, 31, 32, 33, 34, 35, 36, 37, 38, 39, 40, 41, 24, 42, 43, 93, 94, 95] (by decide +kernel) (by decide +kernel)
set_option maxRecDepth 20000 in
theorem gX5_fit_Jx4a65c_get_915e3 : GoodIn wsX5_fit (wsV RX5 74 RJx4a65c yJx4a65c_get_915e3 wsJx4a65c_get_915e3) := goodIn_app (goodIn_of _ (by decide +kernel)) ggX5_fit_Jx4a65c_get_915e3
set_option maxRecDepth 20000 in
theorem ggX5_fit_X3_leastOn : GoodIn wsX5_fit wsX3_leastOn := goodIn_r _ [48, 49, 50, 51, 52, 53, 54, 55, 11, 8, 12, 56, 7, 9, 57, 58, 59, 47, 60, 61, 62, 63, 64, 65, 96, 97, 98, 99, 100, 101, 102, 103, 104, 105, 106] (by decide +kernel) (by decide +kernel)
set_option maxRecDepth 20000 in
theorem gX5_fit_X3_leastOn : GoodIn wsX5_fit (wsV RX5 80 RX3 yX3_leastOn wsX3_leastOn) := goodIn_app (goodIn_of _ (by decide +kernel)) ggX5_fit_X3_leastOn
set_option maxRecDepth 20000 in
theorem ggX5_fit_X3_greatestOn : GoodIn wsX5_fit wsX3_greatestOn := goodIn_r _ [69, 70, 50, 51, 71, 53, 54, 56, 7, 8, 9, 55, 11, 12, 57, 58, 59, 47, 60, 61, 62, 63, 64, 65, 96, 97, 98, 99, 100, 101, 102, 103, 104, 105, 106] (by decide +kernel) (by decide +kernel)
set_option maxRecDepth 20000 in
theorem gX5_fit_X3_greatestOn : GoodIn wsX5_fit (wsV RX5 90 RX3 yX3_greatestOn wsX3_greatestOn) := goodIn_app (goodIn_of _ (by decide +kernel)) ggX5_fit_X3_greatestOn
set_option maxRecDepth 20000 in
theorem ggX5_fit_X2_spread : GoodIn wsX5_fit wsX2_spread := goodIn_r _ [76, 77, 78, 79, 107, 108, 109, 110, 111, 112] (by decide +kernel) (by decide +kernel)
set_option maxRecDepth 20000 in
theorem gX5_fit_X2_spread : GoodIn wsX5_fit (wsV RX5 56 RX2 yX2_spread wsX2_spread) := goodIn_app (goodIn_of _ (by decide +kernel)) ggX5_fit_X2_spread
set_option maxRecDepth 20000 in
theorem ggX5_fit_X5_markAllStale : GoodIn wsX5_fit wsX5_markAllStale := goodIn_r _ [84, 4, 5, 85, 21, 22, 23, 24, 25, 26, 27, 28, 29, 30, 31, 32, 33, 34, 35, 36, 37, 38, 39, 40, 41, 42, 43, 86, 87, 88, 96, 97, 98, 99, 100, 101, 102, 103, 104, 105, 106, 93, 94, 95] (by decide +kernel) (by decide +kernel)
set_option maxRecDepth 20000 in
theorem gX5_fit_X5_markAllStale : GoodIn wsX5_fit (wsV RX5 42 RX5 yX5_markAllStale wsX5_markAllStale) := goodIn_app (goodIn_of _ (by decide +kernel)) ggX5_fit_X5_markAllStale
theorem dX5_fit_0 : decode cX5_fit 0 = .ok (.aload_n 0, 1) := by decide +kernel
theorem dX5_fit_1 : decode cX5_fit 1 = .ok (.getfield 12, 3) := by decide +kernel
theorem dX5_fit_4 : decode cX5_fit 4 = .ok (.iload_n 1, 1) := by decide +kernel
theorem dX5_fit_5 : decode cX5_fit 5 = .ok (.invokevirtual 45, 3) := by decide +kernel
theorem dX5_fit_8 : decode cX5_fit 8 = .ok (.astore_n 2, 1) := by decide +kernel
theorem dX5_fit_9 : decode cX5_fit 9 = .ok (.aload_n 2, 1) := by decide +kernel
theorem dX5_fit_10 : decode cX5_fit 10 = .ok (.ifnonnull 5, 3) := by decide +kernel
theorem dX5_fit_13 : decode cX5_fit 13 = .ok (.iconst (-1), 1) := by decide +kernel
theorem dX5_fit_14 : decode cX5_fit 14 = .ok (.ireturn, 1) := by decide +kernel
theorem dX5_fit_15 : decode cX5_fit 15 = .ok (.ldc 69, 2) := by decide +kernel
theorem dX5_fit_17 : decode cX5_fit 17 = .ok (.istore_n 3, 1) := by decide +kernel
theorem dX5_fit_18 : decode cX5_fit 18 = .ok (.ldc 70, 2) := by decide +kernel
theorem dX5_fit_20 : decode cX5_fit 20 = .ok (.istore 4, 2) := by decide +kernel
theorem dX5_fit_22 : decode cX5_fit 22 = .ok (.iconst 0, 1) := by decide +kernel
theorem dX5_fit_23 : decode cX5_fit 23 = .ok (.istore 5, 2) := by decide +kernel
theorem dX5_fit_25 : decode cX5_fit 25 = .ok (.iload 5, 2) := by decide +kernel
theorem dX5_fit_27 : decode cX5_fit 27 = .ok (.aload_n 0, 1) := by decide +kernel
theorem dX5_fit_28 : decode cX5_fit 28 = .ok (.getfield 19, 3) := by decide +kernel
theorem dX5_fit_31 : decode cX5_fit 31 = .ok (.invokevirtual 71, 3) := by decide +kernel
theorem dX5_fit_34 : decode cX5_fit 34 = .ok (.if_icmp .ge 47, 3) := by decide +kernel
theorem dX5_fit_37 : decode cX5_fit 37 = .ok (.aload_n 0, 1) := by decide +kernel
theorem dX5_fit_38 : decode cX5_fit 38 = .ok (.getfield 19, 3) := by decide +kernel
theorem dX5_fit_41 : decode cX5_fit 41 = .ok (.iload 5, 2) := by decide +kernel
theorem dX5_fit_43 : decode cX5_fit 43 = .ok (.invokevirtual 74, 3) := by decide +kernel
theorem dX5_fit_46 : decode cX5_fit 46 = .ok (.checkcast 78, 3) := by decide +kernel
theorem dX5_fit_49 : decode cX5_fit 49 = .ok (.astore 6, 2) := by decide +kernel
theorem dX5_fit_51 : decode cX5_fit 51 = .ok (.iload_n 3, 1) := by decide +kernel
theorem dX5_fit_52 : decode cX5_fit 52 = .ok (.aload 6, 2) := by decide +kernel
theorem dX5_fit_54 : decode cX5_fit 54 = .ok (.iload_n 1, 1) := by decide +kernel
theorem dX5_fit_55 : decode cX5_fit 55 = .ok (.invokevirtual 80, 3) := by decide +kernel
theorem dX5_fit_58 : decode cX5_fit 58 = .ok (.invokestatic 84, 3) := by decide +kernel
theorem dX5_fit_61 : decode cX5_fit 61 = .ok (.istore_n 3, 1) := by decide +kernel
theorem dX5_fit_62 : decode cX5_fit 62 = .ok (.iload 4, 2) := by decide +kernel
theorem dX5_fit_64 : decode cX5_fit 64 = .ok (.aload 6, 2) := by decide +kernel
theorem dX5_fit_66 : decode cX5_fit 66 = .ok (.iload_n 1, 1) := by decide +kernel
theorem dX5_fit_67 : decode cX5_fit 67 = .ok (.invokevirtual 90, 3) := by decide +kernel
theorem dX5_fit_70 : decode cX5_fit 70 = .ok (.invokestatic 93, 3) := by decide +kernel
theorem dX5_fit_73 : decode cX5_fit 73 = .ok (.istore 4, 2) := by decide +kernel
theorem dX5_fit_75 : decode cX5_fit 75 = .ok (.iinc 5 1, 3) := by decide +kernel
theorem dX5_fit_78 : decode cX5_fit 78 = .ok (.goto (-53), 3) := by decide +kernel
theorem dX5_fit_81 : decode cX5_fit 81 = .ok (.iload_n 3, 1) := by decide +kernel
theorem dX5_fit_82 : decode cX5_fit 82 = .ok (.iload 4, 2) := by decide +kernel
theorem dX5_fit_84 : decode cX5_fit 84 = .ok (.if_icmp .le 6, 3) := by decide +kernel
theorem dX5_fit_87 : decode cX5_fit 87 = .ok (.bipush (-2), 2) := by decide +kernel
theorem dX5_fit_89 : decode cX5_fit 89 = .ok (.ireturn, 1) := by decide +kernel
theorem dX5_fit_90 : decode cX5_fit 90 = .ok (.iload_n 3, 1) := by decide +kernel
theorem dX5_fit_91 : decode cX5_fit 91 = .ok (.iload 4, 2) := by decide +kernel
theorem dX5_fit_93 : decode cX5_fit 93 = .ok (.if_icmp .ne 10, 3) := by decide +kernel
theorem dX5_fit_96 : decode cX5_fit 96 = .ok (.iload 4, 2) := by decide +kernel
theorem dX5_fit_98 : decode cX5_fit 98 = .ok (.iconst 1, 1) := by decide +kernel
theorem dX5_fit_99 : decode cX5_fit 99 = .ok (.iadd, 1) := by decide +kernel
theorem dX5_fit_100 : decode cX5_fit 100 = .ok (.goto 5, 3) := by decide +kernel
theorem dX5_fit_103 : decode cX5_fit 103 = .ok (.iload 4, 2) := by decide +kernel
theorem dX5_fit_105 : decode cX5_fit 105 = .ok (.istore 5, 2) := by decide +kernel
theorem dX5_fit_107 : decode cX5_fit 107 = .ok (.iload 5, 2) := by decide +kernel
theorem dX5_fit_109 : decode cX5_fit 109 = .ok (.ldc 50, 2) := by decide +kernel
theorem dX5_fit_111 : decode cX5_fit 111 = .ok (.if_icmp .le 6, 3) := by decide +kernel
theorem dX5_fit_114 : decode cX5_fit 114 = .ok (.bipush (-2), 2) := by decide +kernel
theorem dX5_fit_116 : decode cX5_fit 116 = .ok (.ireturn, 1) := by decide +kernel
theorem dX5_fit_117 : decode cX5_fit 117 = .ok (.aload_n 2, 1) := by decide +kernel
theorem dX5_fit_118 : decode cX5_fit 118 = .ok (.iconst 0, 1) := by decide +kernel
theorem dX5_fit_119 : decode cX5_fit 119 = .ok (.iload_n 3, 1) := by decide +kernel
theorem dX5_fit_120 : decode cX5_fit 120 = .ok (.iload 5, 2) := by decide +kernel
theorem dX5_fit_122 : decode cX5_fit 122 = .ok (.invokevirtual 56, 3) := by decide +kernel
theorem dX5_fit_125 : decode cX5_fit 125 = .ok (.aload_n 0, 1) := by decide +kernel
theorem dX5_fit_126 : decode cX5_fit 126 = .ok (.invokevirtual 42, 3) := by decide +kernel
theorem dX5_fit_129 : decode cX5_fit 129 = .ok (.iconst 1, 1) := by decide +kernel
theorem dX5_fit_130 : decode cX5_fit 130 = .ok (.ireturn, 1) := by decide +kernel
set_option maxRecDepth 20000 in
theorem ggX5_place_X1_scaleOf : GoodIn wsX5_place wsX1_scaleOf := goodIn_r _ [6, 7, 8, 31, 32, 33, 34] (by decide +kernel) (by decide +kernel)
set_option maxRecDepth 20000 in
theorem gX5_place_X1_scaleOf : GoodIn wsX5_place (wsV RX5 45 RX1 yX1_scaleOf wsX1_scaleOf) := goodIn_app (goodIn_of _ (by decide +kernel)) ggX5_place_X1_scaleOf
set_option maxRecDepth 20000 in
theorem ggX5_place_X2_placeOf : GoodIn wsX5_place wsX2_placeOf := goodIn_r _ [13, 14, 15, 16, 17, 18, 19, 20, 21, 12, 22, 23, 24, 25, 26, 27, 35, 36, 37, 38, 39, 40] (by decide +kernel) (by decide +kernel)
set_option maxRecDepth 20000 in
theorem gX5_place_X2_placeOf : GoodIn wsX5_place (wsV RX5 96 RX2 yX2_placeOf wsX2_placeOf) := goodIn_app (goodIn_of _ (by decide +kernel)) ggX5_place_X2_placeOf
theorem dX5_place_0 : decode cX5_place 0 = .ok (.aload_n 0, 1) := by decide +kernel
theorem dX5_place_1 : decode cX5_place 1 = .ok (.getfield 12, 3) := by decide +kernel
theorem dX5_place_4 : decode cX5_place 4 = .ok (.iload_n 1, 1) := by decide +kernel
theorem dX5_place_5 : decode cX5_place 5 = .ok (.invokevirtual 45, 3) := by decide +kernel
theorem dX5_place_8 : decode cX5_place 8 = .ok (.astore_n 3, 1) := by decide +kernel
theorem dX5_place_9 : decode cX5_place 9 = .ok (.aload_n 3, 1) := by decide +kernel
theorem dX5_place_10 : decode cX5_place 10 = .ok (.ifnonnull 7, 3) := by decide +kernel
theorem dX5_place_13 : decode cX5_place 13 = .ok (.iconst (-1), 1) := by decide +kernel
theorem dX5_place_14 : decode cX5_place 14 = .ok (.goto 8, 3) := by decide +kernel
theorem dX5_place_17 : decode cX5_place 17 = .ok (.aload_n 3, 1) := by decide +kernel
theorem dX5_place_18 : decode cX5_place 18 = .ok (.iload_n 2, 1) := by decide +kernel
theorem dX5_place_19 : decode cX5_place 19 = .ok (.invokevirtual 96, 3) := by decide +kernel
theorem dX5_place_22 : decode cX5_place 22 = .ok (.ireturn, 1) := by decide +kernel
set_option maxRecDepth 20000 in
theorem ggX5_value_X1_scaleOf : GoodIn wsX5_value wsX1_scaleOf := goodIn_r _ [7, 8, 9, 45, 46, 47, 48] (by decide +kernel) (by decide +kernel)
set_option maxRecDepth 20000 in
theorem gX5_value_X1_scaleOf : GoodIn wsX5_value (wsV RX5 45 RX1 yX1_scaleOf wsX1_scaleOf) := goodIn_app (goodIn_of _ (by decide +kernel)) ggX5_value_X1_scaleOf
set_option maxRecDepth 20000 in
theorem ggX5_value_X2_leastValueAt : GoodIn wsX5_value wsX2_leastValueAt := goodIn_r _ [14, 15, 16, 17, 18, 19, 20, 21, 22, 23, 24, 25, 26, 27, 13, 28, 29, 30, 31, 32, 33, 34, 35, 36, 37, 38, 39, 40, 41, 49, 50, 51, 52, 53, 54] (by decide +kernel) (by decide +kernel)
set_option maxRecDepth 20000 in
theorem gX5_value_X2_leastValueAt : GoodIn wsX5_value (wsV RX5 100 RX2 yX2_leastValueAt wsX2_leastValueAt) := goodIn_app (goodIn_of _ (by decide +kernel)) ggX5_value_X2_leastValueAt
theorem dX5_value_0 : decode cX5_value 0 = .ok (.aload_n 0, 1) := by decide +kernel
theorem dX5_value_1 : decode cX5_value 1 = .ok (.getfield 12, 3) := by decide +kernel
theorem dX5_value_4 : decode cX5_value 4 = .ok (.iload_n 1, 1) := by decide +kernel
theorem dX5_value_5 : decode cX5_value 5 = .ok (.invokevirtual 45, 3) := by decide +kernel
theorem dX5_value_8 : decode cX5_value 8 = .ok (.astore_n 3, 1) := by decide +kernel
theorem dX5_value_9 : decode cX5_value 9 = .ok (.aload_n 3, 1) := by decide +kernel
theorem dX5_value_10 : decode cX5_value 10 = .ok (.ifnonnull 8, 3) := by decide +kernel
theorem dX5_value_13 : decode cX5_value 13 = .ok (.ldc 99, 2) := by decide +kernel
theorem dX5_value_15 : decode cX5_value 15 = .ok (.goto 8, 3) := by decide +kernel
theorem dX5_value_18 : decode cX5_value 18 = .ok (.aload_n 3, 1) := by decide +kernel
theorem dX5_value_19 : decode cX5_value 19 = .ok (.iload_n 2, 1) := by decide +kernel
theorem dX5_value_20 : decode cX5_value 20 = .ok (.invokevirtual 100, 3) := by decide +kernel
theorem dX5_value_23 : decode cX5_value 23 = .ok (.ireturn, 1) := by decide +kernel
set_option maxRecDepth 20000 in
theorem ggX5_step_X1_scaleOf : GoodIn wsX5_step wsX1_scaleOf := goodIn_r _ [6, 7, 8, 42, 43, 44, 45] (by decide +kernel) (by decide +kernel)
set_option maxRecDepth 20000 in
theorem gX5_step_X1_scaleOf : GoodIn wsX5_step (wsV RX5 45 RX1 yX1_scaleOf wsX1_scaleOf) := goodIn_app (goodIn_of _ (by decide +kernel)) ggX5_step_X1_scaleOf
set_option maxRecDepth 20000 in
theorem ggX5_step_X5_within : GoodIn wsX5_step wsX5_within := goodIn_r _ [12] (by decide +kernel) (by decide +kernel)
set_option maxRecDepth 20000 in
theorem gX5_step_X5_within : GoodIn wsX5_step (va_wsS RX5 30 yX5_within wsX5_within) := goodIn_app (goodIn_of _ (by decide +kernel)) ggX5_step_X5_within
set_option maxRecDepth 20000 in
theorem ggX5_step_X2_stepFor : GoodIn wsX5_step wsX2_stepFor := goodIn_r _ [17, 18, 19, 20, 21, 16, 22, 23, 24, 25, 26, 27, 28, 29, 30, 31, 32, 33, 34, 35, 36, 37, 38, 46, 47, 48, 49, 50, 51] (by decide +kernel) (by decide +kernel)
set_option maxRecDepth 20000 in
theorem gX5_step_X2_stepFor : GoodIn wsX5_step (wsV RX5 103 RX2 yX2_stepFor wsX2_stepFor) := goodIn_app (goodIn_of _ (by decide +kernel)) ggX5_step_X2_stepFor
theorem dX5_step_0 : decode cX5_step 0 = .ok (.aload_n 0, 1) := by decide +kernel
theorem dX5_step_1 : decode cX5_step 1 = .ok (.getfield 12, 3) := by decide +kernel
theorem dX5_step_4 : decode cX5_step 4 = .ok (.iload_n 1, 1) := by decide +kernel
theorem dX5_step_5 : decode cX5_step 5 = .ok (.invokevirtual 45, 3) := by decide +kernel
theorem dX5_step_8 : decode cX5_step 8 = .ok (.astore_n 3, 1) := by decide +kernel
theorem dX5_step_9 : decode cX5_step 9 = .ok (.aload_n 3, 1) := by decide +kernel
theorem dX5_step_10 : decode cX5_step 10 = .ok (.ifnull 13, 3) := by decide +kernel
theorem dX5_step_13 : decode cX5_step 13 = .ok (.iload_n 2, 1) := by decide +kernel
theorem dX5_step_14 : decode cX5_step 14 = .ok (.iconst 2, 1) := by decide +kernel
theorem dX5_step_15 : decode cX5_step 15 = .ok (.bipush 20, 2) := by decide +kernel
theorem dX5_step_17 : decode cX5_step 17 = .ok (.invokestatic 30, 3) := by decide +kernel
theorem dX5_step_20 : decode cX5_step 20 = .ok (.ifCond .ne 7, 3) := by decide +kernel
theorem dX5_step_23 : decode cX5_step 23 = .ok (.iconst (-1), 1) := by decide +kernel
theorem dX5_step_24 : decode cX5_step 24 = .ok (.goto 8, 3) := by decide +kernel
theorem dX5_step_27 : decode cX5_step 27 = .ok (.aload_n 3, 1) := by decide +kernel
theorem dX5_step_28 : decode cX5_step 28 = .ok (.iload_n 2, 1) := by decide +kernel
theorem dX5_step_29 : decode cX5_step 29 = .ok (.invokevirtual 103, 3) := by decide +kernel
theorem dX5_step_32 : decode cX5_step 32 = .ok (.ireturn, 1) := by decide +kernel
set_option maxRecDepth 20000 in
theorem ggX5_tick_X1_scaleOf : GoodIn wsX5_tick wsX1_scaleOf := goodIn_r _ [7, 8, 9, 51, 52, 53, 54] (by decide +kernel) (by decide +kernel)
set_option maxRecDepth 20000 in
theorem gX5_tick_X1_scaleOf : GoodIn wsX5_tick (wsV RX5 45 RX1 yX1_scaleOf wsX1_scaleOf) := goodIn_app (goodIn_of _ (by decide +kernel)) ggX5_tick_X1_scaleOf
set_option maxRecDepth 20000 in
theorem ggX5_tick_X5_within : GoodIn wsX5_tick wsX5_within := goodIn_r _ [13] (by decide +kernel) (by decide +kernel)
set_option maxRecDepth 20000 in
theorem gX5_tick_X5_within : GoodIn wsX5_tick (va_wsS RX5 30 yX5_within wsX5_within) := goodIn_app (goodIn_of _ (by decide +kernel)) ggX5_tick_X5_within
set_option maxRecDepth 20000 in
theorem ggX5_tick_X2_tickAt : GoodIn wsX5_tick wsX2_tickAt := goodIn_r _ [18, 19, 20, 21, 22, 23, 24, 17, 25, 26, 27, 28, 29, 30, 31, 32, 33, 34, 35, 36, 37, 38, 39, 40, 41, 42, 43, 44, 45, 46, 47, 55, 56, 57, 58, 59, 60] (by decide +kernel) (by decide +kernel)
set_option maxRecDepth 20000 in
theorem gX5_tick_X2_tickAt : GoodIn wsX5_tick (wsV RX5 106 RX2 yX2_tickAt wsX2_tickAt) := goodIn_app (goodIn_of _ (by decide +kernel)) ggX5_tick_X2_tickAt
theorem dX5_tick_0 : decode cX5_tick 0 = .ok (.aload_n 0, 1) := by decide +kernel
theorem dX5_tick_1 : decode cX5_tick 1 = .ok (.getfield 12, 3) := by decide +kernel
theorem dX5_tick_4 : decode cX5_tick 4 = .ok (.iload_n 1, 1) := by decide +kernel
theorem dX5_tick_5 : decode cX5_tick 5 = .ok (.invokevirtual 45, 3) := by decide +kernel
theorem dX5_tick_8 : decode cX5_tick 8 = .ok (.astore 4, 2) := by decide +kernel
theorem dX5_tick_10 : decode cX5_tick 10 = .ok (.aload 4, 2) := by decide +kernel
theorem dX5_tick_12 : decode cX5_tick 12 = .ok (.ifnull 13, 3) := by decide +kernel
theorem dX5_tick_15 : decode cX5_tick 15 = .ok (.iload_n 2, 1) := by decide +kernel
theorem dX5_tick_16 : decode cX5_tick 16 = .ok (.iconst 2, 1) := by decide +kernel
theorem dX5_tick_17 : decode cX5_tick 17 = .ok (.bipush 20, 2) := by decide +kernel
theorem dX5_tick_19 : decode cX5_tick 19 = .ok (.invokestatic 30, 3) := by decide +kernel
theorem dX5_tick_22 : decode cX5_tick 22 = .ok (.ifCond .ne 8, 3) := by decide +kernel
theorem dX5_tick_25 : decode cX5_tick 25 = .ok (.ldc 99, 2) := by decide +kernel
theorem dX5_tick_27 : decode cX5_tick 27 = .ok (.goto 10, 3) := by decide +kernel
theorem dX5_tick_30 : decode cX5_tick 30 = .ok (.aload 4, 2) := by decide +kernel
theorem dX5_tick_32 : decode cX5_tick 32 = .ok (.iload_n 2, 1) := by decide +kernel
theorem dX5_tick_33 : decode cX5_tick 33 = .ok (.iload_n 3, 1) := by decide +kernel
theorem dX5_tick_34 : decode cX5_tick 34 = .ok (.invokevirtual 106, 3) := by decide +kernel
theorem dX5_tick_37 : decode cX5_tick 37 = .ok (.ireturn, 1) := by decide +kernel
set_option maxRecDepth 20000 in
theorem ggX5_series_X5_isStyle : GoodIn wsX5_series wsX5_isStyle := goodIn_r _ [9, 10, 11, 8, 12] (by decide +kernel) (by decide +kernel)
set_option maxRecDepth 20000 in
theorem gX5_series_X5_isStyle : GoodIn wsX5_series (va_wsS RX5 109 yX5_isStyle wsX5_isStyle) := goodIn_app (goodIn_of _ (by decide +kernel)) ggX5_series_X5_isStyle
set_option maxRecDepth 20000 in
theorem ggX5_series_Jx4a65c_size_8abf5 : GoodIn wsX5_series wsJx4a65c_size_8abf5 := goodIn_r _ [17, 18, 115, 116, 117] (by decide +kernel) (by decide +kernel)
set_option maxRecDepth 20000 in
theorem gX5_series_Jx4a65c_size_8abf5 : GoodIn wsX5_series (wsV RX5 71 RJx4a65c yJx4a65c_size_8abf5 wsJx4a65c_size_8abf5) := goodIn_app (goodIn_of _ (by decide +kernel)) ggX5_series_Jx4a65c_size_8abf5
set_option maxRecDepth 20000 in
theorem ggX5_series_X3_init : GoodIn wsX5_series wsX3_init := goodIn_r _ [21, 22, 23, 24, 25, 26, 27, 28, 29, 30, 31, 32, 33, 34, 35, 36, 37, 38, 39, 40, 41, 42, 43, 44, 45, 46, 104, 105, 106, 107, 108, 109, 110, 111, 112, 113, 114, 118, 119, 120] (by decide +kernel) (by decide +kernel)
set_option maxRecDepth 20000 in
theorem gX5_series_X3_init : GoodIn wsX5_series (wsX3_init) := ggX5_series_X3_init
set_option maxRecDepth 20000 in
theorem ggX5_series_Jx4a65c_add_9ea2d : GoodIn wsX5_series wsJx4a65c_add_9ea2d := goodIn_r _ [50, 51, 52, 53, 18, 54, 55, 56, 16, 57, 58, 59, 60, 61, 62, 63, 64, 65, 66, 67, 68, 69, 70, 71, 72, 73, 74, 75, 76, 77, 78, 79, 80, 81, 82, 83, 84, 85, 86, 87, 88, 89, 90, 91, 92, 93, 94, 95, 96, 97, 98, 99, 100, 115, 116, 117] (by decide +kernel) (by decide +kernel)
set_option maxRecDepth 20000 in
theorem gX5_series_Jx4a65c_add_9ea2d : GoodIn wsX5_series (wsV RX5 116 RJx4a65c yJx4a65c_add_9ea2d wsJx4a65c_add_9ea2d) := goodIn_app (goodIn_of _ (by decide +kernel)) ggX5_series_Jx4a65c_add_9ea2d
theorem dX5_series_0 : decode cX5_series 0 = .ok (.iconst 0, 1) := by decide +kernel
theorem dX5_series_1 : decode cX5_series 1 = .ok (.iload_n 1, 1) := by decide +kernel
theorem dX5_series_2 : decode cX5_series 2 = .ok (.invokestatic 109, 3) := by decide +kernel
theorem dX5_series_5 : decode cX5_series 5 = .ok (.ifCond .eq 19, 3) := by decide +kernel
theorem dX5_series_8 : decode cX5_series 8 = .ok (.iconst 1, 1) := by decide +kernel
theorem dX5_series_9 : decode cX5_series 9 = .ok (.iload_n 2, 1) := by decide +kernel
theorem dX5_series_10 : decode cX5_series 10 = .ok (.invokestatic 109, 3) := by decide +kernel
theorem dX5_series_13 : decode cX5_series 13 = .ok (.ifCond .eq 11, 3) := by decide +kernel
theorem dX5_series_16 : decode cX5_series 16 = .ok (.iconst 2, 1) := by decide +kernel
theorem dX5_series_17 : decode cX5_series 17 = .ok (.iload_n 3, 1) := by decide +kernel
theorem dX5_series_18 : decode cX5_series 18 = .ok (.invokestatic 109, 3) := by decide +kernel
theorem dX5_series_21 : decode cX5_series 21 = .ok (.ifCond .ne 5, 3) := by decide +kernel
theorem dX5_series_24 : decode cX5_series 24 = .ok (.iconst (-1), 1) := by decide +kernel
theorem dX5_series_25 : decode cX5_series 25 = .ok (.ireturn, 1) := by decide +kernel
theorem dX5_series_26 : decode cX5_series 26 = .ok (.aload_n 0, 1) := by decide +kernel
theorem dX5_series_27 : decode cX5_series 27 = .ok (.getfield 19, 3) := by decide +kernel
theorem dX5_series_30 : decode cX5_series 30 = .ok (.invokevirtual 71, 3) := by decide +kernel
theorem dX5_series_33 : decode cX5_series 33 = .ok (.bipush 6, 2) := by decide +kernel
theorem dX5_series_35 : decode cX5_series 35 = .ok (.if_icmp .lt 6, 3) := by decide +kernel
theorem dX5_series_38 : decode cX5_series 38 = .ok (.bipush (-3), 2) := by decide +kernel
theorem dX5_series_40 : decode cX5_series 40 = .ok (.ireturn, 1) := by decide +kernel
theorem dX5_series_41 : decode cX5_series 41 = .ok (.aload_n 0, 1) := by decide +kernel
theorem dX5_series_42 : decode cX5_series 42 = .ok (.getfield 19, 3) := by decide +kernel
theorem dX5_series_45 : decode cX5_series 45 = .ok (.new 78, 3) := by decide +kernel
theorem dX5_series_48 : decode cX5_series 48 = .ok (.dup, 1) := by decide +kernel
theorem dX5_series_49 : decode cX5_series 49 = .ok (.aload_n 0, 1) := by decide +kernel
theorem dX5_series_50 : decode cX5_series 50 = .ok (.getfield 12, 3) := by decide +kernel
theorem dX5_series_53 : decode cX5_series 53 = .ok (.iload_n 1, 1) := by decide +kernel
theorem dX5_series_54 : decode cX5_series 54 = .ok (.iload_n 2, 1) := by decide +kernel
theorem dX5_series_55 : decode cX5_series 55 = .ok (.iload_n 3, 1) := by decide +kernel
theorem dX5_series_56 : decode cX5_series 56 = .ok (.invokespecial 113, 3) := by decide +kernel
theorem dX5_series_59 : decode cX5_series 59 = .ok (.invokevirtual 116, 3) := by decide +kernel
theorem dX5_series_62 : decode cX5_series 62 = .ok (.pop, 1) := by decide +kernel
theorem dX5_series_63 : decode cX5_series 63 = .ok (.aload_n 0, 1) := by decide +kernel
theorem dX5_series_64 : decode cX5_series 64 = .ok (.getfield 19, 3) := by decide +kernel
theorem dX5_series_67 : decode cX5_series 67 = .ok (.invokevirtual 71, 3) := by decide +kernel
theorem dX5_series_70 : decode cX5_series 70 = .ok (.iconst 1, 1) := by decide +kernel
theorem dX5_series_71 : decode cX5_series 71 = .ok (.isub, 1) := by decide +kernel
theorem dX5_series_72 : decode cX5_series 72 = .ok (.ireturn, 1) := by decide +kernel
set_option maxRecDepth 20000 in
theorem ggX5_style_X5_seriesOf : GoodIn wsX5_style wsX5_seriesOf := goodIn_r _ [5, 6, 7, 8, 9, 10, 11, 12, 13, 14, 15, 16, 17, 18, 19, 20, 21, 22, 23, 24, 25, 26, 27, 28, 29, 30, 46, 47, 48, 49, 50, 51] (by decide +kernel) (by decide +kernel)
set_option maxRecDepth 20000 in
theorem gX5_style_X5_seriesOf : GoodIn wsX5_style (wsV RX5 120 RX5 yX5_seriesOf wsX5_seriesOf) := goodIn_app (goodIn_of _ (by decide +kernel)) ggX5_style_X5_seriesOf
set_option maxRecDepth 20000 in
theorem ggX5_style_X5_isStyle : GoodIn wsX5_style wsX5_isStyle := goodIn_r _ [33, 34, 35, 4, 36] (by decide +kernel) (by decide +kernel)
set_option maxRecDepth 20000 in
theorem gX5_style_X5_isStyle : GoodIn wsX5_style (va_wsS RX5 109 yX5_isStyle wsX5_isStyle) := goodIn_app (goodIn_of _ (by decide +kernel)) ggX5_style_X5_isStyle
set_option maxRecDepth 20000 in
theorem ggX5_style_X3_restyle : GoodIn wsX5_style wsX3_restyle := goodIn_r _ [41, 42, 43, 44, 45, 52, 53, 54, 55, 56, 57, 58, 59, 60, 61, 62] (by decide +kernel) (by decide +kernel)
set_option maxRecDepth 20000 in
theorem gX5_style_X3_restyle : GoodIn wsX5_style (wsV RX5 124 RX3 yX3_restyle wsX3_restyle) := goodIn_app (goodIn_of _ (by decide +kernel)) ggX5_style_X3_restyle
theorem dX5_style_0 : decode cX5_style 0 = .ok (.aload_n 0, 1) := by decide +kernel
theorem dX5_style_1 : decode cX5_style 1 = .ok (.iload_n 1, 1) := by decide +kernel
theorem dX5_style_2 : decode cX5_style 2 = .ok (.invokevirtual 120, 3) := by decide +kernel
theorem dX5_style_5 : decode cX5_style 5 = .ok (.astore 4, 2) := by decide +kernel
theorem dX5_style_7 : decode cX5_style 7 = .ok (.aload 4, 2) := by decide +kernel
theorem dX5_style_9 : decode cX5_style 9 = .ok (.ifnull 11, 3) := by decide +kernel
theorem dX5_style_12 : decode cX5_style 12 = .ok (.iload_n 2, 1) := by decide +kernel
theorem dX5_style_13 : decode cX5_style 13 = .ok (.iload_n 3, 1) := by decide +kernel
theorem dX5_style_14 : decode cX5_style 14 = .ok (.invokestatic 109, 3) := by decide +kernel
theorem dX5_style_17 : decode cX5_style 17 = .ok (.ifCond .ne 5, 3) := by decide +kernel
theorem dX5_style_20 : decode cX5_style 20 = .ok (.iconst (-1), 1) := by decide +kernel
theorem dX5_style_21 : decode cX5_style 21 = .ok (.ireturn, 1) := by decide +kernel
theorem dX5_style_22 : decode cX5_style 22 = .ok (.aload 4, 2) := by decide +kernel
theorem dX5_style_24 : decode cX5_style 24 = .ok (.iload_n 2, 1) := by decide +kernel
theorem dX5_style_25 : decode cX5_style 25 = .ok (.iload_n 3, 1) := by decide +kernel
theorem dX5_style_26 : decode cX5_style 26 = .ok (.invokevirtual 124, 3) := by decide +kernel
theorem dX5_style_29 : decode cX5_style 29 = .ok (.ireturn, 1) := by decide +kernel
set_option maxRecDepth 20000 in
theorem ggX5_point_X5_seriesOf : GoodIn wsX5_point wsX5_seriesOf := goodIn_r _ [7, 8, 9, 10, 11, 12, 13, 14, 15, 16, 17, 18, 19, 20, 21, 22, 23, 24, 25, 26, 27, 28, 29, 30, 31, 32, 47, 48, 49, 50, 51, 52] (by decide +kernel) (by decide +kernel)
set_option maxRecDepth 20000 in
theorem gX5_point_X5_seriesOf : GoodIn wsX5_point (wsV RX5 120 RX5 yX5_seriesOf wsX5_seriesOf) := goodIn_app (goodIn_of _ (by decide +kernel)) ggX5_point_X5_seriesOf
set_option maxRecDepth 20000 in
theorem ggX5_point_X5_within : GoodIn wsX5_point wsX5_within := goodIn_r _ [35] (by decide +kernel) (by decide +kernel)
set_option maxRecDepth 20000 in
theorem gX5_point_X5_within : GoodIn wsX5_point (va_wsS RX5 30 yX5_within wsX5_within) := goodIn_app (goodIn_of _ (by decide +kernel)) ggX5_point_X5_within
set_option maxRecDepth 20000 in
theorem ggX5_point_X3_add : GoodIn wsX5_point wsX3_add := goodIn_r _ [40, 41, 42, 43, 44, 45, 46, 53, 54, 55, 56, 57, 58, 59, 60, 61, 62, 63] (by decide +kernel) (by decide +kernel)
set_option maxRecDepth 20000 in
theorem gX5_point_X3_add : GoodIn wsX5_point (wsV RX5 127 RX3 yX3_add wsX3_add) := goodIn_app (goodIn_of _ (by decide +kernel)) ggX5_point_X3_add
theorem dX5_point_0 : decode cX5_point 0 = .ok (.aload_n 0, 1) := by decide +kernel
theorem dX5_point_1 : decode cX5_point 1 = .ok (.iload_n 1, 1) := by decide +kernel
theorem dX5_point_2 : decode cX5_point 2 = .ok (.invokevirtual 120, 3) := by decide +kernel
theorem dX5_point_5 : decode cX5_point 5 = .ok (.astore 5, 2) := by decide +kernel
theorem dX5_point_7 : decode cX5_point 7 = .ok (.aload 5, 2) := by decide +kernel
theorem dX5_point_9 : decode cX5_point 9 = .ok (.ifnull 36, 3) := by decide +kernel
theorem dX5_point_12 : decode cX5_point 12 = .ok (.iload_n 2, 1) := by decide +kernel
theorem dX5_point_13 : decode cX5_point 13 = .ok (.ldc 49, 2) := by decide +kernel
theorem dX5_point_15 : decode cX5_point 15 = .ok (.ldc 50, 2) := by decide +kernel
theorem dX5_point_17 : decode cX5_point 17 = .ok (.invokestatic 30, 3) := by decide +kernel
theorem dX5_point_20 : decode cX5_point 20 = .ok (.ifCond .eq 25, 3) := by decide +kernel
theorem dX5_point_23 : decode cX5_point 23 = .ok (.iload_n 3, 1) := by decide +kernel
theorem dX5_point_24 : decode cX5_point 24 = .ok (.ldc 49, 2) := by decide +kernel
theorem dX5_point_26 : decode cX5_point 26 = .ok (.ldc 50, 2) := by decide +kernel
theorem dX5_point_28 : decode cX5_point 28 = .ok (.invokestatic 30, 3) := by decide +kernel
theorem dX5_point_31 : decode cX5_point 31 = .ok (.ifCond .eq 14, 3) := by decide +kernel
theorem dX5_point_34 : decode cX5_point 34 = .ok (.iload 4, 2) := by decide +kernel
theorem dX5_point_36 : decode cX5_point 36 = .ok (.iconst 0, 1) := by decide +kernel
theorem dX5_point_37 : decode cX5_point 37 = .ok (.ldc 50, 2) := by decide +kernel
theorem dX5_point_39 : decode cX5_point 39 = .ok (.invokestatic 30, 3) := by decide +kernel
theorem dX5_point_42 : decode cX5_point 42 = .ok (.ifCond .ne 5, 3) := by decide +kernel
theorem dX5_point_45 : decode cX5_point 45 = .ok (.iconst (-1), 1) := by decide +kernel
theorem dX5_point_46 : decode cX5_point 46 = .ok (.ireturn, 1) := by decide +kernel
theorem dX5_point_47 : decode cX5_point 47 = .ok (.aload 5, 2) := by decide +kernel
theorem dX5_point_49 : decode cX5_point 49 = .ok (.iconst 0, 1) := by decide +kernel
theorem dX5_point_50 : decode cX5_point 50 = .ok (.iload_n 2, 1) := by decide +kernel
theorem dX5_point_51 : decode cX5_point 51 = .ok (.iload_n 3, 1) := by decide +kernel
theorem dX5_point_52 : decode cX5_point 52 = .ok (.iload 4, 2) := by decide +kernel
theorem dX5_point_54 : decode cX5_point 54 = .ok (.invokevirtual 127, 3) := by decide +kernel
theorem dX5_point_57 : decode cX5_point 57 = .ok (.ireturn, 1) := by decide +kernel
set_option maxRecDepth 20000 in
theorem ggX5_gap_X5_seriesOf : GoodIn wsX5_gap wsX5_seriesOf := goodIn_r _ [5, 6, 7, 8, 9, 10, 11, 12, 13, 14, 15, 16, 17, 18, 19, 20, 21, 22, 23, 24, 25, 26, 27, 28, 29, 30, 42, 43, 44, 45, 46, 47] (by decide +kernel) (by decide +kernel)
set_option maxRecDepth 20000 in
theorem gX5_gap_X5_seriesOf : GoodIn wsX5_gap (wsV RX5 120 RX5 yX5_seriesOf wsX5_seriesOf) := goodIn_app (goodIn_of _ (by decide +kernel)) ggX5_gap_X5_seriesOf
set_option maxRecDepth 20000 in
theorem ggX5_gap_X3_add : GoodIn wsX5_gap wsX3_add := goodIn_r _ [35, 36, 37, 38, 39, 40, 41, 48, 49, 50, 51, 52, 53, 54, 55, 56, 57, 58] (by decide +kernel) (by decide +kernel)
set_option maxRecDepth 20000 in
theorem gX5_gap_X3_add : GoodIn wsX5_gap (wsV RX5 127 RX3 yX3_add wsX3_add) := goodIn_app (goodIn_of _ (by decide +kernel)) ggX5_gap_X3_add
theorem dX5_gap_0 : decode cX5_gap 0 = .ok (.aload_n 0, 1) := by decide +kernel
theorem dX5_gap_1 : decode cX5_gap 1 = .ok (.iload_n 1, 1) := by decide +kernel
theorem dX5_gap_2 : decode cX5_gap 2 = .ok (.invokevirtual 120, 3) := by decide +kernel
theorem dX5_gap_5 : decode cX5_gap 5 = .ok (.astore_n 2, 1) := by decide +kernel
theorem dX5_gap_6 : decode cX5_gap 6 = .ok (.aload_n 2, 1) := by decide +kernel
theorem dX5_gap_7 : decode cX5_gap 7 = .ok (.ifnonnull 7, 3) := by decide +kernel
theorem dX5_gap_10 : decode cX5_gap 10 = .ok (.iconst (-1), 1) := by decide +kernel
theorem dX5_gap_11 : decode cX5_gap 11 = .ok (.goto 11, 3) := by decide +kernel
theorem dX5_gap_14 : decode cX5_gap 14 = .ok (.aload_n 2, 1) := by decide +kernel
theorem dX5_gap_15 : decode cX5_gap 15 = .ok (.iconst 1, 1) := by decide +kernel
theorem dX5_gap_16 : decode cX5_gap 16 = .ok (.iconst 0, 1) := by decide +kernel
theorem dX5_gap_17 : decode cX5_gap 17 = .ok (.iconst 0, 1) := by decide +kernel
theorem dX5_gap_18 : decode cX5_gap 18 = .ok (.iconst 0, 1) := by decide +kernel
theorem dX5_gap_19 : decode cX5_gap 19 = .ok (.invokevirtual 127, 3) := by decide +kernel
theorem dX5_gap_22 : decode cX5_gap 22 = .ok (.ireturn, 1) := by decide +kernel
set_option maxRecDepth 20000 in
theorem ggX5_drop_X5_seriesOf : GoodIn wsX5_drop wsX5_seriesOf := goodIn_r _ [7, 8, 9, 10, 11, 12, 13, 14, 15, 16, 17, 18, 19, 20, 21, 22, 23, 24, 25, 26, 27, 28, 29, 30, 31, 32, 70, 71, 72, 73, 74, 75] (by decide +kernel) (by decide +kernel)
set_option maxRecDepth 20000 in
theorem gX5_drop_X5_seriesOf : GoodIn wsX5_drop (wsV RX5 120 RX5 yX5_seriesOf wsX5_seriesOf) := goodIn_app (goodIn_of _ (by decide +kernel)) ggX5_drop_X5_seriesOf
set_option maxRecDepth 20000 in
theorem ggX5_drop_X3_removeLatest : GoodIn wsX5_drop wsX3_removeLatest := goodIn_r _ [37, 38, 39, 40, 41, 42, 43, 59, 60, 61, 62, 63, 64, 65, 66, 67, 68, 69] (by decide +kernel) (by decide +kernel)
set_option maxRecDepth 20000 in
theorem gX5_drop_X3_removeLatest : GoodIn wsX5_drop (wsV RX5 131 RX3 yX3_removeLatest wsX3_removeLatest) := goodIn_app (goodIn_of _ (by decide +kernel)) ggX5_drop_X3_removeLatest
set_option maxRecDepth 20000 in
theorem ggX5_drop_X0_removeThoseAt : GoodIn wsX5_drop wsX0_removeThoseAt := goodIn_r _ [48, 49, 50, 51, 52, 53, 54, 55, 56, 57, 47, 58, 76, 77, 78, 79, 80, 81] (by decide +kernel) (by decide +kernel)
set_option maxRecDepth 20000 in
theorem gX5_drop_X0_removeThoseAt : GoodIn wsX5_drop (wsV RX5 134 RX0 yX0_removeThoseAt wsX0_removeThoseAt) := goodIn_app (goodIn_of _ (by decide +kernel)) ggX5_drop_X0_removeThoseAt
theorem dX5_drop_0 : decode cX5_drop 0 = .ok (.aload_n 0, 1) := by decide +kernel
theorem dX5_drop_1 : decode cX5_drop 1 = .ok (.iload_n 1, 1) := by decide +kernel
theorem dX5_drop_2 : decode cX5_drop 2 = .ok (.invokevirtual 120, 3) := by decide +kernel
theorem dX5_drop_5 : decode cX5_drop 5 = .ok (.astore_n 2, 1) := by decide +kernel
theorem dX5_drop_6 : decode cX5_drop 6 = .ok (.aload_n 2, 1) := by decide +kernel
theorem dX5_drop_7 : decode cX5_drop 7 = .ok (.ifnonnull 5, 3) := by decide +kernel
theorem dX5_drop_10 : decode cX5_drop 10 = .ok (.iconst (-1), 1) := by decide +kernel
theorem dX5_drop_11 : decode cX5_drop 11 = .ok (.ireturn, 1) := by decide +kernel
theorem dX5_drop_12 : decode cX5_drop 12 = .ok (.aload_n 2, 1) := by decide +kernel
theorem dX5_drop_13 : decode cX5_drop 13 = .ok (.getfield 130, 3) := by decide +kernel
theorem dX5_drop_16 : decode cX5_drop 16 = .ok (.ifCond .gt 6, 3) := by decide +kernel
theorem dX5_drop_19 : decode cX5_drop 19 = .ok (.bipush (-2), 2) := by decide +kernel
theorem dX5_drop_21 : decode cX5_drop 21 = .ok (.ireturn, 1) := by decide +kernel
theorem dX5_drop_22 : decode cX5_drop 22 = .ok (.aload_n 2, 1) := by decide +kernel
theorem dX5_drop_23 : decode cX5_drop 23 = .ok (.invokevirtual 131, 3) := by decide +kernel
theorem dX5_drop_26 : decode cX5_drop 26 = .ok (.aload_n 0, 1) := by decide +kernel
theorem dX5_drop_27 : decode cX5_drop 27 = .ok (.getfield 26, 3) := by decide +kernel
theorem dX5_drop_30 : decode cX5_drop 30 = .ok (.iload_n 1, 1) := by decide +kernel
theorem dX5_drop_31 : decode cX5_drop 31 = .ok (.aload_n 2, 1) := by decide +kernel
theorem dX5_drop_32 : decode cX5_drop 32 = .ok (.getfield 130, 3) := by decide +kernel
theorem dX5_drop_35 : decode cX5_drop 35 = .ok (.invokevirtual 134, 3) := by decide +kernel
theorem dX5_drop_38 : decode cX5_drop 38 = .ok (.aload_n 2, 1) := by decide +kernel
theorem dX5_drop_39 : decode cX5_drop 39 = .ok (.getfield 130, 3) := by decide +kernel
theorem dX5_drop_42 : decode cX5_drop 42 = .ok (.ireturn, 1) := by decide +kernel
set_option maxRecDepth 20000 in
theorem ggX5_about_X5_seriesOf : GoodIn wsX5_about wsX5_seriesOf := goodIn_r _ [9, 10, 11, 12, 13, 14, 15, 16, 17, 18, 19, 20, 21, 22, 23, 24, 25, 26, 27, 28, 29, 30, 31, 32, 33, 34, 94, 95, 96, 97, 98, 99] (by decide +kernel) (by decide +kernel)
set_option maxRecDepth 20000 in
theorem gX5_about_X5_seriesOf : GoodIn wsX5_about (wsV RX5 120 RX5 yX5_seriesOf wsX5_seriesOf) := goodIn_app (goodIn_of _ (by decide +kernel)) ggX5_about_X5_seriesOf
set_option maxRecDepth 20000 in
theorem ggX5_about_X3_isPoint : GoodIn wsX5_about wsX3_isPoint := goodIn_r _ [39, 40, 41, 42, 43, 38, 44, 45, 83, 84, 85, 86, 87, 88, 89, 90, 91, 92, 93] (by decide +kernel) (by decide +kernel)
set_option maxRecDepth 20000 in
theorem gX5_about_X3_isPoint : GoodIn wsX5_about (wsV RX5 137 RX3 yX3_isPoint wsX3_isPoint) := goodIn_app (goodIn_of _ (by decide +kernel)) ggX5_about_X3_isPoint
set_option maxRecDepth 20000 in
theorem ggX5_about_X3_isSeen : GoodIn wsX5_about wsX3_isSeen := goodIn_r _ [49, 50, 51, 52, 53, 54, 55, 36, 37, 38, 39, 40, 41, 42, 43, 44, 45, 56, 57, 58, 59, 60, 61, 62, 63, 64, 65, 66, 67, 68, 69, 70, 71, 72, 73, 74, 83, 84, 85, 86, 87, 88, 89, 90, 91, 92, 93, 100, 101, 102, 103, 104, 105, 106, 107, 108, 109] (by decide +kernel) (by decide +kernel)
set_option maxRecDepth 20000 in
theorem gX5_about_X3_isSeen : GoodIn wsX5_about (wsV RX5 151 RX3 yX3_isSeen wsX3_isSeen) := goodIn_app (goodIn_of _ (by decide +kernel)) ggX5_about_X3_isSeen
set_option maxRecDepth 20000 in
theorem ggX5_about_X3_dotAcross : GoodIn wsX5_about wsX3_dotAcross := goodIn_r _ [78, 50, 51, 52, 41, 42, 43, 38, 44, 45, 56, 57, 58, 59, 60, 61, 62, 63, 64, 65, 66, 67, 68, 69, 70, 71, 72, 73, 74, 83, 84, 85, 86, 87, 88, 89, 90, 91, 92, 93, 100, 101, 102, 103, 104, 105, 106, 107, 108, 109] (by decide +kernel) (by decide +kernel)
set_option maxRecDepth 20000 in
theorem gX5_about_X3_dotAcross : GoodIn wsX5_about (wsV RX5 154 RX3 yX3_dotAcross wsX3_dotAcross) := goodIn_app (goodIn_of _ (by decide +kernel)) ggX5_about_X3_dotAcross
set_option maxRecDepth 20000 in
theorem ggX5_about_X3_dotUpwards : GoodIn wsX5_about wsX3_dotUpwards := goodIn_r _ [82, 50, 53, 54, 41, 42, 43, 38, 44, 45, 56, 57, 58, 59, 60, 61, 62, 63, 64, 65, 66, 67, 68, 69, 70, 71, 72, 73, 74, 83, 84, 85, 86, 87, 88, 89, 90, 91, 92, 93, 100, 101, 102, 103, 104, 105, 106, 107, 108, 109] (by decide +kernel) (by decide +kernel)
set_option maxRecDepth 20000 in
theorem gX5_about_X3_dotUpwards : GoodIn wsX5_about (wsV RX5 157 RX3 yX3_dotUpwards wsX3_dotUpwards) := goodIn_app (goodIn_of _ (by decide +kernel)) ggX5_about_X3_dotUpwards
theorem dX5_about_0 : decode cX5_about 0 = .ok (.aload_n 0, 1) := by decide +kernel
theorem dX5_about_1 : decode cX5_about 1 = .ok (.iload_n 1, 1) := by decide +kernel
theorem dX5_about_2 : decode cX5_about 2 = .ok (.invokevirtual 120, 3) := by decide +kernel
theorem dX5_about_5 : decode cX5_about 5 = .ok (.astore 4, 2) := by decide +kernel
theorem dX5_about_7 : decode cX5_about 7 = .ok (.aload 4, 2) := by decide +kernel
theorem dX5_about_9 : decode cX5_about 9 = .ok (.ifnull 12, 3) := by decide +kernel
theorem dX5_about_12 : decode cX5_about 12 = .ok (.aload 4, 2) := by decide +kernel
theorem dX5_about_14 : decode cX5_about 14 = .ok (.iload_n 2, 1) := by decide +kernel
theorem dX5_about_15 : decode cX5_about 15 = .ok (.invokevirtual 137, 3) := by decide +kernel
theorem dX5_about_18 : decode cX5_about 18 = .ok (.ifCond .ne 6, 3) := by decide +kernel
theorem dX5_about_21 : decode cX5_about 21 = .ok (.ldc 99, 2) := by decide +kernel
theorem dX5_about_23 : decode cX5_about 23 = .ok (.ireturn, 1) := by decide +kernel
theorem dX5_about_24 : decode cX5_about 24 = .ok (.iload_n 3, 1) := by decide +kernel
theorem dX5_about_25 : decode cX5_about 25 = .ok (.tableswitch 101 0 4 #[35, 43, 51, 59, 80], 35) := by decide +kernel
theorem dX5_about_60 : decode cX5_about 60 = .ok (.aload 4, 2) := by decide +kernel
theorem dX5_about_62 : decode cX5_about 62 = .ok (.getfield 141, 3) := by decide +kernel
theorem dX5_about_65 : decode cX5_about 65 = .ok (.iload_n 2, 1) := by decide +kernel
theorem dX5_about_66 : decode cX5_about 66 = .ok (.iaload, 1) := by decide +kernel
theorem dX5_about_67 : decode cX5_about 67 = .ok (.ireturn, 1) := by decide +kernel
theorem dX5_about_68 : decode cX5_about 68 = .ok (.aload 4, 2) := by decide +kernel
theorem dX5_about_70 : decode cX5_about 70 = .ok (.getfield 145, 3) := by decide +kernel
theorem dX5_about_73 : decode cX5_about 73 = .ok (.iload_n 2, 1) := by decide +kernel
theorem dX5_about_74 : decode cX5_about 74 = .ok (.iaload, 1) := by decide +kernel
theorem dX5_about_75 : decode cX5_about 75 = .ok (.ireturn, 1) := by decide +kernel
theorem dX5_about_76 : decode cX5_about 76 = .ok (.aload 4, 2) := by decide +kernel
theorem dX5_about_78 : decode cX5_about 78 = .ok (.getfield 148, 3) := by decide +kernel
theorem dX5_about_81 : decode cX5_about 81 = .ok (.iload_n 2, 1) := by decide +kernel
theorem dX5_about_82 : decode cX5_about 82 = .ok (.iaload, 1) := by decide +kernel
theorem dX5_about_83 : decode cX5_about 83 = .ok (.ireturn, 1) := by decide +kernel
theorem dX5_about_84 : decode cX5_about 84 = .ok (.aload 4, 2) := by decide +kernel
theorem dX5_about_86 : decode cX5_about 86 = .ok (.iload_n 2, 1) := by decide +kernel
theorem dX5_about_87 : decode cX5_about 87 = .ok (.invokevirtual 151, 3) := by decide +kernel
theorem dX5_about_90 : decode cX5_about 90 = .ok (.ifCond .eq 12, 3) := by decide +kernel
theorem dX5_about_93 : decode cX5_about 93 = .ok (.aload 4, 2) := by decide +kernel
theorem dX5_about_95 : decode cX5_about 95 = .ok (.iload_n 2, 1) := by decide +kernel
theorem dX5_about_96 : decode cX5_about 96 = .ok (.invokevirtual 154, 3) := by decide +kernel
theorem dX5_about_99 : decode cX5_about 99 = .ok (.goto 5, 3) := by decide +kernel
theorem dX5_about_102 : decode cX5_about 102 = .ok (.ldc 99, 2) := by decide +kernel
theorem dX5_about_104 : decode cX5_about 104 = .ok (.ireturn, 1) := by decide +kernel
theorem dX5_about_105 : decode cX5_about 105 = .ok (.aload 4, 2) := by decide +kernel
theorem dX5_about_107 : decode cX5_about 107 = .ok (.iload_n 2, 1) := by decide +kernel
theorem dX5_about_108 : decode cX5_about 108 = .ok (.invokevirtual 151, 3) := by decide +kernel
theorem dX5_about_111 : decode cX5_about 111 = .ok (.ifCond .eq 12, 3) := by decide +kernel
theorem dX5_about_114 : decode cX5_about 114 = .ok (.aload 4, 2) := by decide +kernel
theorem dX5_about_116 : decode cX5_about 116 = .ok (.iload_n 2, 1) := by decide +kernel
theorem dX5_about_117 : decode cX5_about 117 = .ok (.invokevirtual 157, 3) := by decide +kernel
theorem dX5_about_120 : decode cX5_about 120 = .ok (.goto 5, 3) := by decide +kernel
theorem dX5_about_123 : decode cX5_about 123 = .ok (.ldc 99, 2) := by decide +kernel
theorem dX5_about_125 : decode cX5_about 125 = .ok (.ireturn, 1) := by decide +kernel
theorem dX5_about_126 : decode cX5_about 126 = .ok (.ldc 99, 2) := by decide +kernel
theorem dX5_about_128 : decode cX5_about 128 = .ok (.ireturn, 1) := by decide +kernel
set_option maxRecDepth 20000 in
theorem ggX5_count_X5_seriesOf : GoodIn wsX5_count wsX5_seriesOf := goodIn_r _ [6, 7, 8, 9, 10, 11, 12, 13, 14, 15, 16, 17, 18, 19, 20, 21, 22, 23, 24, 25, 26, 27, 28, 29, 30, 31, 188, 189, 190, 191, 192, 193] (by decide +kernel) (by decide +kernel)
set_option maxRecDepth 20000 in
theorem gX5_count_X5_seriesOf : GoodIn wsX5_count (wsV RX5 120 RX5 yX5_seriesOf wsX5_seriesOf) := goodIn_app (goodIn_of _ (by decide +kernel)) ggX5_count_X5_seriesOf
set_option maxRecDepth 20000 in
theorem ggX5_count_X3_points : GoodIn wsX5_count wsX3_points := goodIn_r _ [36, 37, 38, 39, 40, 35, 41, 42, 43, 44, 45, 46, 177, 178, 179, 180, 181, 182, 183, 184, 185, 186, 187] (by decide +kernel) (by decide +kernel)
set_option maxRecDepth 20000 in
theorem gX5_count_X3_points : GoodIn wsX5_count (wsV RX5 160 RX3 yX3_points wsX3_points) := goodIn_app (goodIn_of _ (by decide +kernel)) ggX5_count_X3_points
set_option maxRecDepth 20000 in
theorem ggX5_count_X3_runs : GoodIn wsX5_count wsX3_runs := goodIn_r _ [50, 37, 38, 39, 40, 35, 41, 42, 43, 44, 45, 46, 177, 178, 179, 180, 181, 182, 183, 184, 185, 186, 187] (by decide +kernel) (by decide +kernel)
set_option maxRecDepth 20000 in
theorem gX5_count_X3_runs : GoodIn wsX5_count (wsV RX5 163 RX3 yX3_runs wsX3_runs) := goodIn_app (goodIn_of _ (by decide +kernel)) ggX5_count_X3_runs
set_option maxRecDepth 20000 in
theorem ggX5_count_X3_seenPoints : GoodIn wsX5_count wsX3_seenPoints := goodIn_r _ [54, 37, 55, 56, 57, 35, 58, 59, 60, 61, 62, 63, 38, 39, 40, 41, 42, 43, 44, 45, 46, 64, 65, 66, 67, 68, 69, 70, 71, 72, 73, 74, 75, 76, 77, 78, 79, 80, 81, 82, 177, 178, 179, 180, 181, 182, 183, 184, 185, 186, 187, 194, 195, 196, 197, 198, 199, 200, 201, 202, 203] (by decide +kernel) (by decide +kernel)
set_option maxRecDepth 20000 in
theorem gX5_count_X3_seenPoints : GoodIn wsX5_count (wsV RX5 166 RX3 yX3_seenPoints wsX3_seenPoints) := goodIn_app (goodIn_of _ (by decide +kernel)) ggX5_count_X3_seenPoints
set_option maxRecDepth 20000 in
theorem ggX5_count_X3_cells : GoodIn wsX5_count wsX3_cells := goodIn_r _ [86, 87, 88, 89, 90, 35, 91, 92, 37, 93, 94, 95, 96, 97, 98, 99, 100, 101, 102, 103, 55, 56, 57, 58, 59, 60, 61, 62, 63, 38, 39, 40, 41, 42, 43, 44, 45, 46, 64, 65, 66, 67, 68, 69, 70, 71, 72, 73, 74, 75, 76, 77, 78, 79, 80, 81, 82, 104, 105, 106, 107, 108, 109, 110, 111, 112, 113, 114, 115, 116, 117, 118, 119, 120, 121, 122, 123, 124, 125, 126, 127, 128, 129, 130, 131, 132, 133, 134, 135, 136, 137, 138, 139, 140, 141, 142, 143, 144, 145, 146, 147, 148, 149, 150, 151, 152, 153, 154, 155, 156, 157, 158, 159, 160, 161, 162, 163, 164, 165, 166, 167, 168, 169, 170, 171, 172, 173, 174, 175, 176, 177, 178, 179, 180, 181, 182, 183, 184, 185, 186, 187, 204, 205, 206, 194, 195, 196, 197, 198, 199, 200, 201, 202, 203] (by decide +kernel) (by decide +kernel)
set_option maxRecDepth 20000 in
theorem gX5_count_X3_cells : GoodIn wsX5_count (wsV RX5 169 RX3 yX3_cells wsX3_cells) := goodIn_app (goodIn_of _ (by decide +kernel)) ggX5_count_X3_cells
theorem dX5_count_0 : decode cX5_count 0 = .ok (.aload_n 0, 1) := by decide +kernel
theorem dX5_count_1 : decode cX5_count 1 = .ok (.iload_n 1, 1) := by decide +kernel
theorem dX5_count_2 : decode cX5_count 2 = .ok (.invokevirtual 120, 3) := by decide +kernel
theorem dX5_count_5 : decode cX5_count 5 = .ok (.astore_n 3, 1) := by decide +kernel
theorem dX5_count_6 : decode cX5_count 6 = .ok (.aload_n 3, 1) := by decide +kernel
theorem dX5_count_7 : decode cX5_count 7 = .ok (.ifnonnull 5, 3) := by decide +kernel
theorem dX5_count_10 : decode cX5_count 10 = .ok (.iconst (-1), 1) := by decide +kernel
theorem dX5_count_11 : decode cX5_count 11 = .ok (.ireturn, 1) := by decide +kernel
theorem dX5_count_12 : decode cX5_count 12 = .ok (.iload_n 2, 1) := by decide +kernel
theorem dX5_count_13 : decode cX5_count 13 = .ok (.tableswitch 65 0 4 #[35, 40, 50, 55, 60], 35) := by decide +kernel
theorem dX5_count_48 : decode cX5_count 48 = .ok (.aload_n 3, 1) := by decide +kernel
theorem dX5_count_49 : decode cX5_count 49 = .ok (.getfield 130, 3) := by decide +kernel
theorem dX5_count_52 : decode cX5_count 52 = .ok (.ireturn, 1) := by decide +kernel
theorem dX5_count_53 : decode cX5_count 53 = .ok (.aload_n 3, 1) := by decide +kernel
theorem dX5_count_54 : decode cX5_count 54 = .ok (.getfield 130, 3) := by decide +kernel
theorem dX5_count_57 : decode cX5_count 57 = .ok (.aload_n 3, 1) := by decide +kernel
theorem dX5_count_58 : decode cX5_count 58 = .ok (.invokevirtual 160, 3) := by decide +kernel
theorem dX5_count_61 : decode cX5_count 61 = .ok (.isub, 1) := by decide +kernel
theorem dX5_count_62 : decode cX5_count 62 = .ok (.ireturn, 1) := by decide +kernel
theorem dX5_count_63 : decode cX5_count 63 = .ok (.aload_n 3, 1) := by decide +kernel
theorem dX5_count_64 : decode cX5_count 64 = .ok (.invokevirtual 163, 3) := by decide +kernel
theorem dX5_count_67 : decode cX5_count 67 = .ok (.ireturn, 1) := by decide +kernel
theorem dX5_count_68 : decode cX5_count 68 = .ok (.aload_n 3, 1) := by decide +kernel
theorem dX5_count_69 : decode cX5_count 69 = .ok (.invokevirtual 166, 3) := by decide +kernel
theorem dX5_count_72 : decode cX5_count 72 = .ok (.ireturn, 1) := by decide +kernel
theorem dX5_count_73 : decode cX5_count 73 = .ok (.aload_n 3, 1) := by decide +kernel
theorem dX5_count_74 : decode cX5_count 74 = .ok (.invokevirtual 169, 3) := by decide +kernel
theorem dX5_count_77 : decode cX5_count 77 = .ok (.ireturn, 1) := by decide +kernel
theorem dX5_count_78 : decode cX5_count 78 = .ok (.iconst (-1), 1) := by decide +kernel
theorem dX5_count_79 : decode cX5_count 79 = .ok (.ireturn, 1) := by decide +kernel
set_option maxRecDepth 20000 in
theorem ggX5_five_X5_seriesOf : GoodIn wsX5_five wsX5_seriesOf := goodIn_r _ [6, 7, 8, 9, 10, 11, 12, 13, 14, 15, 16, 17, 18, 19, 20, 21, 22, 23, 24, 25, 26, 27, 28, 29, 30, 31, 60, 61, 62, 63, 64, 65] (by decide +kernel) (by decide +kernel)
set_option maxRecDepth 20000 in
theorem gX5_five_X5_seriesOf : GoodIn wsX5_five (wsV RX5 120 RX5 yX5_seriesOf wsX5_seriesOf) := goodIn_app (goodIn_of _ (by decide +kernel)) ggX5_five_X5_seriesOf
set_option maxRecDepth 20000 in
theorem ggX5_five_X5_within : GoodIn wsX5_five wsX5_within := goodIn_r _ [34] (by decide +kernel) (by decide +kernel)
set_option maxRecDepth 20000 in
theorem gX5_five_X5_within : GoodIn wsX5_five (va_wsS RX5 30 yX5_within wsX5_within) := goodIn_app (goodIn_of _ (by decide +kernel)) ggX5_five_X5_within
set_option maxRecDepth 20000 in
theorem ggX5_five_X3_points : GoodIn wsX5_five wsX3_points := goodIn_r _ [39, 40, 41, 42, 43, 38, 44, 45, 46, 47, 48, 49, 66, 67, 68, 69, 70, 71, 72, 73, 74, 75, 76] (by decide +kernel) (by decide +kernel)
set_option maxRecDepth 20000 in
theorem gX5_five_X3_points : GoodIn wsX5_five (wsV RX5 160 RX3 yX3_points wsX3_points) := goodIn_app (goodIn_of _ (by decide +kernel)) ggX5_five_X3_points
set_option maxRecDepth 20000 in
theorem ggX5_five_X3_heightAtRank : GoodIn wsX5_five wsX3_heightAtRank := goodIn_r _ [53, 40, 54, 55, 41, 42, 43, 38, 44, 45, 46, 47, 48, 49, 56, 57, 58, 59, 66, 67, 68, 69, 70, 71, 72, 73, 74, 75, 76] (by decide +kernel) (by decide +kernel)
set_option maxRecDepth 20000 in
theorem gX5_five_X3_heightAtRank : GoodIn wsX5_five (wsV RX5 172 RX3 yX3_heightAtRank wsX3_heightAtRank) := goodIn_app (goodIn_of _ (by decide +kernel)) ggX5_five_X3_heightAtRank
theorem dX5_five_0 : decode cX5_five 0 = .ok (.aload_n 0, 1) := by decide +kernel
theorem dX5_five_1 : decode cX5_five 1 = .ok (.iload_n 1, 1) := by decide +kernel
theorem dX5_five_2 : decode cX5_five 2 = .ok (.invokevirtual 120, 3) := by decide +kernel
theorem dX5_five_5 : decode cX5_five 5 = .ok (.astore_n 3, 1) := by decide +kernel
theorem dX5_five_6 : decode cX5_five 6 = .ok (.aload_n 3, 1) := by decide +kernel
theorem dX5_five_7 : decode cX5_five 7 = .ok (.ifnull 12, 3) := by decide +kernel
theorem dX5_five_10 : decode cX5_five 10 = .ok (.iload_n 2, 1) := by decide +kernel
theorem dX5_five_11 : decode cX5_five 11 = .ok (.iconst 0, 1) := by decide +kernel
theorem dX5_five_12 : decode cX5_five 12 = .ok (.iconst 4, 1) := by decide +kernel
theorem dX5_five_13 : decode cX5_five 13 = .ok (.invokestatic 30, 3) := by decide +kernel
theorem dX5_five_16 : decode cX5_five 16 = .ok (.ifCond .ne 6, 3) := by decide +kernel
theorem dX5_five_19 : decode cX5_five 19 = .ok (.ldc 99, 2) := by decide +kernel
theorem dX5_five_21 : decode cX5_five 21 = .ok (.ireturn, 1) := by decide +kernel
theorem dX5_five_22 : decode cX5_five 22 = .ok (.aload_n 3, 1) := by decide +kernel
theorem dX5_five_23 : decode cX5_five 23 = .ok (.invokevirtual 160, 3) := by decide +kernel
theorem dX5_five_26 : decode cX5_five 26 = .ok (.istore 4, 2) := by decide +kernel
theorem dX5_five_28 : decode cX5_five 28 = .ok (.iload 4, 2) := by decide +kernel
theorem dX5_five_30 : decode cX5_five 30 = .ok (.ifCond .ne 8, 3) := by decide +kernel
theorem dX5_five_33 : decode cX5_five 33 = .ok (.ldc 99, 2) := by decide +kernel
theorem dX5_five_35 : decode cX5_five 35 = .ok (.goto 15, 3) := by decide +kernel
theorem dX5_five_38 : decode cX5_five 38 = .ok (.aload_n 3, 1) := by decide +kernel
theorem dX5_five_39 : decode cX5_five 39 = .ok (.iload_n 2, 1) := by decide +kernel
theorem dX5_five_40 : decode cX5_five 40 = .ok (.iload 4, 2) := by decide +kernel
theorem dX5_five_42 : decode cX5_five 42 = .ok (.iconst 1, 1) := by decide +kernel
theorem dX5_five_43 : decode cX5_five 43 = .ok (.isub, 1) := by decide +kernel
theorem dX5_five_44 : decode cX5_five 44 = .ok (.imul, 1) := by decide +kernel
theorem dX5_five_45 : decode cX5_five 45 = .ok (.iconst 4, 1) := by decide +kernel
theorem dX5_five_46 : decode cX5_five 46 = .ok (.idiv, 1) := by decide +kernel
theorem dX5_five_47 : decode cX5_five 47 = .ok (.invokevirtual 172, 3) := by decide +kernel
theorem dX5_five_50 : decode cX5_five 50 = .ok (.ireturn, 1) := by decide +kernel
set_option maxRecDepth 20000 in
theorem ggX5_at_X1_has : GoodIn wsX5_at wsX1_has := goodIn_r _ [6, 7, 8, 202, 203, 204, 205] (by decide +kernel) (by decide +kernel)
set_option maxRecDepth 20000 in
theorem gX5_at_X1_has : GoodIn wsX5_at (wsV RX5 175 RX1 yX1_has wsX1_has) := goodIn_app (goodIn_of _ (by decide +kernel)) ggX5_at_X1_has
set_option maxRecDepth 20000 in
theorem ggX5_at_X5_drawStale : GoodIn wsX5_at wsX5_drawStale := goodIn_r _ [13, 14, 15, 16, 17, 18, 19, 20, 21, 22, 23, 24, 25, 26, 27, 28, 29, 30, 31, 32, 33, 34, 35, 36, 37, 38, 39, 40, 41, 42, 43, 44, 45, 46, 47, 48, 49, 50, 51, 52, 53, 54, 55, 56, 57, 58, 59, 60, 61, 62, 63, 64, 65, 66, 67, 68, 69, 70, 71, 72, 73, 74, 75, 76, 77, 78, 79, 80, 81, 82, 83, 84, 85, 86, 87, 88, 89, 90, 91, 92, 93, 94, 95, 96, 97, 98, 99, 100, 101, 102, 103, 104, 105, 106, 107, 108, 109, 110, 111, 112, 113, 114, 115, 116, 5, 117, 118, 119, 120, 121, 8, 122, 123, 124, 125, 7, 126, 127, 128, 129, 130, 131, 132, 133, 134, 135, 136, 137, 138, 139, 140, 141, 142, 143, 144, 145, 146, 147, 148, 149, 150, 151, 152, 153, 154, 155, 156, 157, 158, 159, 160, 199, 200, 201, 206, 207, 208, 209, 210, 211, 212, 213, 214, 215, 216, 217, 218, 219, 220, 221, 222, 202, 203, 204, 205, 223, 224, 225, 226, 227, 228] (by decide +kernel) (by decide +kernel)
set_option maxRecDepth 20000 in
theorem gX5_at_X5_drawStale : GoodIn wsX5_at (wsV RX5 178 RX5 yX5_drawStale wsX5_drawStale) := goodIn_app (goodIn_of _ (by decide +kernel)) ggX5_at_X5_drawStale
set_option maxRecDepth 20000 in
theorem ggX5_at_X5_signOf : GoodIn wsX5_at wsX5_signOf := goodIn_r _ [164, 165, 1, 166, 167, 168, 169, 170, 171, 172, 173, 174, 175, 123, 124, 5, 125, 7, 176, 177, 178, 12, 179, 14, 15, 180, 181, 16, 17, 18, 19, 20, 21, 22, 23, 24, 25, 26, 27, 28, 29, 30, 31, 32, 33, 34, 35, 36, 37, 38, 182, 183, 184, 50, 185, 53, 186, 187, 188, 189, 190, 191, 192, 42, 193, 99, 194, 45, 195, 196, 197, 198, 52, 199, 200, 201, 229, 230, 231, 232, 233, 234, 202, 203, 204, 205, 209, 210, 211, 212, 213, 214, 215, 216, 217, 218, 219, 206, 207, 208, 220, 221, 222] (by decide +kernel) (by decide +kernel)
set_option maxRecDepth 20000 in
theorem gX5_at_X5_signOf : GoodIn wsX5_at (wsV RX5 181 RX5 yX5_signOf wsX5_signOf) := goodIn_app (goodIn_of _ (by decide +kernel)) ggX5_at_X5_signOf
theorem dX5_at_0 : decode cX5_at 0 = .ok (.aload_n 0, 1) := by decide +kernel
theorem dX5_at_1 : decode cX5_at 1 = .ok (.getfield 12, 3) := by decide +kernel
theorem dX5_at_4 : decode cX5_at 4 = .ok (.iload_n 1, 1) := by decide +kernel
theorem dX5_at_5 : decode cX5_at 5 = .ok (.iload_n 2, 1) := by decide +kernel
theorem dX5_at_6 : decode cX5_at 6 = .ok (.invokevirtual 175, 3) := by decide +kernel
theorem dX5_at_9 : decode cX5_at 9 = .ok (.ifCond .ne 5, 3) := by decide +kernel
theorem dX5_at_12 : decode cX5_at 12 = .ok (.iconst (-1), 1) := by decide +kernel
theorem dX5_at_13 : decode cX5_at 13 = .ok (.ireturn, 1) := by decide +kernel
theorem dX5_at_14 : decode cX5_at 14 = .ok (.aload_n 0, 1) := by decide +kernel
theorem dX5_at_15 : decode cX5_at 15 = .ok (.invokevirtual 178, 3) := by decide +kernel
theorem dX5_at_18 : decode cX5_at 18 = .ok (.aload_n 0, 1) := by decide +kernel
theorem dX5_at_19 : decode cX5_at 19 = .ok (.iload_n 1, 1) := by decide +kernel
theorem dX5_at_20 : decode cX5_at 20 = .ok (.iload_n 2, 1) := by decide +kernel
theorem dX5_at_21 : decode cX5_at 21 = .ok (.invokevirtual 181, 3) := by decide +kernel
theorem dX5_at_24 : decode cX5_at 24 = .ok (.ireturn, 1) := by decide +kernel
set_option maxRecDepth 20000 in
theorem ggX5_shown_X1_has : GoodIn wsX5_shown wsX1_has := goodIn_r _ [7, 8, 9, 185, 186, 187, 188] (by decide +kernel) (by decide +kernel)
set_option maxRecDepth 20000 in
theorem gX5_shown_X1_has : GoodIn wsX5_shown (wsV RX5 175 RX1 yX1_has wsX1_has) := goodIn_app (goodIn_of _ (by decide +kernel)) ggX5_shown_X1_has
set_option maxRecDepth 20000 in
theorem ggX5_shown_X0_covering : GoodIn wsX5_shown wsX0_covering := goodIn_r _ [14, 15, 16, 17, 18, 189, 190, 191, 192, 193, 194] (by decide +kernel) (by decide +kernel)
set_option maxRecDepth 20000 in
theorem gX5_shown_X0_covering : GoodIn wsX5_shown (wsV RX5 184 RX0 yX0_covering wsX0_covering) := goodIn_app (goodIn_of _ (by decide +kernel)) ggX5_shown_X0_covering
set_option maxRecDepth 20000 in
theorem ggX5_shown_X5_drawStale : GoodIn wsX5_shown wsX5_drawStale := goodIn_r _ [23, 24, 25, 26, 27, 28, 29, 30, 31, 32, 33, 34, 35, 36, 37, 38, 39, 40, 41, 42, 43, 44, 45, 46, 47, 48, 49, 50, 51, 52, 53, 54, 55, 56, 57, 58, 59, 60, 61, 62, 63, 64, 65, 66, 67, 68, 69, 70, 71, 72, 73, 74, 75, 76, 77, 78, 79, 80, 81, 82, 83, 84, 85, 86, 87, 88, 89, 90, 91, 92, 93, 94, 95, 96, 97, 98, 99, 100, 101, 102, 103, 104, 105, 106, 107, 108, 109, 110, 111, 112, 113, 114, 115, 116, 117, 118, 119, 120, 121, 122, 123, 124, 125, 126, 6, 127, 128, 129, 130, 131, 9, 132, 133, 134, 135, 8, 136, 137, 138, 139, 140, 141, 142, 143, 144, 145, 146, 147, 148, 149, 150, 151, 152, 153, 154, 155, 156, 157, 158, 159, 160, 161, 162, 163, 164, 165, 166, 167, 168, 169, 170, 182, 183, 184, 195, 196, 197, 198, 199, 200, 201, 202, 203, 204, 205, 206, 207, 208, 209, 210, 211, 185, 186, 187, 188, 212, 213, 214, 215, 216, 217] (by decide +kernel) (by decide +kernel)
set_option maxRecDepth 20000 in
theorem gX5_shown_X5_drawStale : GoodIn wsX5_shown (wsV RX5 178 RX5 yX5_drawStale wsX5_drawStale) := goodIn_app (goodIn_of _ (by decide +kernel)) ggX5_shown_X5_drawStale
set_option maxRecDepth 20000 in
theorem ggX5_shown_X1_cellAt : GoodIn wsX5_shown wsX1_cellAt := goodIn_r _ [135, 8, 185, 186, 187, 188] (by decide +kernel) (by decide +kernel)
set_option maxRecDepth 20000 in
theorem gX5_shown_X1_cellAt : GoodIn wsX5_shown (wsV RX5 187 RX1 yX1_cellAt wsX1_cellAt) := goodIn_app (goodIn_of _ (by decide +kernel)) ggX5_shown_X1_cellAt
set_option maxRecDepth 20000 in
theorem ggX5_shown_X5_latestIn : GoodIn wsX5_shown wsX5_latestIn := goodIn_r _ [175, 24, 25, 176, 177, 26, 27, 28, 29, 30, 31, 32, 33, 34, 35, 36, 37, 38, 39, 40, 41, 42, 43, 44, 45, 46, 47, 48, 178, 179, 180, 60, 181, 63, 182, 183, 184, 198, 199, 200, 201, 202, 203, 204, 205, 206, 207, 208, 195, 196, 197, 209, 210, 211] (by decide +kernel) (by decide +kernel)
set_option maxRecDepth 20000 in
theorem gX5_shown_X5_latestIn : GoodIn wsX5_shown (wsV RX5 190 RX5 yX5_latestIn wsX5_latestIn) := goodIn_app (goodIn_of _ (by decide +kernel)) ggX5_shown_X5_latestIn
theorem dX5_shown_0 : decode cX5_shown 0 = .ok (.aload_n 0, 1) := by decide +kernel
theorem dX5_shown_1 : decode cX5_shown 1 = .ok (.getfield 12, 3) := by decide +kernel
theorem dX5_shown_4 : decode cX5_shown 4 = .ok (.iload_n 1, 1) := by decide +kernel
theorem dX5_shown_5 : decode cX5_shown 5 = .ok (.iload_n 2, 1) := by decide +kernel
theorem dX5_shown_6 : decode cX5_shown 6 = .ok (.invokevirtual 175, 3) := by decide +kernel
theorem dX5_shown_9 : decode cX5_shown 9 = .ok (.ifCond .ne 5, 3) := by decide +kernel
theorem dX5_shown_12 : decode cX5_shown 12 = .ok (.iconst (-1), 1) := by decide +kernel
theorem dX5_shown_13 : decode cX5_shown 13 = .ok (.ireturn, 1) := by decide +kernel
theorem dX5_shown_14 : decode cX5_shown 14 = .ok (.aload_n 0, 1) := by decide +kernel
theorem dX5_shown_15 : decode cX5_shown 15 = .ok (.getfield 26, 3) := by decide +kernel
theorem dX5_shown_18 : decode cX5_shown 18 = .ok (.iload_n 1, 1) := by decide +kernel
theorem dX5_shown_19 : decode cX5_shown 19 = .ok (.iload_n 2, 1) := by decide +kernel
theorem dX5_shown_20 : decode cX5_shown 20 = .ok (.invokevirtual 184, 3) := by decide +kernel
theorem dX5_shown_23 : decode cX5_shown 23 = .ok (.istore_n 3, 1) := by decide +kernel
theorem dX5_shown_24 : decode cX5_shown 24 = .ok (.iload_n 3, 1) := by decide +kernel
theorem dX5_shown_25 : decode cX5_shown 25 = .ok (.bipush (-9), 2) := by decide +kernel
theorem dX5_shown_27 : decode cX5_shown 27 = .ok (.if_icmp .eq 8, 3) := by decide +kernel
theorem dX5_shown_30 : decode cX5_shown 30 = .ok (.bipush 10, 2) := by decide +kernel
theorem dX5_shown_32 : decode cX5_shown 32 = .ok (.iload_n 3, 1) := by decide +kernel
theorem dX5_shown_33 : decode cX5_shown 33 = .ok (.iadd, 1) := by decide +kernel
theorem dX5_shown_34 : decode cX5_shown 34 = .ok (.ireturn, 1) := by decide +kernel
theorem dX5_shown_35 : decode cX5_shown 35 = .ok (.aload_n 0, 1) := by decide +kernel
theorem dX5_shown_36 : decode cX5_shown 36 = .ok (.invokevirtual 178, 3) := by decide +kernel
theorem dX5_shown_39 : decode cX5_shown 39 = .ok (.aload_n 0, 1) := by decide +kernel
theorem dX5_shown_40 : decode cX5_shown 40 = .ok (.aload_n 0, 1) := by decide +kernel
theorem dX5_shown_41 : decode cX5_shown 41 = .ok (.getfield 12, 3) := by decide +kernel
theorem dX5_shown_44 : decode cX5_shown 44 = .ok (.iload_n 1, 1) := by decide +kernel
theorem dX5_shown_45 : decode cX5_shown 45 = .ok (.iload_n 2, 1) := by decide +kernel
theorem dX5_shown_46 : decode cX5_shown 46 = .ok (.invokevirtual 187, 3) := by decide +kernel
theorem dX5_shown_49 : decode cX5_shown 49 = .ok (.invokevirtual 190, 3) := by decide +kernel
theorem dX5_shown_52 : decode cX5_shown 52 = .ok (.ireturn, 1) := by decide +kernel
set_option maxRecDepth 20000 in
theorem ggX5_hit_X1_has : GoodIn wsX5_hit wsX1_has := goodIn_r _ [10, 11, 12, 192, 193, 194, 195] (by decide +kernel) (by decide +kernel)
set_option maxRecDepth 20000 in
theorem gX5_hit_X1_has : GoodIn wsX5_hit (wsV RX5 175 RX1 yX1_has wsX1_has) := goodIn_app (goodIn_of _ (by decide +kernel)) ggX5_hit_X1_has
set_option maxRecDepth 20000 in
theorem ggX5_hit_X5_drawStale : GoodIn wsX5_hit wsX5_drawStale := goodIn_r _ [17, 2, 3, 18, 19, 20, 21, 22, 23, 24, 25, 26, 27, 28, 29, 30, 31, 32, 33, 34, 35, 36, 37, 38, 39, 40, 41, 42, 43, 44, 45, 46, 47, 48, 49, 50, 51, 52, 53, 54, 55, 56, 57, 58, 59, 60, 61, 62, 63, 64, 65, 66, 67, 68, 69, 70, 71, 72, 73, 74, 75, 76, 77, 78, 79, 80, 81, 82, 83, 84, 85, 86, 87, 88, 89, 90, 91, 92, 93, 94, 95, 96, 97, 98, 99, 100, 101, 102, 103, 104, 105, 106, 107, 108, 109, 110, 111, 112, 113, 114, 115, 116, 117, 118, 9, 119, 120, 121, 122, 123, 12, 124, 125, 126, 127, 11, 128, 129, 130, 131, 132, 133, 134, 135, 136, 137, 138, 139, 140, 141, 142, 143, 144, 145, 146, 147, 148, 149, 150, 151, 152, 153, 154, 155, 156, 157, 158, 159, 160, 161, 162, 178, 179, 180, 196, 197, 198, 181, 182, 183, 184, 185, 186, 187, 188, 189, 190, 191, 199, 200, 201, 192, 193, 194, 195, 202, 203, 204, 205, 206, 207] (by decide +kernel) (by decide +kernel)
set_option maxRecDepth 20000 in
theorem gX5_hit_X5_drawStale : GoodIn wsX5_hit (wsV RX5 178 RX5 yX5_drawStale wsX5_drawStale) := goodIn_app (goodIn_of _ (by decide +kernel)) ggX5_hit_X5_drawStale
set_option maxRecDepth 20000 in
theorem ggX5_hit_X1_cellAt : GoodIn wsX5_hit wsX1_cellAt := goodIn_r _ [127, 11, 192, 193, 194, 195] (by decide +kernel) (by decide +kernel)
set_option maxRecDepth 20000 in
theorem gX5_hit_X1_cellAt : GoodIn wsX5_hit (wsV RX5 187 RX1 yX1_cellAt wsX1_cellAt) := goodIn_app (goodIn_of _ (by decide +kernel)) ggX5_hit_X1_cellAt
set_option maxRecDepth 20000 in
theorem ggX5_hit_Jx4a65c_size_8abf5 : GoodIn wsX5_hit wsJx4a65c_size_8abf5 := goodIn_r _ [22, 23, 196, 197, 198] (by decide +kernel) (by decide +kernel)
set_option maxRecDepth 20000 in
theorem gX5_hit_Jx4a65c_size_8abf5 : GoodIn wsX5_hit (wsV RX5 71 RJx4a65c yJx4a65c_size_8abf5 wsJx4a65c_size_8abf5) := goodIn_app (goodIn_of _ (by decide +kernel)) ggX5_hit_Jx4a65c_size_8abf5
set_option maxRecDepth 20000 in
theorem ggX5_hit_Jx4a65c_get_915e3 : GoodIn wsX5_hit wsJx4a65c_get_915e3 := goodIn_r _ [27, 23, 28, 29, 30, 31, 32, 33, 34, 35, 36, 37, 38, 21, 39, 40, 196, 197, 198] (by decide +kernel) (by decide +kernel)
set_option maxRecDepth 20000 in
theorem gX5_hit_Jx4a65c_get_915e3 : GoodIn wsX5_hit (wsV RX5 74 RJx4a65c yJx4a65c_get_915e3 wsJx4a65c_get_915e3) := goodIn_app (goodIn_of _ (by decide +kernel)) ggX5_hit_Jx4a65c_get_915e3
set_option maxRecDepth 20000 in
theorem ggX5_hit_X4_hitsIn : GoodIn wsX5_hit wsX4_hitsIn := goodIn_r _ [167, 55, 199, 200, 201] (by decide +kernel) (by decide +kernel)
set_option maxRecDepth 20000 in
theorem gX5_hit_X4_hitsIn : GoodIn wsX5_hit (wsV RX5 200 RX4 yX4_hitsIn wsX4_hitsIn) := goodIn_app (goodIn_of _ (by decide +kernel)) ggX5_hit_X4_hitsIn
set_option maxRecDepth 20000 in
theorem ggX5_hit_J6_bitCount_0f7a4 : GoodIn wsX5_hit wsJ6_bitCount_0f7a4 := goodIn_r _ [171, 172, 173, 174] (by decide +kernel) (by decide +kernel)
set_option maxRecDepth 20000 in
theorem gX5_hit_J6_bitCount_0f7a4 : GoodIn wsX5_hit (va_wsS RX5 205 yJ6_bitCount_0f7a4 wsJ6_bitCount_0f7a4) := goodIn_app (goodIn_of _ (by decide +kernel)) ggX5_hit_J6_bitCount_0f7a4
set_option maxRecDepth 20000 in
theorem ggX5_hit_X5_bitFromTop : GoodIn wsX5_hit wsX5_bitFromTop := goodIn_r _ [177] (by decide +kernel) (by decide +kernel)
set_option maxRecDepth 20000 in
theorem gX5_hit_X5_bitFromTop : GoodIn wsX5_hit (va_wsS RX5 210 yX5_bitFromTop wsX5_bitFromTop) := goodIn_app (goodIn_of _ (by decide +kernel)) ggX5_hit_X5_bitFromTop
theorem dX5_hit_0 : decode cX5_hit 0 = .ok (.aload_n 0, 1) := by decide +kernel
theorem dX5_hit_1 : decode cX5_hit 1 = .ok (.getfield 12, 3) := by decide +kernel
theorem dX5_hit_4 : decode cX5_hit 4 = .ok (.iload_n 1, 1) := by decide +kernel
theorem dX5_hit_5 : decode cX5_hit 5 = .ok (.iload_n 2, 1) := by decide +kernel
theorem dX5_hit_6 : decode cX5_hit 6 = .ok (.invokevirtual 175, 3) := by decide +kernel
theorem dX5_hit_9 : decode cX5_hit 9 = .ok (.ifCond .eq 7, 3) := by decide +kernel
theorem dX5_hit_12 : decode cX5_hit 12 = .ok (.iload_n 3, 1) := by decide +kernel
theorem dX5_hit_13 : decode cX5_hit 13 = .ok (.ifCond .ge 5, 3) := by decide +kernel
theorem dX5_hit_16 : decode cX5_hit 16 = .ok (.iconst (-1), 1) := by decide +kernel
theorem dX5_hit_17 : decode cX5_hit 17 = .ok (.ireturn, 1) := by decide +kernel
theorem dX5_hit_18 : decode cX5_hit 18 = .ok (.aload_n 0, 1) := by decide +kernel
theorem dX5_hit_19 : decode cX5_hit 19 = .ok (.invokevirtual 178, 3) := by decide +kernel
theorem dX5_hit_22 : decode cX5_hit 22 = .ok (.aload_n 0, 1) := by decide +kernel
theorem dX5_hit_23 : decode cX5_hit 23 = .ok (.getfield 12, 3) := by decide +kernel
theorem dX5_hit_26 : decode cX5_hit 26 = .ok (.iload_n 1, 1) := by decide +kernel
theorem dX5_hit_27 : decode cX5_hit 27 = .ok (.iload_n 2, 1) := by decide +kernel
theorem dX5_hit_28 : decode cX5_hit 28 = .ok (.invokevirtual 187, 3) := by decide +kernel
theorem dX5_hit_31 : decode cX5_hit 31 = .ok (.istore 4, 2) := by decide +kernel
theorem dX5_hit_33 : decode cX5_hit 33 = .ok (.iload_n 3, 1) := by decide +kernel
theorem dX5_hit_34 : decode cX5_hit 34 = .ok (.istore 5, 2) := by decide +kernel
theorem dX5_hit_36 : decode cX5_hit 36 = .ok (.bipush 9, 2) := by decide +kernel
theorem dX5_hit_38 : decode cX5_hit 38 = .ok (.istore 6, 2) := by decide +kernel
theorem dX5_hit_40 : decode cX5_hit 40 = .ok (.iload 6, 2) := by decide +kernel
theorem dX5_hit_42 : decode cX5_hit 42 = .ok (.ifCond .lt 105, 3) := by decide +kernel
theorem dX5_hit_45 : decode cX5_hit 45 = .ok (.aload_n 0, 1) := by decide +kernel
theorem dX5_hit_46 : decode cX5_hit 46 = .ok (.getfield 19, 3) := by decide +kernel
theorem dX5_hit_49 : decode cX5_hit 49 = .ok (.invokevirtual 71, 3) := by decide +kernel
theorem dX5_hit_52 : decode cX5_hit 52 = .ok (.iconst 1, 1) := by decide +kernel
theorem dX5_hit_53 : decode cX5_hit 53 = .ok (.isub, 1) := by decide +kernel
theorem dX5_hit_54 : decode cX5_hit 54 = .ok (.istore 7, 2) := by decide +kernel
theorem dX5_hit_56 : decode cX5_hit 56 = .ok (.iload 7, 2) := by decide +kernel
theorem dX5_hit_58 : decode cX5_hit 58 = .ok (.ifCond .lt 83, 3) := by decide +kernel
theorem dX5_hit_61 : decode cX5_hit 61 = .ok (.aload_n 0, 1) := by decide +kernel
theorem dX5_hit_62 : decode cX5_hit 62 = .ok (.getfield 19, 3) := by decide +kernel
theorem dX5_hit_65 : decode cX5_hit 65 = .ok (.iload 7, 2) := by decide +kernel
theorem dX5_hit_67 : decode cX5_hit 67 = .ok (.invokevirtual 74, 3) := by decide +kernel
theorem dX5_hit_70 : decode cX5_hit 70 = .ok (.checkcast 78, 3) := by decide +kernel
theorem dX5_hit_73 : decode cX5_hit 73 = .ok (.astore 8, 2) := by decide +kernel
theorem dX5_hit_75 : decode cX5_hit 75 = .ok (.aload 8, 2) := by decide +kernel
theorem dX5_hit_77 : decode cX5_hit 77 = .ok (.getfield 193, 3) := by decide +kernel
theorem dX5_hit_80 : decode cX5_hit 80 = .ok (.iload 6, 2) := by decide +kernel
theorem dX5_hit_82 : decode cX5_hit 82 = .ok (.if_icmp .eq 6, 3) := by decide +kernel
theorem dX5_hit_85 : decode cX5_hit 85 = .ok (.goto 50, 3) := by decide +kernel
theorem dX5_hit_88 : decode cX5_hit 88 = .ok (.aload 8, 2) := by decide +kernel
theorem dX5_hit_90 : decode cX5_hit 90 = .ok (.getfield 196, 3) := by decide +kernel
theorem dX5_hit_93 : decode cX5_hit 93 = .ok (.iload 4, 2) := by decide +kernel
theorem dX5_hit_95 : decode cX5_hit 95 = .ok (.invokevirtual 200, 3) := by decide +kernel
theorem dX5_hit_98 : decode cX5_hit 98 = .ok (.istore 9, 2) := by decide +kernel
theorem dX5_hit_100 : decode cX5_hit 100 = .ok (.iload 9, 2) := by decide +kernel
theorem dX5_hit_102 : decode cX5_hit 102 = .ok (.invokestatic 205, 3) := by decide +kernel
theorem dX5_hit_105 : decode cX5_hit 105 = .ok (.istore 10, 2) := by decide +kernel
theorem dX5_hit_107 : decode cX5_hit 107 = .ok (.iload 5, 2) := by decide +kernel
theorem dX5_hit_109 : decode cX5_hit 109 = .ok (.iload 10, 2) := by decide +kernel
theorem dX5_hit_111 : decode cX5_hit 111 = .ok (.if_icmp .ge 17, 3) := by decide +kernel
theorem dX5_hit_114 : decode cX5_hit 114 = .ok (.bipush 100, 2) := by decide +kernel
theorem dX5_hit_116 : decode cX5_hit 116 = .ok (.iload 7, 2) := by decide +kernel
theorem dX5_hit_118 : decode cX5_hit 118 = .ok (.imul, 1) := by decide +kernel
theorem dX5_hit_119 : decode cX5_hit 119 = .ok (.iload 9, 2) := by decide +kernel
theorem dX5_hit_121 : decode cX5_hit 121 = .ok (.iload 5, 2) := by decide +kernel
theorem dX5_hit_123 : decode cX5_hit 123 = .ok (.invokestatic 210, 3) := by decide +kernel
theorem dX5_hit_126 : decode cX5_hit 126 = .ok (.iadd, 1) := by decide +kernel
theorem dX5_hit_127 : decode cX5_hit 127 = .ok (.ireturn, 1) := by decide +kernel
theorem dX5_hit_128 : decode cX5_hit 128 = .ok (.iload 5, 2) := by decide +kernel
theorem dX5_hit_130 : decode cX5_hit 130 = .ok (.iload 10, 2) := by decide +kernel
theorem dX5_hit_132 : decode cX5_hit 132 = .ok (.isub, 1) := by decide +kernel
theorem dX5_hit_133 : decode cX5_hit 133 = .ok (.istore 5, 2) := by decide +kernel
theorem dX5_hit_135 : decode cX5_hit 135 = .ok (.iinc 7 (-1), 3) := by decide +kernel
theorem dX5_hit_138 : decode cX5_hit 138 = .ok (.goto (-82), 3) := by decide +kernel
theorem dX5_hit_141 : decode cX5_hit 141 = .ok (.iinc 6 (-1), 3) := by decide +kernel
theorem dX5_hit_144 : decode cX5_hit 144 = .ok (.goto (-104), 3) := by decide +kernel
theorem dX5_hit_147 : decode cX5_hit 147 = .ok (.bipush (-9), 2) := by decide +kernel
theorem dX5_hit_149 : decode cX5_hit 149 = .ok (.ireturn, 1) := by decide +kernel
set_option maxRecDepth 20000 in
theorem ggX5_inked_X5_drawStale : GoodIn wsX5_inked wsX5_drawStale := goodIn_r _ [8, 9, 10, 11, 12, 13, 14, 15, 16, 17, 18, 19, 20, 21, 22, 23, 24, 25, 26, 27, 28, 29, 30, 31, 32, 33, 34, 35, 36, 37, 38, 39, 40, 41, 42, 43, 44, 45, 46, 47, 48, 49, 50, 51, 52, 53, 54, 55, 56, 57, 58, 59, 60, 61, 62, 63, 64, 65, 66, 67, 68, 69, 70, 71, 72, 73, 74, 75, 76, 77, 78, 79, 80, 81, 82, 83, 84, 85, 86, 87, 88, 89, 90, 91, 92, 93, 94, 95, 96, 97, 98, 99, 100, 101, 102, 103, 104, 105, 106, 107, 108, 109, 110, 111, 112, 113, 114, 115, 116, 117, 118, 119, 120, 121, 122, 123, 124, 125, 126, 127, 128, 129, 130, 131, 132, 133, 134, 135, 136, 137, 138, 139, 140, 141, 142, 143, 144, 145, 146, 147, 148, 149, 150, 151, 152, 153, 154, 155, 156, 157, 158, 188, 189, 190, 195, 196, 197, 198, 199, 200, 201, 202, 203, 204, 205, 206, 207, 208, 209, 210, 211, 191, 192, 193, 194, 212, 213, 214, 215, 216, 217] (by decide +kernel) (by decide +kernel)
set_option maxRecDepth 20000 in
theorem gX5_inked_X5_drawStale : GoodIn wsX5_inked (wsV RX5 178 RX5 yX5_drawStale wsX5_drawStale) := goodIn_app (goodIn_of _ (by decide +kernel)) ggX5_inked_X5_drawStale
set_option maxRecDepth 20000 in
theorem ggX5_inked_X5_coveredWithin : GoodIn wsX5_inked wsX5_coveredWithin := goodIn_r _ [162, 163, 164, 165, 7, 166, 167, 1, 168, 169, 170, 171, 172, 173, 174, 175, 176, 177, 120, 121, 112, 122, 123, 178, 179, 180, 181, 9, 10, 182, 183, 11, 12, 13, 14, 15, 16, 17, 18, 19, 20, 21, 22, 23, 24, 25, 26, 27, 28, 29, 30, 31, 32, 33, 184, 185, 186, 45, 187, 48, 188, 189, 190, 218, 219, 220, 221, 222, 223, 191, 192, 193, 194, 198, 199, 200, 201, 202, 203, 204, 205, 206, 207, 208, 195, 196, 197, 209, 210, 211] (by decide +kernel) (by decide +kernel)
set_option maxRecDepth 20000 in
theorem gX5_inked_X5_coveredWithin : GoodIn wsX5_inked (wsV RX5 219 RX5 yX5_coveredWithin wsX5_coveredWithin) := goodIn_app (goodIn_of _ (by decide +kernel)) ggX5_inked_X5_coveredWithin
