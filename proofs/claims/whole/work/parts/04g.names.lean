theorem dX6_isSeries_11 : decode cX6_isSeries 11 = .ok (.ireturn, 1) := by decide +kernel
set_option maxRecDepth 20000 in
theorem ggX6_isStyle_X6_in : GoodIn wsX6_isStyle wsX6_in := goodIn_r _ [4] (by decide +kernel) (by decide +kernel)
set_option maxRecDepth 20000 in
theorem gX6_isStyle_X6_in : GoodIn wsX6_isStyle (va_wsS RX6 86 yX6_in wsX6_in) := goodIn_app (goodIn_of _ (by decide +kernel)) ggX6_isStyle_X6_in
theorem dX6_isStyle_0 : decode cX6_isStyle 0 = .ok (.iload_n 0, 1) := by decide +kernel
theorem dX6_isStyle_1 : decode cX6_isStyle 1 = .ok (.ifCond .ne 12, 3) := by decide +kernel
theorem dX6_isStyle_4 : decode cX6_isStyle 4 = .ok (.iload_n 1, 1) := by decide +kernel
theorem dX6_isStyle_5 : decode cX6_isStyle 5 = .ok (.iconst 0, 1) := by decide +kernel
theorem dX6_isStyle_6 : decode cX6_isStyle 6 = .ok (.iconst 4, 1) := by decide +kernel
theorem dX6_isStyle_7 : decode cX6_isStyle 7 = .ok (.invokestatic 86, 3) := by decide +kernel
theorem dX6_isStyle_10 : decode cX6_isStyle 10 = .ok (.goto 39, 3) := by decide +kernel
theorem dX6_isStyle_13 : decode cX6_isStyle 13 = .ok (.iload_n 0, 1) := by decide +kernel
theorem dX6_isStyle_14 : decode cX6_isStyle 14 = .ok (.iconst 1, 1) := by decide +kernel
theorem dX6_isStyle_15 : decode cX6_isStyle 15 = .ok (.if_icmp .ne 13, 3) := by decide +kernel
theorem dX6_isStyle_18 : decode cX6_isStyle 18 = .ok (.iload_n 1, 1) := by decide +kernel
theorem dX6_isStyle_19 : decode cX6_isStyle 19 = .ok (.iconst 0, 1) := by decide +kernel
theorem dX6_isStyle_20 : decode cX6_isStyle 20 = .ok (.bipush 9, 2) := by decide +kernel
theorem dX6_isStyle_22 : decode cX6_isStyle 22 = .ok (.invokestatic 86, 3) := by decide +kernel
theorem dX6_isStyle_25 : decode cX6_isStyle 25 = .ok (.goto 24, 3) := by decide +kernel
theorem dX6_isStyle_28 : decode cX6_isStyle 28 = .ok (.iload_n 0, 1) := by decide +kernel
theorem dX6_isStyle_29 : decode cX6_isStyle 29 = .ok (.iconst 2, 1) := by decide +kernel
theorem dX6_isStyle_30 : decode cX6_isStyle 30 = .ok (.if_icmp .ne 18, 3) := by decide +kernel
theorem dX6_isStyle_33 : decode cX6_isStyle 33 = .ok (.iload_n 1, 1) := by decide +kernel
theorem dX6_isStyle_34 : decode cX6_isStyle 34 = .ok (.bipush 33, 2) := by decide +kernel
theorem dX6_isStyle_36 : decode cX6_isStyle 36 = .ok (.bipush 126, 2) := by decide +kernel
theorem dX6_isStyle_38 : decode cX6_isStyle 38 = .ok (.invokestatic 86, 3) := by decide +kernel
theorem dX6_isStyle_41 : decode cX6_isStyle 41 = .ok (.ifCond .eq 7, 3) := by decide +kernel
theorem dX6_isStyle_44 : decode cX6_isStyle 44 = .ok (.iconst 1, 1) := by decide +kernel
theorem dX6_isStyle_45 : decode cX6_isStyle 45 = .ok (.goto 4, 3) := by decide +kernel
theorem dX6_isStyle_48 : decode cX6_isStyle 48 = .ok (.iconst 0, 1) := by decide +kernel
theorem dX6_isStyle_49 : decode cX6_isStyle 49 = .ok (.ireturn, 1) := by decide +kernel
set_option maxRecDepth 20000 in
theorem ggX6_series_X6_isStyle : GoodIn wsX6_series wsX6_isStyle := goodIn_r _ [10, 11, 12, 9, 13] (by decide +kernel) (by decide +kernel)
set_option maxRecDepth 20000 in
theorem gX6_series_X6_isStyle : GoodIn wsX6_series (va_wsS RX6 148 yX6_isStyle wsX6_isStyle) := goodIn_app (goodIn_of _ (by decide +kernel)) ggX6_series_X6_isStyle
theorem dX6_series_0 : decode cX6_series 0 = .ok (.iconst 0, 1) := by decide +kernel
theorem dX6_series_1 : decode cX6_series 1 = .ok (.iload_n 1, 1) := by decide +kernel
theorem dX6_series_2 : decode cX6_series 2 = .ok (.invokestatic 148, 3) := by decide +kernel
theorem dX6_series_5 : decode cX6_series 5 = .ok (.ifCond .eq 19, 3) := by decide +kernel
theorem dX6_series_8 : decode cX6_series 8 = .ok (.iconst 1, 1) := by decide +kernel
theorem dX6_series_9 : decode cX6_series 9 = .ok (.iload_n 2, 1) := by decide +kernel
theorem dX6_series_10 : decode cX6_series 10 = .ok (.invokestatic 148, 3) := by decide +kernel
theorem dX6_series_13 : decode cX6_series 13 = .ok (.ifCond .eq 11, 3) := by decide +kernel
theorem dX6_series_16 : decode cX6_series 16 = .ok (.iconst 2, 1) := by decide +kernel
theorem dX6_series_17 : decode cX6_series 17 = .ok (.iload_n 3, 1) := by decide +kernel
theorem dX6_series_18 : decode cX6_series 18 = .ok (.invokestatic 148, 3) := by decide +kernel
theorem dX6_series_21 : decode cX6_series 21 = .ok (.ifCond .ne 5, 3) := by decide +kernel
theorem dX6_series_24 : decode cX6_series 24 = .ok (.iconst (-1), 1) := by decide +kernel
theorem dX6_series_25 : decode cX6_series 25 = .ok (.ireturn, 1) := by decide +kernel
theorem dX6_series_26 : decode cX6_series 26 = .ok (.aload_n 0, 1) := by decide +kernel
theorem dX6_series_27 : decode cX6_series 27 = .ok (.getfield 81, 3) := by decide +kernel
theorem dX6_series_30 : decode cX6_series 30 = .ok (.bipush 6, 2) := by decide +kernel
theorem dX6_series_32 : decode cX6_series 32 = .ok (.if_icmp .ne 6, 3) := by decide +kernel
theorem dX6_series_35 : decode cX6_series 35 = .ok (.bipush (-3), 2) := by decide +kernel
theorem dX6_series_37 : decode cX6_series 37 = .ok (.ireturn, 1) := by decide +kernel
theorem dX6_series_38 : decode cX6_series 38 = .ok (.aload_n 0, 1) := by decide +kernel
theorem dX6_series_39 : decode cX6_series 39 = .ok (.getfield 32, 3) := by decide +kernel
theorem dX6_series_42 : decode cX6_series 42 = .ok (.aload_n 0, 1) := by decide +kernel
theorem dX6_series_43 : decode cX6_series 43 = .ok (.getfield 81, 3) := by decide +kernel
theorem dX6_series_46 : decode cX6_series 46 = .ok (.iload_n 1, 1) := by decide +kernel
theorem dX6_series_47 : decode cX6_series 47 = .ok (.iastore, 1) := by decide +kernel
theorem dX6_series_48 : decode cX6_series 48 = .ok (.aload_n 0, 1) := by decide +kernel
theorem dX6_series_49 : decode cX6_series 49 = .ok (.getfield 35, 3) := by decide +kernel
theorem dX6_series_52 : decode cX6_series 52 = .ok (.aload_n 0, 1) := by decide +kernel
theorem dX6_series_53 : decode cX6_series 53 = .ok (.getfield 81, 3) := by decide +kernel
theorem dX6_series_56 : decode cX6_series 56 = .ok (.iload_n 2, 1) := by decide +kernel
theorem dX6_series_57 : decode cX6_series 57 = .ok (.iastore, 1) := by decide +kernel
theorem dX6_series_58 : decode cX6_series 58 = .ok (.aload_n 0, 1) := by decide +kernel
theorem dX6_series_59 : decode cX6_series 59 = .ok (.getfield 38, 3) := by decide +kernel
theorem dX6_series_62 : decode cX6_series 62 = .ok (.aload_n 0, 1) := by decide +kernel
theorem dX6_series_63 : decode cX6_series 63 = .ok (.getfield 81, 3) := by decide +kernel
theorem dX6_series_66 : decode cX6_series 66 = .ok (.iload_n 3, 1) := by decide +kernel
theorem dX6_series_67 : decode cX6_series 67 = .ok (.iastore, 1) := by decide +kernel
theorem dX6_series_68 : decode cX6_series 68 = .ok (.aload_n 0, 1) := by decide +kernel
theorem dX6_series_69 : decode cX6_series 69 = .ok (.getfield 41, 3) := by decide +kernel
theorem dX6_series_72 : decode cX6_series 72 = .ok (.aload_n 0, 1) := by decide +kernel
theorem dX6_series_73 : decode cX6_series 73 = .ok (.getfield 81, 3) := by decide +kernel
theorem dX6_series_76 : decode cX6_series 76 = .ok (.iconst 0, 1) := by decide +kernel
theorem dX6_series_77 : decode cX6_series 77 = .ok (.iastore, 1) := by decide +kernel
theorem dX6_series_78 : decode cX6_series 78 = .ok (.aload_n 0, 1) := by decide +kernel
theorem dX6_series_79 : decode cX6_series 79 = .ok (.dup, 1) := by decide +kernel
theorem dX6_series_80 : decode cX6_series 80 = .ok (.getfield 81, 3) := by decide +kernel
theorem dX6_series_83 : decode cX6_series 83 = .ok (.iconst 1, 1) := by decide +kernel
theorem dX6_series_84 : decode cX6_series 84 = .ok (.iadd, 1) := by decide +kernel
theorem dX6_series_85 : decode cX6_series 85 = .ok (.putfield 81, 3) := by decide +kernel
theorem dX6_series_88 : decode cX6_series 88 = .ok (.aload_n 0, 1) := by decide +kernel
theorem dX6_series_89 : decode cX6_series 89 = .ok (.iconst 0, 1) := by decide +kernel
theorem dX6_series_90 : decode cX6_series 90 = .ok (.putfield 93, 3) := by decide +kernel
theorem dX6_series_93 : decode cX6_series 93 = .ok (.aload_n 0, 1) := by decide +kernel
theorem dX6_series_94 : decode cX6_series 94 = .ok (.getfield 81, 3) := by decide +kernel
theorem dX6_series_97 : decode cX6_series 97 = .ok (.iconst 1, 1) := by decide +kernel
theorem dX6_series_98 : decode cX6_series 98 = .ok (.isub, 1) := by decide +kernel
theorem dX6_series_99 : decode cX6_series 99 = .ok (.ireturn, 1) := by decide +kernel
set_option maxRecDepth 20000 in
theorem ggX6_style_X6_isSeries : GoodIn wsX6_style wsX6_isSeries := goodIn_r _ [9, 10, 11, 12, 8, 13, 17, 18, 19, 20, 21, 22, 23, 24, 25, 26, 27, 28, 29, 30, 31, 32, 33, 34, 35, 36, 37, 38, 39, 40, 41, 42] (by decide +kernel) (by decide +kernel)
set_option maxRecDepth 20000 in
theorem gX6_style_X6_isSeries : GoodIn wsX6_style (wsV RX6 151 RX6 yX6_isSeries wsX6_isSeries) := goodIn_app (goodIn_of _ (by decide +kernel)) ggX6_style_X6_isSeries
set_option maxRecDepth 20000 in
theorem ggX6_style_X6_isStyle : GoodIn wsX6_style wsX6_isStyle := goodIn_r _ [16, 11, 12, 8, 13] (by decide +kernel) (by decide +kernel)
set_option maxRecDepth 20000 in
theorem gX6_style_X6_isStyle : GoodIn wsX6_style (va_wsS RX6 148 yX6_isStyle wsX6_isStyle) := goodIn_app (goodIn_of _ (by decide +kernel)) ggX6_style_X6_isStyle
theorem dX6_style_0 : decode cX6_style 0 = .ok (.aload_n 0, 1) := by decide +kernel
theorem dX6_style_1 : decode cX6_style 1 = .ok (.iload_n 1, 1) := by decide +kernel
theorem dX6_style_2 : decode cX6_style 2 = .ok (.invokevirtual 151, 3) := by decide +kernel
theorem dX6_style_5 : decode cX6_style 5 = .ok (.ifCond .eq 11, 3) := by decide +kernel
theorem dX6_style_8 : decode cX6_style 8 = .ok (.iload_n 2, 1) := by decide +kernel
theorem dX6_style_9 : decode cX6_style 9 = .ok (.iload_n 3, 1) := by decide +kernel
theorem dX6_style_10 : decode cX6_style 10 = .ok (.invokestatic 148, 3) := by decide +kernel
theorem dX6_style_13 : decode cX6_style 13 = .ok (.ifCond .ne 5, 3) := by decide +kernel
theorem dX6_style_16 : decode cX6_style 16 = .ok (.iconst (-1), 1) := by decide +kernel
theorem dX6_style_17 : decode cX6_style 17 = .ok (.ireturn, 1) := by decide +kernel
theorem dX6_style_18 : decode cX6_style 18 = .ok (.iload_n 2, 1) := by decide +kernel
theorem dX6_style_19 : decode cX6_style 19 = .ok (.ifCond .ne 12, 3) := by decide +kernel
theorem dX6_style_22 : decode cX6_style 22 = .ok (.aload_n 0, 1) := by decide +kernel
theorem dX6_style_23 : decode cX6_style 23 = .ok (.getfield 32, 3) := by decide +kernel
theorem dX6_style_26 : decode cX6_style 26 = .ok (.iload_n 1, 1) := by decide +kernel
theorem dX6_style_27 : decode cX6_style 27 = .ok (.iaload, 1) := by decide +kernel
theorem dX6_style_28 : decode cX6_style 28 = .ok (.goto 23, 3) := by decide +kernel
theorem dX6_style_31 : decode cX6_style 31 = .ok (.iload_n 2, 1) := by decide +kernel
theorem dX6_style_32 : decode cX6_style 32 = .ok (.iconst 1, 1) := by decide +kernel
theorem dX6_style_33 : decode cX6_style 33 = .ok (.if_icmp .ne 12, 3) := by decide +kernel
theorem dX6_style_36 : decode cX6_style 36 = .ok (.aload_n 0, 1) := by decide +kernel
theorem dX6_style_37 : decode cX6_style 37 = .ok (.getfield 35, 3) := by decide +kernel
theorem dX6_style_40 : decode cX6_style 40 = .ok (.iload_n 1, 1) := by decide +kernel
theorem dX6_style_41 : decode cX6_style 41 = .ok (.iaload, 1) := by decide +kernel
theorem dX6_style_42 : decode cX6_style 42 = .ok (.goto 9, 3) := by decide +kernel
theorem dX6_style_45 : decode cX6_style 45 = .ok (.aload_n 0, 1) := by decide +kernel
theorem dX6_style_46 : decode cX6_style 46 = .ok (.getfield 38, 3) := by decide +kernel
theorem dX6_style_49 : decode cX6_style 49 = .ok (.iload_n 1, 1) := by decide +kernel
theorem dX6_style_50 : decode cX6_style 50 = .ok (.iaload, 1) := by decide +kernel
theorem dX6_style_51 : decode cX6_style 51 = .ok (.istore 4, 2) := by decide +kernel
theorem dX6_style_53 : decode cX6_style 53 = .ok (.aload_n 0, 1) := by decide +kernel
theorem dX6_style_54 : decode cX6_style 54 = .ok (.getfield 32, 3) := by decide +kernel
theorem dX6_style_57 : decode cX6_style 57 = .ok (.iload_n 1, 1) := by decide +kernel
theorem dX6_style_58 : decode cX6_style 58 = .ok (.iload_n 2, 1) := by decide +kernel
theorem dX6_style_59 : decode cX6_style 59 = .ok (.ifCond .ne 7, 3) := by decide +kernel
theorem dX6_style_62 : decode cX6_style 62 = .ok (.iload_n 3, 1) := by decide +kernel
theorem dX6_style_63 : decode cX6_style 63 = .ok (.goto 9, 3) := by decide +kernel
theorem dX6_style_66 : decode cX6_style 66 = .ok (.aload_n 0, 1) := by decide +kernel
theorem dX6_style_67 : decode cX6_style 67 = .ok (.getfield 32, 3) := by decide +kernel
theorem dX6_style_70 : decode cX6_style 70 = .ok (.iload_n 1, 1) := by decide +kernel
theorem dX6_style_71 : decode cX6_style 71 = .ok (.iaload, 1) := by decide +kernel
theorem dX6_style_72 : decode cX6_style 72 = .ok (.iastore, 1) := by decide +kernel
theorem dX6_style_73 : decode cX6_style 73 = .ok (.aload_n 0, 1) := by decide +kernel
theorem dX6_style_74 : decode cX6_style 74 = .ok (.getfield 35, 3) := by decide +kernel
theorem dX6_style_77 : decode cX6_style 77 = .ok (.iload_n 1, 1) := by decide +kernel
theorem dX6_style_78 : decode cX6_style 78 = .ok (.iload_n 2, 1) := by decide +kernel
theorem dX6_style_79 : decode cX6_style 79 = .ok (.iconst 1, 1) := by decide +kernel
theorem dX6_style_80 : decode cX6_style 80 = .ok (.if_icmp .ne 7, 3) := by decide +kernel
theorem dX6_style_83 : decode cX6_style 83 = .ok (.iload_n 3, 1) := by decide +kernel
theorem dX6_style_84 : decode cX6_style 84 = .ok (.goto 9, 3) := by decide +kernel
theorem dX6_style_87 : decode cX6_style 87 = .ok (.aload_n 0, 1) := by decide +kernel
theorem dX6_style_88 : decode cX6_style 88 = .ok (.getfield 35, 3) := by decide +kernel
theorem dX6_style_91 : decode cX6_style 91 = .ok (.iload_n 1, 1) := by decide +kernel
theorem dX6_style_92 : decode cX6_style 92 = .ok (.iaload, 1) := by decide +kernel
theorem dX6_style_93 : decode cX6_style 93 = .ok (.iastore, 1) := by decide +kernel
theorem dX6_style_94 : decode cX6_style 94 = .ok (.aload_n 0, 1) := by decide +kernel
theorem dX6_style_95 : decode cX6_style 95 = .ok (.getfield 38, 3) := by decide +kernel
theorem dX6_style_98 : decode cX6_style 98 = .ok (.iload_n 1, 1) := by decide +kernel
theorem dX6_style_99 : decode cX6_style 99 = .ok (.iload_n 2, 1) := by decide +kernel
theorem dX6_style_100 : decode cX6_style 100 = .ok (.iconst 2, 1) := by decide +kernel
theorem dX6_style_101 : decode cX6_style 101 = .ok (.if_icmp .ne 7, 3) := by decide +kernel
theorem dX6_style_104 : decode cX6_style 104 = .ok (.iload_n 3, 1) := by decide +kernel
theorem dX6_style_105 : decode cX6_style 105 = .ok (.goto 9, 3) := by decide +kernel
theorem dX6_style_108 : decode cX6_style 108 = .ok (.aload_n 0, 1) := by decide +kernel
theorem dX6_style_109 : decode cX6_style 109 = .ok (.getfield 38, 3) := by decide +kernel
theorem dX6_style_112 : decode cX6_style 112 = .ok (.iload_n 1, 1) := by decide +kernel
theorem dX6_style_113 : decode cX6_style 113 = .ok (.iaload, 1) := by decide +kernel
theorem dX6_style_114 : decode cX6_style 114 = .ok (.iastore, 1) := by decide +kernel
theorem dX6_style_115 : decode cX6_style 115 = .ok (.aload_n 0, 1) := by decide +kernel
theorem dX6_style_116 : decode cX6_style 116 = .ok (.iconst 0, 1) := by decide +kernel
theorem dX6_style_117 : decode cX6_style 117 = .ok (.putfield 93, 3) := by decide +kernel
theorem dX6_style_120 : decode cX6_style 120 = .ok (.iload 4, 2) := by decide +kernel
theorem dX6_style_122 : decode cX6_style 122 = .ok (.ireturn, 1) := by decide +kernel
theorem dX6_comes_0 : decode cX6_comes 0 = .ok (.aload_n 0, 1) := by decide +kernel
theorem dX6_comes_1 : decode cX6_comes 1 = .ok (.getfield 41, 3) := by decide +kernel
theorem dX6_comes_4 : decode cX6_comes 4 = .ok (.iload_n 1, 1) := by decide +kernel
theorem dX6_comes_5 : decode cX6_comes 5 = .ok (.iaload, 1) := by decide +kernel
theorem dX6_comes_6 : decode cX6_comes 6 = .ok (.bipush 24, 2) := by decide +kernel
theorem dX6_comes_8 : decode cX6_comes 8 = .ok (.if_icmp .ne 6, 3) := by decide +kernel
theorem dX6_comes_11 : decode cX6_comes 11 = .ok (.bipush (-3), 2) := by decide +kernel
theorem dX6_comes_13 : decode cX6_comes 13 = .ok (.ireturn, 1) := by decide +kernel
theorem dX6_comes_14 : decode cX6_comes 14 = .ok (.bipush 24, 2) := by decide +kernel
theorem dX6_comes_16 : decode cX6_comes 16 = .ok (.iload_n 1, 1) := by decide +kernel
theorem dX6_comes_17 : decode cX6_comes 17 = .ok (.imul, 1) := by decide +kernel
theorem dX6_comes_18 : decode cX6_comes 18 = .ok (.aload_n 0, 1) := by decide +kernel
theorem dX6_comes_19 : decode cX6_comes 19 = .ok (.getfield 41, 3) := by decide +kernel
theorem dX6_comes_22 : decode cX6_comes 22 = .ok (.iload_n 1, 1) := by decide +kernel
theorem dX6_comes_23 : decode cX6_comes 23 = .ok (.iaload, 1) := by decide +kernel
theorem dX6_comes_24 : decode cX6_comes 24 = .ok (.iadd, 1) := by decide +kernel
theorem dX6_comes_25 : decode cX6_comes 25 = .ok (.istore 6, 2) := by decide +kernel
theorem dX6_comes_27 : decode cX6_comes 27 = .ok (.aload_n 0, 1) := by decide +kernel
theorem dX6_comes_28 : decode cX6_comes 28 = .ok (.getfield 44, 3) := by decide +kernel
theorem dX6_comes_31 : decode cX6_comes 31 = .ok (.iload 6, 2) := by decide +kernel
theorem dX6_comes_33 : decode cX6_comes 33 = .ok (.iload_n 2, 1) := by decide +kernel
theorem dX6_comes_34 : decode cX6_comes 34 = .ok (.iastore, 1) := by decide +kernel
theorem dX6_comes_35 : decode cX6_comes 35 = .ok (.aload_n 0, 1) := by decide +kernel
theorem dX6_comes_36 : decode cX6_comes 36 = .ok (.getfield 47, 3) := by decide +kernel
theorem dX6_comes_39 : decode cX6_comes 39 = .ok (.iload 6, 2) := by decide +kernel
theorem dX6_comes_41 : decode cX6_comes 41 = .ok (.iload_n 3, 1) := by decide +kernel
theorem dX6_comes_42 : decode cX6_comes 42 = .ok (.iastore, 1) := by decide +kernel
theorem dX6_comes_43 : decode cX6_comes 43 = .ok (.aload_n 0, 1) := by decide +kernel
theorem dX6_comes_44 : decode cX6_comes 44 = .ok (.getfield 50, 3) := by decide +kernel
theorem dX6_comes_47 : decode cX6_comes 47 = .ok (.iload 6, 2) := by decide +kernel
theorem dX6_comes_49 : decode cX6_comes 49 = .ok (.iload 4, 2) := by decide +kernel
theorem dX6_comes_51 : decode cX6_comes 51 = .ok (.iastore, 1) := by decide +kernel
theorem dX6_comes_52 : decode cX6_comes 52 = .ok (.aload_n 0, 1) := by decide +kernel
theorem dX6_comes_53 : decode cX6_comes 53 = .ok (.getfield 53, 3) := by decide +kernel
theorem dX6_comes_56 : decode cX6_comes 56 = .ok (.iload 6, 2) := by decide +kernel
theorem dX6_comes_58 : decode cX6_comes 58 = .ok (.iload 5, 2) := by decide +kernel
theorem dX6_comes_60 : decode cX6_comes 60 = .ok (.bastore, 1) := by decide +kernel
theorem dX6_comes_61 : decode cX6_comes 61 = .ok (.aload_n 0, 1) := by decide +kernel
theorem dX6_comes_62 : decode cX6_comes 62 = .ok (.getfield 41, 3) := by decide +kernel
theorem dX6_comes_65 : decode cX6_comes 65 = .ok (.iload_n 1, 1) := by decide +kernel
theorem dX6_comes_66 : decode cX6_comes 66 = .ok (.dup2, 1) := by decide +kernel
theorem dX6_comes_67 : decode cX6_comes 67 = .ok (.iaload, 1) := by decide +kernel
theorem dX6_comes_68 : decode cX6_comes 68 = .ok (.iconst 1, 1) := by decide +kernel
theorem dX6_comes_69 : decode cX6_comes 69 = .ok (.iadd, 1) := by decide +kernel
theorem dX6_comes_70 : decode cX6_comes 70 = .ok (.iastore, 1) := by decide +kernel
theorem dX6_comes_71 : decode cX6_comes 71 = .ok (.aload_n 0, 1) := by decide +kernel
theorem dX6_comes_72 : decode cX6_comes 72 = .ok (.iconst 0, 1) := by decide +kernel
theorem dX6_comes_73 : decode cX6_comes 73 = .ok (.putfield 93, 3) := by decide +kernel
theorem dX6_comes_76 : decode cX6_comes 76 = .ok (.aload_n 0, 1) := by decide +kernel
theorem dX6_comes_77 : decode cX6_comes 77 = .ok (.getfield 41, 3) := by decide +kernel
theorem dX6_comes_80 : decode cX6_comes 80 = .ok (.iload_n 1, 1) := by decide +kernel
theorem dX6_comes_81 : decode cX6_comes 81 = .ok (.iaload, 1) := by decide +kernel
theorem dX6_comes_82 : decode cX6_comes 82 = .ok (.iconst 1, 1) := by decide +kernel
theorem dX6_comes_83 : decode cX6_comes 83 = .ok (.isub, 1) := by decide +kernel
theorem dX6_comes_84 : decode cX6_comes 84 = .ok (.ireturn, 1) := by decide +kernel
set_option maxRecDepth 20000 in
theorem ggX6_point_X6_isSeries : GoodIn wsX6_point wsX6_isSeries := goodIn_r _ [6, 7, 8, 9, 5, 10, 25, 26, 27, 28, 29, 30, 31, 32, 33, 34, 35, 36, 37, 38, 39, 40, 41, 42, 43, 44, 45, 46, 47, 48, 49, 50] (by decide +kernel) (by decide +kernel)
set_option maxRecDepth 20000 in
theorem gX6_point_X6_isSeries : GoodIn wsX6_point (wsV RX6 151 RX6 yX6_isSeries wsX6_isSeries) := goodIn_app (goodIn_of _ (by decide +kernel)) ggX6_point_X6_isSeries
set_option maxRecDepth 20000 in
theorem ggX6_point_X6_isValue : GoodIn wsX6_point wsX6_isValue := goodIn_r _ [13, 14, 1, 8, 9, 5, 10] (by decide +kernel) (by decide +kernel)
set_option maxRecDepth 20000 in
theorem gX6_point_X6_isValue : GoodIn wsX6_point (va_wsS RX6 101 yX6_isValue wsX6_isValue) := goodIn_app (goodIn_of _ (by decide +kernel)) ggX6_point_X6_isValue
set_option maxRecDepth 20000 in
theorem ggX6_point_X6_in : GoodIn wsX6_point wsX6_in := goodIn_r _ [10] (by decide +kernel) (by decide +kernel)
set_option maxRecDepth 20000 in
theorem gX6_point_X6_in : GoodIn wsX6_point (va_wsS RX6 86 yX6_in wsX6_in) := goodIn_app (goodIn_of _ (by decide +kernel)) ggX6_point_X6_in
set_option maxRecDepth 20000 in
theorem ggX6_point_X6_comes : GoodIn wsX6_point wsX6_comes := goodIn_r _ [18, 19, 20, 21, 22, 23, 24, 25, 26, 27, 28, 29, 30, 31, 32, 33, 34, 35, 36, 37, 38, 39, 40, 41, 42, 43, 44, 45, 46, 47, 48, 49, 50] (by decide +kernel) (by decide +kernel)
set_option maxRecDepth 20000 in
theorem gX6_point_X6_comes : GoodIn wsX6_point (wsV RX6 154 RX6 yX6_comes wsX6_comes) := goodIn_app (goodIn_of _ (by decide +kernel)) ggX6_point_X6_comes
theorem dX6_point_0 : decode cX6_point 0 = .ok (.aload_n 0, 1) := by decide +kernel
theorem dX6_point_1 : decode cX6_point 1 = .ok (.iload_n 1, 1) := by decide +kernel
theorem dX6_point_2 : decode cX6_point 2 = .ok (.invokevirtual 151, 3) := by decide +kernel
theorem dX6_point_5 : decode cX6_point 5 = .ok (.ifCond .eq 41, 3) := by decide +kernel
theorem dX6_point_8 : decode cX6_point 8 = .ok (.iload_n 2, 1) := by decide +kernel
theorem dX6_point_9 : decode cX6_point 9 = .ok (.invokestatic 101, 3) := by decide +kernel
theorem dX6_point_12 : decode cX6_point 12 = .ok (.ifCond .eq 34, 3) := by decide +kernel
theorem dX6_point_15 : decode cX6_point 15 = .ok (.iload_n 3, 1) := by decide +kernel
theorem dX6_point_16 : decode cX6_point 16 = .ok (.invokestatic 101, 3) := by decide +kernel
theorem dX6_point_19 : decode cX6_point 19 = .ok (.ifCond .eq 27, 3) := by decide +kernel
theorem dX6_point_22 : decode cX6_point 22 = .ok (.iload 4, 2) := by decide +kernel
theorem dX6_point_24 : decode cX6_point 24 = .ok (.iconst 0, 1) := by decide +kernel
theorem dX6_point_25 : decode cX6_point 25 = .ok (.ldc 85, 2) := by decide +kernel
theorem dX6_point_27 : decode cX6_point 27 = .ok (.invokestatic 86, 3) := by decide +kernel
theorem dX6_point_30 : decode cX6_point 30 = .ok (.ifCond .eq 16, 3) := by decide +kernel
theorem dX6_point_33 : decode cX6_point 33 = .ok (.aload_n 0, 1) := by decide +kernel
theorem dX6_point_34 : decode cX6_point 34 = .ok (.iload_n 1, 1) := by decide +kernel
theorem dX6_point_35 : decode cX6_point 35 = .ok (.iload_n 2, 1) := by decide +kernel
theorem dX6_point_36 : decode cX6_point 36 = .ok (.iload_n 3, 1) := by decide +kernel
theorem dX6_point_37 : decode cX6_point 37 = .ok (.iload 4, 2) := by decide +kernel
theorem dX6_point_39 : decode cX6_point 39 = .ok (.iconst 0, 1) := by decide +kernel
theorem dX6_point_40 : decode cX6_point 40 = .ok (.invokevirtual 154, 3) := by decide +kernel
theorem dX6_point_43 : decode cX6_point 43 = .ok (.goto 4, 3) := by decide +kernel
theorem dX6_point_46 : decode cX6_point 46 = .ok (.iconst (-1), 1) := by decide +kernel
theorem dX6_point_47 : decode cX6_point 47 = .ok (.ireturn, 1) := by decide +kernel
set_option maxRecDepth 20000 in
theorem ggX6_gap_X6_isSeries : GoodIn wsX6_gap wsX6_isSeries := goodIn_r _ [5, 6, 7, 8, 4, 9, 20, 21, 22, 23, 24, 25, 26, 27, 28, 29, 30, 31, 32, 33, 34, 35, 36, 37, 38, 39, 40, 41, 42, 43, 44, 45] (by decide +kernel) (by decide +kernel)
set_option maxRecDepth 20000 in
theorem gX6_gap_X6_isSeries : GoodIn wsX6_gap (wsV RX6 151 RX6 yX6_isSeries wsX6_isSeries) := goodIn_app (goodIn_of _ (by decide +kernel)) ggX6_gap_X6_isSeries
set_option maxRecDepth 20000 in
theorem ggX6_gap_X6_comes : GoodIn wsX6_gap wsX6_comes := goodIn_r _ [13, 14, 15, 16, 17, 18, 19, 20, 21, 22, 23, 24, 25, 26, 27, 28, 29, 30, 31, 32, 33, 34, 35, 36, 37, 38, 39, 40, 41, 42, 43, 44, 45] (by decide +kernel) (by decide +kernel)
set_option maxRecDepth 20000 in
theorem gX6_gap_X6_comes : GoodIn wsX6_gap (wsV RX6 154 RX6 yX6_comes wsX6_comes) := goodIn_app (goodIn_of _ (by decide +kernel)) ggX6_gap_X6_comes
theorem dX6_gap_0 : decode cX6_gap 0 = .ok (.aload_n 0, 1) := by decide +kernel
theorem dX6_gap_1 : decode cX6_gap 1 = .ok (.iload_n 1, 1) := by decide +kernel
theorem dX6_gap_2 : decode cX6_gap 2 = .ok (.invokevirtual 151, 3) := by decide +kernel
theorem dX6_gap_5 : decode cX6_gap 5 = .ok (.ifCond .eq 15, 3) := by decide +kernel
theorem dX6_gap_8 : decode cX6_gap 8 = .ok (.aload_n 0, 1) := by decide +kernel
theorem dX6_gap_9 : decode cX6_gap 9 = .ok (.iload_n 1, 1) := by decide +kernel
theorem dX6_gap_10 : decode cX6_gap 10 = .ok (.iconst 0, 1) := by decide +kernel
theorem dX6_gap_11 : decode cX6_gap 11 = .ok (.iconst 0, 1) := by decide +kernel
theorem dX6_gap_12 : decode cX6_gap 12 = .ok (.iconst 0, 1) := by decide +kernel
theorem dX6_gap_13 : decode cX6_gap 13 = .ok (.iconst 1, 1) := by decide +kernel
theorem dX6_gap_14 : decode cX6_gap 14 = .ok (.invokevirtual 154, 3) := by decide +kernel
theorem dX6_gap_17 : decode cX6_gap 17 = .ok (.goto 4, 3) := by decide +kernel
theorem dX6_gap_20 : decode cX6_gap 20 = .ok (.iconst (-1), 1) := by decide +kernel
theorem dX6_gap_21 : decode cX6_gap 21 = .ok (.ireturn, 1) := by decide +kernel
theorem dX6_dropsLabel_0 : decode cX6_dropsLabel 0 = .ok (.aload_n 0, 1) := by decide +kernel
theorem dX6_dropsLabel_1 : decode cX6_dropsLabel 1 = .ok (.dup, 1) := by decide +kernel
theorem dX6_dropsLabel_2 : decode cX6_dropsLabel 2 = .ok (.getfield 90, 3) := by decide +kernel
theorem dX6_dropsLabel_5 : decode cX6_dropsLabel 5 = .ok (.iconst 1, 1) := by decide +kernel
theorem dX6_dropsLabel_6 : decode cX6_dropsLabel 6 = .ok (.isub, 1) := by decide +kernel
theorem dX6_dropsLabel_7 : decode cX6_dropsLabel 7 = .ok (.putfield 90, 3) := by decide +kernel
theorem dX6_dropsLabel_10 : decode cX6_dropsLabel 10 = .ok (.iload_n 1, 1) := by decide +kernel
theorem dX6_dropsLabel_11 : decode cX6_dropsLabel 11 = .ok (.istore_n 2, 1) := by decide +kernel
theorem dX6_dropsLabel_12 : decode cX6_dropsLabel 12 = .ok (.iload_n 2, 1) := by decide +kernel
theorem dX6_dropsLabel_13 : decode cX6_dropsLabel 13 = .ok (.aload_n 0, 1) := by decide +kernel
theorem dX6_dropsLabel_14 : decode cX6_dropsLabel 14 = .ok (.getfield 90, 3) := by decide +kernel
theorem dX6_dropsLabel_17 : decode cX6_dropsLabel 17 = .ok (.if_icmp .ge 79, 3) := by decide +kernel
theorem dX6_dropsLabel_20 : decode cX6_dropsLabel 20 = .ok (.aload_n 0, 1) := by decide +kernel
theorem dX6_dropsLabel_21 : decode cX6_dropsLabel 21 = .ok (.getfield 57, 3) := by decide +kernel
theorem dX6_dropsLabel_24 : decode cX6_dropsLabel 24 = .ok (.iload_n 2, 1) := by decide +kernel
theorem dX6_dropsLabel_25 : decode cX6_dropsLabel 25 = .ok (.aload_n 0, 1) := by decide +kernel
theorem dX6_dropsLabel_26 : decode cX6_dropsLabel 26 = .ok (.getfield 57, 3) := by decide +kernel
theorem dX6_dropsLabel_29 : decode cX6_dropsLabel 29 = .ok (.iload_n 2, 1) := by decide +kernel
theorem dX6_dropsLabel_30 : decode cX6_dropsLabel 30 = .ok (.iconst 1, 1) := by decide +kernel
theorem dX6_dropsLabel_31 : decode cX6_dropsLabel 31 = .ok (.iadd, 1) := by decide +kernel
theorem dX6_dropsLabel_32 : decode cX6_dropsLabel 32 = .ok (.iaload, 1) := by decide +kernel
theorem dX6_dropsLabel_33 : decode cX6_dropsLabel 33 = .ok (.iastore, 1) := by decide +kernel
theorem dX6_dropsLabel_34 : decode cX6_dropsLabel 34 = .ok (.aload_n 0, 1) := by decide +kernel
theorem dX6_dropsLabel_35 : decode cX6_dropsLabel 35 = .ok (.getfield 60, 3) := by decide +kernel
theorem dX6_dropsLabel_38 : decode cX6_dropsLabel 38 = .ok (.iload_n 2, 1) := by decide +kernel
theorem dX6_dropsLabel_39 : decode cX6_dropsLabel 39 = .ok (.aload_n 0, 1) := by decide +kernel
theorem dX6_dropsLabel_40 : decode cX6_dropsLabel 40 = .ok (.getfield 60, 3) := by decide +kernel
theorem dX6_dropsLabel_43 : decode cX6_dropsLabel 43 = .ok (.iload_n 2, 1) := by decide +kernel
theorem dX6_dropsLabel_44 : decode cX6_dropsLabel 44 = .ok (.iconst 1, 1) := by decide +kernel
theorem dX6_dropsLabel_45 : decode cX6_dropsLabel 45 = .ok (.iadd, 1) := by decide +kernel
theorem dX6_dropsLabel_46 : decode cX6_dropsLabel 46 = .ok (.iaload, 1) := by decide +kernel
theorem dX6_dropsLabel_47 : decode cX6_dropsLabel 47 = .ok (.iastore, 1) := by decide +kernel
theorem dX6_dropsLabel_48 : decode cX6_dropsLabel 48 = .ok (.aload_n 0, 1) := by decide +kernel
theorem dX6_dropsLabel_49 : decode cX6_dropsLabel 49 = .ok (.getfield 63, 3) := by decide +kernel
theorem dX6_dropsLabel_52 : decode cX6_dropsLabel 52 = .ok (.iload_n 2, 1) := by decide +kernel
theorem dX6_dropsLabel_53 : decode cX6_dropsLabel 53 = .ok (.aload_n 0, 1) := by decide +kernel
theorem dX6_dropsLabel_54 : decode cX6_dropsLabel 54 = .ok (.getfield 63, 3) := by decide +kernel
theorem dX6_dropsLabel_57 : decode cX6_dropsLabel 57 = .ok (.iload_n 2, 1) := by decide +kernel
theorem dX6_dropsLabel_58 : decode cX6_dropsLabel 58 = .ok (.iconst 1, 1) := by decide +kernel
theorem dX6_dropsLabel_59 : decode cX6_dropsLabel 59 = .ok (.iadd, 1) := by decide +kernel
theorem dX6_dropsLabel_60 : decode cX6_dropsLabel 60 = .ok (.iaload, 1) := by decide +kernel
theorem dX6_dropsLabel_61 : decode cX6_dropsLabel 61 = .ok (.iastore, 1) := by decide +kernel
theorem dX6_dropsLabel_62 : decode cX6_dropsLabel 62 = .ok (.aload_n 0, 1) := by decide +kernel
theorem dX6_dropsLabel_63 : decode cX6_dropsLabel 63 = .ok (.getfield 66, 3) := by decide +kernel
theorem dX6_dropsLabel_66 : decode cX6_dropsLabel 66 = .ok (.iload_n 2, 1) := by decide +kernel
theorem dX6_dropsLabel_67 : decode cX6_dropsLabel 67 = .ok (.aload_n 0, 1) := by decide +kernel
theorem dX6_dropsLabel_68 : decode cX6_dropsLabel 68 = .ok (.getfield 66, 3) := by decide +kernel
theorem dX6_dropsLabel_71 : decode cX6_dropsLabel 71 = .ok (.iload_n 2, 1) := by decide +kernel
theorem dX6_dropsLabel_72 : decode cX6_dropsLabel 72 = .ok (.iconst 1, 1) := by decide +kernel
theorem dX6_dropsLabel_73 : decode cX6_dropsLabel 73 = .ok (.iadd, 1) := by decide +kernel
theorem dX6_dropsLabel_74 : decode cX6_dropsLabel 74 = .ok (.iaload, 1) := by decide +kernel
theorem dX6_dropsLabel_75 : decode cX6_dropsLabel 75 = .ok (.iastore, 1) := by decide +kernel
theorem dX6_dropsLabel_76 : decode cX6_dropsLabel 76 = .ok (.aload_n 0, 1) := by decide +kernel
theorem dX6_dropsLabel_77 : decode cX6_dropsLabel 77 = .ok (.getfield 69, 3) := by decide +kernel
theorem dX6_dropsLabel_80 : decode cX6_dropsLabel 80 = .ok (.iload_n 2, 1) := by decide +kernel
theorem dX6_dropsLabel_81 : decode cX6_dropsLabel 81 = .ok (.aload_n 0, 1) := by decide +kernel
theorem dX6_dropsLabel_82 : decode cX6_dropsLabel 82 = .ok (.getfield 69, 3) := by decide +kernel
theorem dX6_dropsLabel_85 : decode cX6_dropsLabel 85 = .ok (.iload_n 2, 1) := by decide +kernel
theorem dX6_dropsLabel_86 : decode cX6_dropsLabel 86 = .ok (.iconst 1, 1) := by decide +kernel
theorem dX6_dropsLabel_87 : decode cX6_dropsLabel 87 = .ok (.iadd, 1) := by decide +kernel
theorem dX6_dropsLabel_88 : decode cX6_dropsLabel 88 = .ok (.iaload, 1) := by decide +kernel
theorem dX6_dropsLabel_89 : decode cX6_dropsLabel 89 = .ok (.iastore, 1) := by decide +kernel
theorem dX6_dropsLabel_90 : decode cX6_dropsLabel 90 = .ok (.iinc 2 1, 3) := by decide +kernel
theorem dX6_dropsLabel_93 : decode cX6_dropsLabel 93 = .ok (.goto (-81), 3) := by decide +kernel
theorem dX6_dropsLabel_96 : decode cX6_dropsLabel 96 = .ok (.return_, 1) := by decide +kernel
set_option maxRecDepth 20000 in
theorem ggX6_drop_X6_isSeries : GoodIn wsX6_drop wsX6_isSeries := goodIn_r _ [10, 11, 12, 13, 9, 14, 22, 23, 24, 25, 26, 27, 28, 29, 30, 31, 32, 33, 34, 35, 36, 37, 38, 39, 40, 41, 42, 43, 44, 45, 46, 47] (by decide +kernel) (by decide +kernel)
set_option maxRecDepth 20000 in
theorem gX6_drop_X6_isSeries : GoodIn wsX6_drop (wsV RX6 151 RX6 yX6_isSeries wsX6_isSeries) := goodIn_app (goodIn_of _ (by decide +kernel)) ggX6_drop_X6_isSeries
set_option maxRecDepth 20000 in
theorem ggX6_drop_X6_dropsLabel : GoodIn wsX6_drop wsX6_dropsLabel := goodIn_r _ [18, 2, 19, 20, 21, 3, 4, 22, 23, 24, 25, 26, 27, 28, 29, 30, 31, 32, 33, 34, 35, 36, 37, 38, 39, 40, 41, 42, 43, 44, 45, 46, 47] (by decide +kernel) (by decide +kernel)
set_option maxRecDepth 20000 in
theorem gX6_drop_X6_dropsLabel : GoodIn wsX6_drop (wsV RX6 158 RX6 yX6_dropsLabel wsX6_dropsLabel) := goodIn_app (goodIn_of _ (by decide +kernel)) ggX6_drop_X6_dropsLabel
theorem dX6_drop_0 : decode cX6_drop 0 = .ok (.aload_n 0, 1) := by decide +kernel
theorem dX6_drop_1 : decode cX6_drop 1 = .ok (.iload_n 1, 1) := by decide +kernel
theorem dX6_drop_2 : decode cX6_drop 2 = .ok (.invokevirtual 151, 3) := by decide +kernel
theorem dX6_drop_5 : decode cX6_drop 5 = .ok (.ifCond .ne 5, 3) := by decide +kernel
theorem dX6_drop_8 : decode cX6_drop 8 = .ok (.iconst (-1), 1) := by decide +kernel
theorem dX6_drop_9 : decode cX6_drop 9 = .ok (.ireturn, 1) := by decide +kernel
theorem dX6_drop_10 : decode cX6_drop 10 = .ok (.aload_n 0, 1) := by decide +kernel
theorem dX6_drop_11 : decode cX6_drop 11 = .ok (.getfield 41, 3) := by decide +kernel
theorem dX6_drop_14 : decode cX6_drop 14 = .ok (.iload_n 1, 1) := by decide +kernel
theorem dX6_drop_15 : decode cX6_drop 15 = .ok (.iaload, 1) := by decide +kernel
theorem dX6_drop_16 : decode cX6_drop 16 = .ok (.ifCond .ne 6, 3) := by decide +kernel
theorem dX6_drop_19 : decode cX6_drop 19 = .ok (.bipush (-2), 2) := by decide +kernel
theorem dX6_drop_21 : decode cX6_drop 21 = .ok (.ireturn, 1) := by decide +kernel
theorem dX6_drop_22 : decode cX6_drop 22 = .ok (.aload_n 0, 1) := by decide +kernel
theorem dX6_drop_23 : decode cX6_drop 23 = .ok (.getfield 41, 3) := by decide +kernel
theorem dX6_drop_26 : decode cX6_drop 26 = .ok (.iload_n 1, 1) := by decide +kernel
theorem dX6_drop_27 : decode cX6_drop 27 = .ok (.dup2, 1) := by decide +kernel
theorem dX6_drop_28 : decode cX6_drop 28 = .ok (.iaload, 1) := by decide +kernel
theorem dX6_drop_29 : decode cX6_drop 29 = .ok (.iconst 1, 1) := by decide +kernel
theorem dX6_drop_30 : decode cX6_drop 30 = .ok (.isub, 1) := by decide +kernel
theorem dX6_drop_31 : decode cX6_drop 31 = .ok (.iastore, 1) := by decide +kernel
theorem dX6_drop_32 : decode cX6_drop 32 = .ok (.aload_n 0, 1) := by decide +kernel
theorem dX6_drop_33 : decode cX6_drop 33 = .ok (.getfield 90, 3) := by decide +kernel
theorem dX6_drop_36 : decode cX6_drop 36 = .ok (.iconst 1, 1) := by decide +kernel
theorem dX6_drop_37 : decode cX6_drop 37 = .ok (.isub, 1) := by decide +kernel
theorem dX6_drop_38 : decode cX6_drop 38 = .ok (.istore_n 2, 1) := by decide +kernel
theorem dX6_drop_39 : decode cX6_drop 39 = .ok (.iload_n 2, 1) := by decide +kernel
theorem dX6_drop_40 : decode cX6_drop 40 = .ok (.ifCond .lt 39, 3) := by decide +kernel
theorem dX6_drop_43 : decode cX6_drop 43 = .ok (.aload_n 0, 1) := by decide +kernel
theorem dX6_drop_44 : decode cX6_drop 44 = .ok (.getfield 66, 3) := by decide +kernel
theorem dX6_drop_47 : decode cX6_drop 47 = .ok (.iload_n 2, 1) := by decide +kernel
theorem dX6_drop_48 : decode cX6_drop 48 = .ok (.iaload, 1) := by decide +kernel
theorem dX6_drop_49 : decode cX6_drop 49 = .ok (.iload_n 1, 1) := by decide +kernel
theorem dX6_drop_50 : decode cX6_drop 50 = .ok (.if_icmp .ne 23, 3) := by decide +kernel
theorem dX6_drop_53 : decode cX6_drop 53 = .ok (.aload_n 0, 1) := by decide +kernel
theorem dX6_drop_54 : decode cX6_drop 54 = .ok (.getfield 69, 3) := by decide +kernel
theorem dX6_drop_57 : decode cX6_drop 57 = .ok (.iload_n 2, 1) := by decide +kernel
theorem dX6_drop_58 : decode cX6_drop 58 = .ok (.iaload, 1) := by decide +kernel
theorem dX6_drop_59 : decode cX6_drop 59 = .ok (.aload_n 0, 1) := by decide +kernel
theorem dX6_drop_60 : decode cX6_drop 60 = .ok (.getfield 41, 3) := by decide +kernel
theorem dX6_drop_63 : decode cX6_drop 63 = .ok (.iload_n 1, 1) := by decide +kernel
theorem dX6_drop_64 : decode cX6_drop 64 = .ok (.iaload, 1) := by decide +kernel
theorem dX6_drop_65 : decode cX6_drop 65 = .ok (.if_icmp .ne 8, 3) := by decide +kernel
theorem dX6_drop_68 : decode cX6_drop 68 = .ok (.aload_n 0, 1) := by decide +kernel
theorem dX6_drop_69 : decode cX6_drop 69 = .ok (.iload_n 2, 1) := by decide +kernel
theorem dX6_drop_70 : decode cX6_drop 70 = .ok (.invokevirtual 158, 3) := by decide +kernel
theorem dX6_drop_73 : decode cX6_drop 73 = .ok (.iinc 2 (-1), 3) := by decide +kernel
theorem dX6_drop_76 : decode cX6_drop 76 = .ok (.goto (-37), 3) := by decide +kernel
theorem dX6_drop_79 : decode cX6_drop 79 = .ok (.aload_n 0, 1) := by decide +kernel
theorem dX6_drop_80 : decode cX6_drop 80 = .ok (.iconst 0, 1) := by decide +kernel
theorem dX6_drop_81 : decode cX6_drop 81 = .ok (.putfield 93, 3) := by decide +kernel
theorem dX6_drop_84 : decode cX6_drop 84 = .ok (.aload_n 0, 1) := by decide +kernel
theorem dX6_drop_85 : decode cX6_drop 85 = .ok (.getfield 41, 3) := by decide +kernel
theorem dX6_drop_88 : decode cX6_drop 88 = .ok (.iload_n 1, 1) := by decide +kernel
theorem dX6_drop_89 : decode cX6_drop 89 = .ok (.iaload, 1) := by decide +kernel
theorem dX6_drop_90 : decode cX6_drop 90 = .ok (.ireturn, 1) := by decide +kernel
set_option maxRecDepth 20000 in
theorem ggX6_isPoint_X6_isSeries : GoodIn wsX6_isPoint wsX6_isSeries := goodIn_r _ [6, 7, 8, 9, 5, 10, 11, 12, 13, 14, 15, 16, 17, 18, 19, 20, 21, 22, 23, 24, 25, 26, 27, 28, 29, 30, 31, 32, 33, 34, 35, 36] (by decide +kernel) (by decide +kernel)
set_option maxRecDepth 20000 in
theorem gX6_isPoint_X6_isSeries : GoodIn wsX6_isPoint (wsV RX6 151 RX6 yX6_isSeries wsX6_isSeries) := goodIn_app (goodIn_of _ (by decide +kernel)) ggX6_isPoint_X6_isSeries
set_option maxRecDepth 20000 in
theorem ggX6_isPoint_X6_in : GoodIn wsX6_isPoint wsX6_in := goodIn_r _ [10] (by decide +kernel) (by decide +kernel)
set_option maxRecDepth 20000 in
theorem gX6_isPoint_X6_in : GoodIn wsX6_isPoint (va_wsS RX6 86 yX6_in wsX6_in) := goodIn_app (goodIn_of _ (by decide +kernel)) ggX6_isPoint_X6_in
theorem dX6_isPoint_0 : decode cX6_isPoint 0 = .ok (.aload_n 0, 1) := by decide +kernel
theorem dX6_isPoint_1 : decode cX6_isPoint 1 = .ok (.iload_n 1, 1) := by decide +kernel
theorem dX6_isPoint_2 : decode cX6_isPoint 2 = .ok (.invokevirtual 151, 3) := by decide +kernel
theorem dX6_isPoint_5 : decode cX6_isPoint 5 = .ok (.ifCond .eq 23, 3) := by decide +kernel
theorem dX6_isPoint_8 : decode cX6_isPoint 8 = .ok (.iload_n 2, 1) := by decide +kernel
theorem dX6_isPoint_9 : decode cX6_isPoint 9 = .ok (.iconst 0, 1) := by decide +kernel
theorem dX6_isPoint_10 : decode cX6_isPoint 10 = .ok (.aload_n 0, 1) := by decide +kernel
theorem dX6_isPoint_11 : decode cX6_isPoint 11 = .ok (.getfield 41, 3) := by decide +kernel
theorem dX6_isPoint_14 : decode cX6_isPoint 14 = .ok (.iload_n 1, 1) := by decide +kernel
theorem dX6_isPoint_15 : decode cX6_isPoint 15 = .ok (.iaload, 1) := by decide +kernel
theorem dX6_isPoint_16 : decode cX6_isPoint 16 = .ok (.iconst 1, 1) := by decide +kernel
theorem dX6_isPoint_17 : decode cX6_isPoint 17 = .ok (.isub, 1) := by decide +kernel
theorem dX6_isPoint_18 : decode cX6_isPoint 18 = .ok (.invokestatic 86, 3) := by decide +kernel
theorem dX6_isPoint_21 : decode cX6_isPoint 21 = .ok (.ifCond .eq 7, 3) := by decide +kernel
theorem dX6_isPoint_24 : decode cX6_isPoint 24 = .ok (.iconst 1, 1) := by decide +kernel
theorem dX6_isPoint_25 : decode cX6_isPoint 25 = .ok (.goto 4, 3) := by decide +kernel
theorem dX6_isPoint_28 : decode cX6_isPoint 28 = .ok (.iconst 0, 1) := by decide +kernel
theorem dX6_isPoint_29 : decode cX6_isPoint 29 = .ok (.ireturn, 1) := by decide +kernel
set_option maxRecDepth 20000 in
theorem ggX6_across_X6_placeOf : GoodIn wsX6_across wsX6_placeOf := goodIn_r _ [6, 7, 8, 9, 10, 11, 12, 5, 13, 14, 15, 16, 17, 18, 19, 20, 21, 22, 23, 24, 25, 26, 27, 28, 29, 30, 31, 32, 33, 34, 35, 36, 37, 38, 39, 40, 41, 42, 43, 44, 45, 46, 47, 48, 49, 50, 51, 52, 53, 54, 55, 56, 57, 58, 59, 60] (by decide +kernel) (by decide +kernel)
set_option maxRecDepth 20000 in
theorem gX6_across_X6_placeOf : GoodIn wsX6_across (wsV RX6 131 RX6 yX6_placeOf wsX6_placeOf) := goodIn_app (goodIn_of _ (by decide +kernel)) ggX6_across_X6_placeOf
theorem dX6_across_0 : decode cX6_across 0 = .ok (.aload_n 0, 1) := by decide +kernel
theorem dX6_across_1 : decode cX6_across 1 = .ok (.iconst 0, 1) := by decide +kernel
theorem dX6_across_2 : decode cX6_across 2 = .ok (.aload_n 0, 1) := by decide +kernel
theorem dX6_across_3 : decode cX6_across 3 = .ok (.getfield 44, 3) := by decide +kernel
theorem dX6_across_6 : decode cX6_across 6 = .ok (.bipush 24, 2) := by decide +kernel
theorem dX6_across_8 : decode cX6_across 8 = .ok (.iload_n 1, 1) := by decide +kernel
theorem dX6_across_9 : decode cX6_across 9 = .ok (.imul, 1) := by decide +kernel
theorem dX6_across_10 : decode cX6_across 10 = .ok (.iload_n 2, 1) := by decide +kernel
theorem dX6_across_11 : decode cX6_across 11 = .ok (.iadd, 1) := by decide +kernel
theorem dX6_across_12 : decode cX6_across 12 = .ok (.iaload, 1) := by decide +kernel
theorem dX6_across_13 : decode cX6_across 13 = .ok (.invokevirtual 131, 3) := by decide +kernel
theorem dX6_across_16 : decode cX6_across 16 = .ok (.ireturn, 1) := by decide +kernel
set_option maxRecDepth 20000 in
theorem ggX6_upwards_X6_placeOf : GoodIn wsX6_upwards wsX6_placeOf := goodIn_r _ [6, 7, 8, 9, 10, 11, 12, 5, 13, 14, 15, 16, 17, 18, 19, 20, 21, 22, 23, 24, 25, 26, 27, 28, 29, 30, 31, 32, 33, 34, 35, 36, 37, 38, 39, 40, 41, 42, 43, 44, 45, 46, 47, 48, 49, 50, 51, 52, 53, 54, 55, 56, 57, 58, 59, 60] (by decide +kernel) (by decide +kernel)
set_option maxRecDepth 20000 in
theorem gX6_upwards_X6_placeOf : GoodIn wsX6_upwards (wsV RX6 131 RX6 yX6_placeOf wsX6_placeOf) := goodIn_app (goodIn_of _ (by decide +kernel)) ggX6_upwards_X6_placeOf
theorem dX6_upwards_0 : decode cX6_upwards 0 = .ok (.aload_n 0, 1) := by decide +kernel
theorem dX6_upwards_1 : decode cX6_upwards 1 = .ok (.iconst 1, 1) := by decide +kernel
theorem dX6_upwards_2 : decode cX6_upwards 2 = .ok (.aload_n 0, 1) := by decide +kernel
theorem dX6_upwards_3 : decode cX6_upwards 3 = .ok (.getfield 47, 3) := by decide +kernel
theorem dX6_upwards_6 : decode cX6_upwards 6 = .ok (.bipush 24, 2) := by decide +kernel
theorem dX6_upwards_8 : decode cX6_upwards 8 = .ok (.iload_n 1, 1) := by decide +kernel
theorem dX6_upwards_9 : decode cX6_upwards 9 = .ok (.imul, 1) := by decide +kernel
theorem dX6_upwards_10 : decode cX6_upwards 10 = .ok (.iload_n 2, 1) := by decide +kernel
theorem dX6_upwards_11 : decode cX6_upwards 11 = .ok (.iadd, 1) := by decide +kernel
theorem dX6_upwards_12 : decode cX6_upwards 12 = .ok (.iaload, 1) := by decide +kernel
theorem dX6_upwards_13 : decode cX6_upwards 13 = .ok (.invokevirtual 131, 3) := by decide +kernel
theorem dX6_upwards_16 : decode cX6_upwards 16 = .ok (.ireturn, 1) := by decide +kernel
set_option maxRecDepth 20000 in
theorem ggX6_isSeen_X6_across : GoodIn wsX6_isSeen wsX6_across := goodIn_r _ [6, 7, 8, 9, 10, 5, 11, 12, 13, 14, 15, 16, 17, 18, 19, 20, 21, 22, 23, 24, 25, 26, 27, 28, 29, 30, 31, 32, 33, 34, 35, 36, 37, 38, 39, 45, 46, 47, 48, 49, 50, 51, 52, 53, 54, 55, 56, 57, 58, 59, 60, 61, 62, 63, 64, 65, 66, 67, 68, 69, 70] (by decide +kernel) (by decide +kernel)
set_option maxRecDepth 20000 in
theorem gX6_isSeen_X6_across : GoodIn wsX6_isSeen (wsV RX6 162 RX6 yX6_across wsX6_across) := goodIn_app (goodIn_of _ (by decide +kernel)) ggX6_isSeen_X6_across
set_option maxRecDepth 20000 in
theorem ggX6_isSeen_X6_upwards : GoodIn wsX6_isSeen wsX6_upwards := goodIn_r _ [43, 44, 8, 9, 10, 5, 11, 12, 13, 14, 15, 16, 17, 18, 19, 20, 21, 22, 23, 24, 25, 26, 27, 28, 29, 30, 31, 32, 33, 34, 35, 36, 37, 38, 39, 45, 46, 47, 48, 49, 50, 51, 52, 53, 54, 55, 56, 57, 58, 59, 60, 61, 62, 63, 64, 65, 66, 67, 68, 69, 70] (by decide +kernel) (by decide +kernel)
set_option maxRecDepth 20000 in
theorem gX6_isSeen_X6_upwards : GoodIn wsX6_isSeen (wsV RX6 165 RX6 yX6_upwards wsX6_upwards) := goodIn_app (goodIn_of _ (by decide +kernel)) ggX6_isSeen_X6_upwards
theorem dX6_isSeen_0 : decode cX6_isSeen 0 = .ok (.iload_n 2, 1) := by decide +kernel
theorem dX6_isSeen_1 : decode cX6_isSeen 1 = .ok (.ifCond .lt 39, 3) := by decide +kernel
theorem dX6_isSeen_4 : decode cX6_isSeen 4 = .ok (.aload_n 0, 1) := by decide +kernel
theorem dX6_isSeen_5 : decode cX6_isSeen 5 = .ok (.getfield 53, 3) := by decide +kernel
theorem dX6_isSeen_8 : decode cX6_isSeen 8 = .ok (.bipush 24, 2) := by decide +kernel
theorem dX6_isSeen_10 : decode cX6_isSeen 10 = .ok (.iload_n 1, 1) := by decide +kernel
theorem dX6_isSeen_11 : decode cX6_isSeen 11 = .ok (.imul, 1) := by decide +kernel
theorem dX6_isSeen_12 : decode cX6_isSeen 12 = .ok (.iload_n 2, 1) := by decide +kernel
theorem dX6_isSeen_13 : decode cX6_isSeen 13 = .ok (.iadd, 1) := by decide +kernel
theorem dX6_isSeen_14 : decode cX6_isSeen 14 = .ok (.baload, 1) := by decide +kernel
theorem dX6_isSeen_15 : decode cX6_isSeen 15 = .ok (.ifCond .ne 25, 3) := by decide +kernel
theorem dX6_isSeen_18 : decode cX6_isSeen 18 = .ok (.aload_n 0, 1) := by decide +kernel
theorem dX6_isSeen_19 : decode cX6_isSeen 19 = .ok (.iload_n 1, 1) := by decide +kernel
theorem dX6_isSeen_20 : decode cX6_isSeen 20 = .ok (.iload_n 2, 1) := by decide +kernel
theorem dX6_isSeen_21 : decode cX6_isSeen 21 = .ok (.invokevirtual 162, 3) := by decide +kernel
theorem dX6_isSeen_24 : decode cX6_isSeen 24 = .ok (.ifCond .lt 16, 3) := by decide +kernel
theorem dX6_isSeen_27 : decode cX6_isSeen 27 = .ok (.aload_n 0, 1) := by decide +kernel
theorem dX6_isSeen_28 : decode cX6_isSeen 28 = .ok (.iload_n 1, 1) := by decide +kernel
theorem dX6_isSeen_29 : decode cX6_isSeen 29 = .ok (.iload_n 2, 1) := by decide +kernel
theorem dX6_isSeen_30 : decode cX6_isSeen 30 = .ok (.invokevirtual 165, 3) := by decide +kernel
theorem dX6_isSeen_33 : decode cX6_isSeen 33 = .ok (.ifCond .lt 7, 3) := by decide +kernel
theorem dX6_isSeen_36 : decode cX6_isSeen 36 = .ok (.iconst 1, 1) := by decide +kernel
theorem dX6_isSeen_37 : decode cX6_isSeen 37 = .ok (.goto 4, 3) := by decide +kernel
theorem dX6_isSeen_40 : decode cX6_isSeen 40 = .ok (.iconst 0, 1) := by decide +kernel
theorem dX6_isSeen_41 : decode cX6_isSeen 41 = .ok (.ireturn, 1) := by decide +kernel
set_option maxRecDepth 20000 in
theorem ggX6_about_X6_isPoint : GoodIn wsX6_about wsX6_isPoint := goodIn_r _ [10, 11, 12, 13, 14, 9, 15, 16, 17, 18, 19, 64, 65, 66, 67, 68, 69, 70, 71, 72, 73, 74, 75, 76, 77, 78, 79, 80, 81, 82, 83, 84, 85, 86, 87, 88, 89] (by decide +kernel) (by decide +kernel)
set_option maxRecDepth 20000 in
theorem gX6_about_X6_isPoint : GoodIn wsX6_about (wsV RX6 168 RX6 yX6_isPoint wsX6_isPoint) := goodIn_app (goodIn_of _ (by decide +kernel)) ggX6_about_X6_isPoint
set_option maxRecDepth 20000 in
theorem ggX6_about_X6_isSeen : GoodIn wsX6_about wsX6_isSeen := goodIn_r _ [23, 1, 24, 25, 26, 9, 27, 3, 28, 29, 30, 31, 32, 33, 34, 35, 36, 37, 38, 39, 40, 41, 42, 43, 44, 45, 46, 47, 48, 49, 50, 51, 52, 53, 54, 55, 56, 57, 58, 59, 60, 61, 62, 63, 4, 64, 65, 66, 67, 68, 69, 70, 71, 72, 73, 74, 75, 76, 77, 78, 79, 80, 81, 82, 83, 84, 85, 86, 87, 88, 89] (by decide +kernel) (by decide +kernel)
set_option maxRecDepth 20000 in
theorem gX6_about_X6_isSeen : GoodIn wsX6_about (wsV RX6 171 RX6 yX6_isSeen wsX6_isSeen) := goodIn_app (goodIn_of _ (by decide +kernel)) ggX6_about_X6_isSeen
set_option maxRecDepth 20000 in
theorem ggX6_about_X6_across : GoodIn wsX6_about wsX6_across := goodIn_r _ [27, 3, 28, 29, 30, 9, 31, 32, 33, 34, 35, 36, 37, 38, 39, 40, 41, 42, 43, 44, 45, 46, 47, 48, 49, 50, 51, 52, 53, 54, 55, 56, 57, 58, 59, 64, 65, 66, 67, 68, 69, 70, 71, 72, 73, 74, 75, 76, 77, 78, 79, 80, 81, 82, 83, 84, 85, 86, 87, 88, 89] (by decide +kernel) (by decide +kernel)
set_option maxRecDepth 20000 in
theorem gX6_about_X6_across : GoodIn wsX6_about (wsV RX6 162 RX6 yX6_across wsX6_across) := goodIn_app (goodIn_of _ (by decide +kernel)) ggX6_about_X6_across
set_option maxRecDepth 20000 in
theorem ggX6_about_X6_upwards : GoodIn wsX6_about wsX6_upwards := goodIn_r _ [63, 4, 28, 29, 30, 9, 31, 32, 33, 34, 35, 36, 37, 38, 39, 40, 41, 42, 43, 44, 45, 46, 47, 48, 49, 50, 51, 52, 53, 54, 55, 56, 57, 58, 59, 64, 65, 66, 67, 68, 69, 70, 71, 72, 73, 74, 75, 76, 77, 78, 79, 80, 81, 82, 83, 84, 85, 86, 87, 88, 89] (by decide +kernel) (by decide +kernel)
set_option maxRecDepth 20000 in
theorem gX6_about_X6_upwards : GoodIn wsX6_about (wsV RX6 165 RX6 yX6_upwards wsX6_upwards) := goodIn_app (goodIn_of _ (by decide +kernel)) ggX6_about_X6_upwards
theorem dX6_about_0 : decode cX6_about 0 = .ok (.aload_n 0, 1) := by decide +kernel
theorem dX6_about_1 : decode cX6_about 1 = .ok (.iload_n 1, 1) := by decide +kernel
theorem dX6_about_2 : decode cX6_about 2 = .ok (.iload_n 2, 1) := by decide +kernel
theorem dX6_about_3 : decode cX6_about 3 = .ok (.invokevirtual 168, 3) := by decide +kernel
theorem dX6_about_6 : decode cX6_about 6 = .ok (.ifCond .eq 17, 3) := by decide +kernel
theorem dX6_about_9 : decode cX6_about 9 = .ok (.aload_n 0, 1) := by decide +kernel
theorem dX6_about_10 : decode cX6_about 10 = .ok (.getfield 53, 3) := by decide +kernel
theorem dX6_about_13 : decode cX6_about 13 = .ok (.bipush 24, 2) := by decide +kernel
theorem dX6_about_15 : decode cX6_about 15 = .ok (.iload_n 1, 1) := by decide +kernel
theorem dX6_about_16 : decode cX6_about 16 = .ok (.imul, 1) := by decide +kernel
theorem dX6_about_17 : decode cX6_about 17 = .ok (.iload_n 2, 1) := by decide +kernel
theorem dX6_about_18 : decode cX6_about 18 = .ok (.iadd, 1) := by decide +kernel
theorem dX6_about_19 : decode cX6_about 19 = .ok (.baload, 1) := by decide +kernel
theorem dX6_about_20 : decode cX6_about 20 = .ok (.ifCond .eq 6, 3) := by decide +kernel
theorem dX6_about_23 : decode cX6_about 23 = .ok (.ldc 134, 2) := by decide +kernel
theorem dX6_about_25 : decode cX6_about 25 = .ok (.ireturn, 1) := by decide +kernel
theorem dX6_about_26 : decode cX6_about 26 = .ok (.iload_n 3, 1) := by decide +kernel
theorem dX6_about_27 : decode cX6_about 27 = .ok (.tableswitch 111 0 4 #[33, 45, 57, 69, 90], 33) := by decide +kernel
theorem dX6_about_60 : decode cX6_about 60 = .ok (.aload_n 0, 1) := by decide +kernel
theorem dX6_about_61 : decode cX6_about 61 = .ok (.getfield 44, 3) := by decide +kernel
theorem dX6_about_64 : decode cX6_about 64 = .ok (.bipush 24, 2) := by decide +kernel
theorem dX6_about_66 : decode cX6_about 66 = .ok (.iload_n 1, 1) := by decide +kernel
theorem dX6_about_67 : decode cX6_about 67 = .ok (.imul, 1) := by decide +kernel
theorem dX6_about_68 : decode cX6_about 68 = .ok (.iload_n 2, 1) := by decide +kernel
theorem dX6_about_69 : decode cX6_about 69 = .ok (.iadd, 1) := by decide +kernel
theorem dX6_about_70 : decode cX6_about 70 = .ok (.iaload, 1) := by decide +kernel
theorem dX6_about_71 : decode cX6_about 71 = .ok (.ireturn, 1) := by decide +kernel
theorem dX6_about_72 : decode cX6_about 72 = .ok (.aload_n 0, 1) := by decide +kernel
theorem dX6_about_73 : decode cX6_about 73 = .ok (.getfield 47, 3) := by decide +kernel
theorem dX6_about_76 : decode cX6_about 76 = .ok (.bipush 24, 2) := by decide +kernel
theorem dX6_about_78 : decode cX6_about 78 = .ok (.iload_n 1, 1) := by decide +kernel
theorem dX6_about_79 : decode cX6_about 79 = .ok (.imul, 1) := by decide +kernel
theorem dX6_about_80 : decode cX6_about 80 = .ok (.iload_n 2, 1) := by decide +kernel
theorem dX6_about_81 : decode cX6_about 81 = .ok (.iadd, 1) := by decide +kernel
theorem dX6_about_82 : decode cX6_about 82 = .ok (.iaload, 1) := by decide +kernel
theorem dX6_about_83 : decode cX6_about 83 = .ok (.ireturn, 1) := by decide +kernel
theorem dX6_about_84 : decode cX6_about 84 = .ok (.aload_n 0, 1) := by decide +kernel
theorem dX6_about_85 : decode cX6_about 85 = .ok (.getfield 50, 3) := by decide +kernel
theorem dX6_about_88 : decode cX6_about 88 = .ok (.bipush 24, 2) := by decide +kernel
theorem dX6_about_90 : decode cX6_about 90 = .ok (.iload_n 1, 1) := by decide +kernel
theorem dX6_about_91 : decode cX6_about 91 = .ok (.imul, 1) := by decide +kernel
theorem dX6_about_92 : decode cX6_about 92 = .ok (.iload_n 2, 1) := by decide +kernel
theorem dX6_about_93 : decode cX6_about 93 = .ok (.iadd, 1) := by decide +kernel
theorem dX6_about_94 : decode cX6_about 94 = .ok (.iaload, 1) := by decide +kernel
theorem dX6_about_95 : decode cX6_about 95 = .ok (.ireturn, 1) := by decide +kernel
theorem dX6_about_96 : decode cX6_about 96 = .ok (.aload_n 0, 1) := by decide +kernel
theorem dX6_about_97 : decode cX6_about 97 = .ok (.iload_n 1, 1) := by decide +kernel
theorem dX6_about_98 : decode cX6_about 98 = .ok (.iload_n 2, 1) := by decide +kernel
theorem dX6_about_99 : decode cX6_about 99 = .ok (.invokevirtual 171, 3) := by decide +kernel
theorem dX6_about_102 : decode cX6_about 102 = .ok (.ifCond .eq 12, 3) := by decide +kernel
theorem dX6_about_105 : decode cX6_about 105 = .ok (.aload_n 0, 1) := by decide +kernel
theorem dX6_about_106 : decode cX6_about 106 = .ok (.iload_n 1, 1) := by decide +kernel
theorem dX6_about_107 : decode cX6_about 107 = .ok (.iload_n 2, 1) := by decide +kernel
theorem dX6_about_108 : decode cX6_about 108 = .ok (.invokevirtual 162, 3) := by decide +kernel
theorem dX6_about_111 : decode cX6_about 111 = .ok (.goto 5, 3) := by decide +kernel
theorem dX6_about_114 : decode cX6_about 114 = .ok (.ldc 134, 2) := by decide +kernel
theorem dX6_about_116 : decode cX6_about 116 = .ok (.ireturn, 1) := by decide +kernel
theorem dX6_about_117 : decode cX6_about 117 = .ok (.aload_n 0, 1) := by decide +kernel
theorem dX6_about_118 : decode cX6_about 118 = .ok (.iload_n 1, 1) := by decide +kernel
theorem dX6_about_119 : decode cX6_about 119 = .ok (.iload_n 2, 1) := by decide +kernel
theorem dX6_about_120 : decode cX6_about 120 = .ok (.invokevirtual 171, 3) := by decide +kernel
theorem dX6_about_123 : decode cX6_about 123 = .ok (.ifCond .eq 12, 3) := by decide +kernel
theorem dX6_about_126 : decode cX6_about 126 = .ok (.aload_n 0, 1) := by decide +kernel
theorem dX6_about_127 : decode cX6_about 127 = .ok (.iload_n 1, 1) := by decide +kernel
theorem dX6_about_128 : decode cX6_about 128 = .ok (.iload_n 2, 1) := by decide +kernel
theorem dX6_about_129 : decode cX6_about 129 = .ok (.invokevirtual 165, 3) := by decide +kernel
theorem dX6_about_132 : decode cX6_about 132 = .ok (.goto 5, 3) := by decide +kernel
theorem dX6_about_135 : decode cX6_about 135 = .ok (.ldc 134, 2) := by decide +kernel
theorem dX6_about_137 : decode cX6_about 137 = .ok (.ireturn, 1) := by decide +kernel
theorem dX6_about_138 : decode cX6_about 138 = .ok (.ldc 134, 2) := by decide +kernel
theorem dX6_about_140 : decode cX6_about 140 = .ok (.ireturn, 1) := by decide +kernel
set_option maxRecDepth 20000 in
theorem ggX6_count_X6_isSeries : GoodIn wsX6_count wsX6_isSeries := goodIn_r _ [10, 11, 12, 13, 9, 14, 95, 96, 97, 98, 99, 100, 101, 102, 103, 104, 105, 106, 107, 108, 109, 110, 111, 112, 113, 114, 115, 116, 117, 118, 119, 120] (by decide +kernel) (by decide +kernel)
set_option maxRecDepth 20000 in
theorem gX6_count_X6_isSeries : GoodIn wsX6_count (wsV RX6 151 RX6 yX6_isSeries wsX6_isSeries) := goodIn_app (goodIn_of _ (by decide +kernel)) ggX6_count_X6_isSeries
set_option maxRecDepth 20000 in
theorem ggX6_count_X6_in : GoodIn wsX6_count wsX6_in := goodIn_r _ [14] (by decide +kernel) (by decide +kernel)
set_option maxRecDepth 20000 in
theorem gX6_count_X6_in : GoodIn wsX6_count (va_wsS RX6 86 yX6_in wsX6_in) := goodIn_app (goodIn_of _ (by decide +kernel)) ggX6_count_X6_in
set_option maxRecDepth 20000 in
theorem ggX6_count_X6_isSeen : GoodIn wsX6_count wsX6_isSeen := goodIn_r _ [18, 2, 19, 20, 21, 9, 22, 23, 24, 25, 26, 27, 28, 29, 30, 31, 32, 33, 34, 35, 36, 37, 38, 39, 40, 41, 42, 43, 44, 45, 46, 47, 48, 49, 50, 51, 52, 53, 3, 4, 54, 55, 56, 57, 58, 95, 96, 97, 98, 99, 100, 101, 102, 103, 104, 105, 106, 107, 108, 109, 110, 111, 112, 113, 114, 115, 116, 117, 118, 119, 120] (by decide +kernel) (by decide +kernel)
set_option maxRecDepth 20000 in
theorem gX6_count_X6_isSeen : GoodIn wsX6_count (wsV RX6 171 RX6 yX6_isSeen wsX6_isSeen) := goodIn_app (goodIn_of _ (by decide +kernel)) ggX6_count_X6_isSeen
set_option maxRecDepth 20000 in
theorem ggX6_count_X6_draws : GoodIn wsX6_count wsX6_draws := goodIn_r _ [62, 63, 64, 5, 11, 1, 15, 16, 17, 9, 18, 2, 19, 20, 21, 22, 23, 24, 25, 26, 27, 28, 29, 30, 31, 32, 33, 34, 35, 36, 37, 38, 39, 40, 41, 42, 43, 44, 45, 46, 47, 48, 49, 50, 51, 52, 53, 3, 4, 54, 55, 56, 57, 58, 65, 66, 67, 68, 69, 70, 71, 72, 73, 74, 75, 76, 77, 78, 79, 80, 81, 82, 83, 84, 85, 86, 87, 88, 89, 90, 91, 92, 93, 94, 95, 96, 97, 98, 99, 100, 101, 102, 103, 104, 105, 106, 107, 108, 109, 110, 111, 112, 113, 114, 115, 116, 117, 118, 119, 120] (by decide +kernel) (by decide +kernel)
set_option maxRecDepth 20000 in
theorem gX6_count_X6_draws : GoodIn wsX6_count (wsV RX6 174 RX6 yX6_draws wsX6_draws) := goodIn_app (goodIn_of _ (by decide +kernel)) ggX6_count_X6_draws
theorem dX6_count_0 : decode cX6_count 0 = .ok (.aload_n 0, 1) := by decide +kernel
theorem dX6_count_1 : decode cX6_count 1 = .ok (.iload_n 1, 1) := by decide +kernel
theorem dX6_count_2 : decode cX6_count 2 = .ok (.invokevirtual 151, 3) := by decide +kernel
theorem dX6_count_5 : decode cX6_count 5 = .ok (.ifCond .eq 12, 3) := by decide +kernel
theorem dX6_count_8 : decode cX6_count 8 = .ok (.iload_n 2, 1) := by decide +kernel
theorem dX6_count_9 : decode cX6_count 9 = .ok (.iconst 0, 1) := by decide +kernel
theorem dX6_count_10 : decode cX6_count 10 = .ok (.iconst 4, 1) := by decide +kernel
theorem dX6_count_11 : decode cX6_count 11 = .ok (.invokestatic 86, 3) := by decide +kernel
theorem dX6_count_14 : decode cX6_count 14 = .ok (.ifCond .ne 5, 3) := by decide +kernel
theorem dX6_count_17 : decode cX6_count 17 = .ok (.iconst (-1), 1) := by decide +kernel
theorem dX6_count_18 : decode cX6_count 18 = .ok (.ireturn, 1) := by decide +kernel
theorem dX6_count_19 : decode cX6_count 19 = .ok (.iconst 0, 1) := by decide +kernel
theorem dX6_count_20 : decode cX6_count 20 = .ok (.istore_n 3, 1) := by decide +kernel
theorem dX6_count_21 : decode cX6_count 21 = .ok (.iconst 0, 1) := by decide +kernel
theorem dX6_count_22 : decode cX6_count 22 = .ok (.istore 4, 2) := by decide +kernel
theorem dX6_count_24 : decode cX6_count 24 = .ok (.iconst 0, 1) := by decide +kernel
theorem dX6_count_25 : decode cX6_count 25 = .ok (.istore 5, 2) := by decide +kernel
theorem dX6_count_27 : decode cX6_count 27 = .ok (.iconst 0, 1) := by decide +kernel
theorem dX6_count_28 : decode cX6_count 28 = .ok (.istore 6, 2) := by decide +kernel
theorem dX6_count_30 : decode cX6_count 30 = .ok (.iload 6, 2) := by decide +kernel
theorem dX6_count_32 : decode cX6_count 32 = .ok (.aload_n 0, 1) := by decide +kernel
theorem dX6_count_33 : decode cX6_count 33 = .ok (.getfield 41, 3) := by decide +kernel
theorem dX6_count_36 : decode cX6_count 36 = .ok (.iload_n 1, 1) := by decide +kernel
theorem dX6_count_37 : decode cX6_count 37 = .ok (.iaload, 1) := by decide +kernel
theorem dX6_count_38 : decode cX6_count 38 = .ok (.if_icmp .ge 93, 3) := by decide +kernel
theorem dX6_count_41 : decode cX6_count 41 = .ok (.aload_n 0, 1) := by decide +kernel
theorem dX6_count_42 : decode cX6_count 42 = .ok (.getfield 53, 3) := by decide +kernel
theorem dX6_count_45 : decode cX6_count 45 = .ok (.bipush 24, 2) := by decide +kernel
theorem dX6_count_47 : decode cX6_count 47 = .ok (.iload_n 1, 1) := by decide +kernel
theorem dX6_count_48 : decode cX6_count 48 = .ok (.imul, 1) := by decide +kernel
theorem dX6_count_49 : decode cX6_count 49 = .ok (.iload 6, 2) := by decide +kernel
theorem dX6_count_51 : decode cX6_count 51 = .ok (.iadd, 1) := by decide +kernel
theorem dX6_count_52 : decode cX6_count 52 = .ok (.baload, 1) := by decide +kernel
theorem dX6_count_53 : decode cX6_count 53 = .ok (.istore 7, 2) := by decide +kernel
theorem dX6_count_55 : decode cX6_count 55 = .ok (.iload_n 3, 1) := by decide +kernel
theorem dX6_count_56 : decode cX6_count 56 = .ok (.iload 7, 2) := by decide +kernel
theorem dX6_count_58 : decode cX6_count 58 = .ok (.ifCond .eq 7, 3) := by decide +kernel
theorem dX6_count_61 : decode cX6_count 61 = .ok (.iconst 1, 1) := by decide +kernel
theorem dX6_count_62 : decode cX6_count 62 = .ok (.goto 4, 3) := by decide +kernel
theorem dX6_count_65 : decode cX6_count 65 = .ok (.iconst 0, 1) := by decide +kernel
theorem dX6_count_66 : decode cX6_count 66 = .ok (.iadd, 1) := by decide +kernel
theorem dX6_count_67 : decode cX6_count 67 = .ok (.istore_n 3, 1) := by decide +kernel
theorem dX6_count_68 : decode cX6_count 68 = .ok (.iload 4, 2) := by decide +kernel
theorem dX6_count_70 : decode cX6_count 70 = .ok (.iload 7, 2) := by decide +kernel
theorem dX6_count_72 : decode cX6_count 72 = .ok (.ifCond .ne 29, 3) := by decide +kernel
theorem dX6_count_75 : decode cX6_count 75 = .ok (.iload 6, 2) := by decide +kernel
theorem dX6_count_77 : decode cX6_count 77 = .ok (.ifCond .eq 20, 3) := by decide +kernel
theorem dX6_count_80 : decode cX6_count 80 = .ok (.aload_n 0, 1) := by decide +kernel
theorem dX6_count_81 : decode cX6_count 81 = .ok (.getfield 53, 3) := by decide +kernel
theorem dX6_count_84 : decode cX6_count 84 = .ok (.bipush 24, 2) := by decide +kernel
theorem dX6_count_86 : decode cX6_count 86 = .ok (.iload_n 1, 1) := by decide +kernel
theorem dX6_count_87 : decode cX6_count 87 = .ok (.imul, 1) := by decide +kernel
theorem dX6_count_88 : decode cX6_count 88 = .ok (.iload 6, 2) := by decide +kernel
theorem dX6_count_90 : decode cX6_count 90 = .ok (.iadd, 1) := by decide +kernel
theorem dX6_count_91 : decode cX6_count 91 = .ok (.iconst 1, 1) := by decide +kernel
theorem dX6_count_92 : decode cX6_count 92 = .ok (.isub, 1) := by decide +kernel
theorem dX6_count_93 : decode cX6_count 93 = .ok (.baload, 1) := by decide +kernel
theorem dX6_count_94 : decode cX6_count 94 = .ok (.ifCond .eq 7, 3) := by decide +kernel
theorem dX6_count_97 : decode cX6_count 97 = .ok (.iconst 1, 1) := by decide +kernel
theorem dX6_count_98 : decode cX6_count 98 = .ok (.goto 4, 3) := by decide +kernel
theorem dX6_count_101 : decode cX6_count 101 = .ok (.iconst 0, 1) := by decide +kernel
theorem dX6_count_102 : decode cX6_count 102 = .ok (.iadd, 1) := by decide +kernel
theorem dX6_count_103 : decode cX6_count 103 = .ok (.istore 4, 2) := by decide +kernel
theorem dX6_count_105 : decode cX6_count 105 = .ok (.iload 5, 2) := by decide +kernel
theorem dX6_count_107 : decode cX6_count 107 = .ok (.aload_n 0, 1) := by decide +kernel
theorem dX6_count_108 : decode cX6_count 108 = .ok (.iload_n 1, 1) := by decide +kernel
theorem dX6_count_109 : decode cX6_count 109 = .ok (.iload 6, 2) := by decide +kernel
theorem dX6_count_111 : decode cX6_count 111 = .ok (.invokevirtual 171, 3) := by decide +kernel
theorem dX6_count_114 : decode cX6_count 114 = .ok (.ifCond .eq 7, 3) := by decide +kernel
theorem dX6_count_117 : decode cX6_count 117 = .ok (.iconst 1, 1) := by decide +kernel
theorem dX6_count_118 : decode cX6_count 118 = .ok (.goto 4, 3) := by decide +kernel
theorem dX6_count_121 : decode cX6_count 121 = .ok (.iconst 0, 1) := by decide +kernel
theorem dX6_count_122 : decode cX6_count 122 = .ok (.iadd, 1) := by decide +kernel
theorem dX6_count_123 : decode cX6_count 123 = .ok (.istore 5, 2) := by decide +kernel
theorem dX6_count_125 : decode cX6_count 125 = .ok (.iinc 6 1, 3) := by decide +kernel
theorem dX6_count_128 : decode cX6_count 128 = .ok (.goto (-98), 3) := by decide +kernel
theorem dX6_count_131 : decode cX6_count 131 = .ok (.iload_n 2, 1) := by decide +kernel
theorem dX6_count_132 : decode cX6_count 132 = .ok (.iconst 4, 1) := by decide +kernel
theorem dX6_count_133 : decode cX6_count 133 = .ok (.if_icmp .ge 38, 3) := by decide +kernel
theorem dX6_count_136 : decode cX6_count 136 = .ok (.iload_n 2, 1) := by decide +kernel
theorem dX6_count_137 : decode cX6_count 137 = .ok (.ifCond .ne 12, 3) := by decide +kernel
theorem dX6_count_140 : decode cX6_count 140 = .ok (.aload_n 0, 1) := by decide +kernel
theorem dX6_count_141 : decode cX6_count 141 = .ok (.getfield 41, 3) := by decide +kernel
theorem dX6_count_144 : decode cX6_count 144 = .ok (.iload_n 1, 1) := by decide +kernel
theorem dX6_count_145 : decode cX6_count 145 = .ok (.iaload, 1) := by decide +kernel
theorem dX6_count_146 : decode cX6_count 146 = .ok (.goto 24, 3) := by decide +kernel
theorem dX6_count_149 : decode cX6_count 149 = .ok (.iload_n 2, 1) := by decide +kernel
theorem dX6_count_150 : decode cX6_count 150 = .ok (.iconst 1, 1) := by decide +kernel
theorem dX6_count_151 : decode cX6_count 151 = .ok (.if_icmp .ne 7, 3) := by decide +kernel
theorem dX6_count_154 : decode cX6_count 154 = .ok (.iload_n 3, 1) := by decide +kernel
theorem dX6_count_155 : decode cX6_count 155 = .ok (.goto 15, 3) := by decide +kernel
theorem dX6_count_158 : decode cX6_count 158 = .ok (.iload_n 2, 1) := by decide +kernel
theorem dX6_count_159 : decode cX6_count 159 = .ok (.iconst 2, 1) := by decide +kernel
theorem dX6_count_160 : decode cX6_count 160 = .ok (.if_icmp .ne 8, 3) := by decide +kernel
theorem dX6_count_163 : decode cX6_count 163 = .ok (.iload 4, 2) := by decide +kernel
theorem dX6_count_165 : decode cX6_count 165 = .ok (.goto 5, 3) := by decide +kernel
theorem dX6_count_168 : decode cX6_count 168 = .ok (.iload 5, 2) := by decide +kernel
theorem dX6_count_170 : decode cX6_count 170 = .ok (.ireturn, 1) := by decide +kernel
theorem dX6_count_171 : decode cX6_count 171 = .ok (.aload_n 0, 1) := by decide +kernel
theorem dX6_count_172 : decode cX6_count 172 = .ok (.invokevirtual 174, 3) := by decide +kernel
theorem dX6_count_175 : decode cX6_count 175 = .ok (.iconst 0, 1) := by decide +kernel
theorem dX6_count_176 : decode cX6_count 176 = .ok (.istore 6, 2) := by decide +kernel
theorem dX6_count_178 : decode cX6_count 178 = .ok (.iconst 0, 1) := by decide +kernel
theorem dX6_count_179 : decode cX6_count 179 = .ok (.istore 7, 2) := by decide +kernel
theorem dX6_count_181 : decode cX6_count 181 = .ok (.iload 7, 2) := by decide +kernel
theorem dX6_count_183 : decode cX6_count 183 = .ok (.aload_n 0, 1) := by decide +kernel
theorem dX6_count_184 : decode cX6_count 184 = .ok (.getfield 7, 3) := by decide +kernel
theorem dX6_count_187 : decode cX6_count 187 = .ok (.aload_n 0, 1) := by decide +kernel
theorem dX6_count_188 : decode cX6_count 188 = .ok (.getfield 13, 3) := by decide +kernel
theorem dX6_count_191 : decode cX6_count 191 = .ok (.imul, 1) := by decide +kernel
theorem dX6_count_192 : decode cX6_count 192 = .ok (.if_icmp .ge 35, 3) := by decide +kernel
theorem dX6_count_195 : decode cX6_count 195 = .ok (.iload 6, 2) := by decide +kernel
theorem dX6_count_197 : decode cX6_count 197 = .ok (.aload_n 0, 1) := by decide +kernel
theorem dX6_count_198 : decode cX6_count 198 = .ok (.getfield 75, 3) := by decide +kernel
theorem dX6_count_201 : decode cX6_count 201 = .ok (.sipush 640, 3) := by decide +kernel
theorem dX6_count_204 : decode cX6_count 204 = .ok (.iload_n 1, 1) := by decide +kernel
theorem dX6_count_205 : decode cX6_count 205 = .ok (.imul, 1) := by decide +kernel
theorem dX6_count_206 : decode cX6_count 206 = .ok (.iload 7, 2) := by decide +kernel
theorem dX6_count_208 : decode cX6_count 208 = .ok (.iadd, 1) := by decide +kernel
theorem dX6_count_209 : decode cX6_count 209 = .ok (.iaload, 1) := by decide +kernel
theorem dX6_count_210 : decode cX6_count 210 = .ok (.ifCond .eq 7, 3) := by decide +kernel
theorem dX6_count_213 : decode cX6_count 213 = .ok (.iconst 1, 1) := by decide +kernel
theorem dX6_count_214 : decode cX6_count 214 = .ok (.goto 4, 3) := by decide +kernel
theorem dX6_count_217 : decode cX6_count 217 = .ok (.iconst 0, 1) := by decide +kernel
theorem dX6_count_218 : decode cX6_count 218 = .ok (.iadd, 1) := by decide +kernel
theorem dX6_count_219 : decode cX6_count 219 = .ok (.istore 6, 2) := by decide +kernel
theorem dX6_count_221 : decode cX6_count 221 = .ok (.iinc 7 1, 3) := by decide +kernel
theorem dX6_count_224 : decode cX6_count 224 = .ok (.goto (-43), 3) := by decide +kernel
theorem dX6_count_227 : decode cX6_count 227 = .ok (.iload 6, 2) := by decide +kernel
theorem dX6_count_229 : decode cX6_count 229 = .ok (.ireturn, 1) := by decide +kernel
set_option maxRecDepth 20000 in
theorem ggX6_five_X6_isSeries : GoodIn wsX6_five wsX6_isSeries := goodIn_r _ [10, 11, 12, 13, 9, 14, 15, 16, 17, 18, 19, 20, 21, 22, 23, 24, 25, 26, 27, 28, 29, 30, 31, 32, 33, 34, 35, 36, 37, 38, 39, 40] (by decide +kernel) (by decide +kernel)
set_option maxRecDepth 20000 in
theorem gX6_five_X6_isSeries : GoodIn wsX6_five (wsV RX6 151 RX6 yX6_isSeries wsX6_isSeries) := goodIn_app (goodIn_of _ (by decide +kernel)) ggX6_five_X6_isSeries
set_option maxRecDepth 20000 in
theorem ggX6_five_X6_in : GoodIn wsX6_five wsX6_in := goodIn_r _ [14] (by decide +kernel) (by decide +kernel)
set_option maxRecDepth 20000 in
theorem gX6_five_X6_in : GoodIn wsX6_five (va_wsS RX6 86 yX6_in wsX6_in) := goodIn_app (goodIn_of _ (by decide +kernel)) ggX6_five_X6_in
theorem dX6_five_0 : decode cX6_five 0 = .ok (.aload_n 0, 1) := by decide +kernel
theorem dX6_five_1 : decode cX6_five 1 = .ok (.iload_n 1, 1) := by decide +kernel
theorem dX6_five_2 : decode cX6_five 2 = .ok (.invokevirtual 151, 3) := by decide +kernel
theorem dX6_five_5 : decode cX6_five 5 = .ok (.ifCond .eq 12, 3) := by decide +kernel
theorem dX6_five_8 : decode cX6_five 8 = .ok (.iload_n 2, 1) := by decide +kernel
theorem dX6_five_9 : decode cX6_five 9 = .ok (.iconst 0, 1) := by decide +kernel
theorem dX6_five_10 : decode cX6_five 10 = .ok (.iconst 4, 1) := by decide +kernel
theorem dX6_five_11 : decode cX6_five 11 = .ok (.invokestatic 86, 3) := by decide +kernel
theorem dX6_five_14 : decode cX6_five 14 = .ok (.ifCond .ne 6, 3) := by decide +kernel
theorem dX6_five_17 : decode cX6_five 17 = .ok (.ldc 134, 2) := by decide +kernel
theorem dX6_five_19 : decode cX6_five 19 = .ok (.ireturn, 1) := by decide +kernel
theorem dX6_five_20 : decode cX6_five 20 = .ok (.iconst 0, 1) := by decide +kernel
theorem dX6_five_21 : decode cX6_five 21 = .ok (.istore_n 3, 1) := by decide +kernel
theorem dX6_five_22 : decode cX6_five 22 = .ok (.bipush 24, 2) := by decide +kernel
theorem dX6_five_24 : decode cX6_five 24 = .ok (.iload_n 1, 1) := by decide +kernel
theorem dX6_five_25 : decode cX6_five 25 = .ok (.imul, 1) := by decide +kernel
theorem dX6_five_26 : decode cX6_five 26 = .ok (.istore 4, 2) := by decide +kernel
theorem dX6_five_28 : decode cX6_five 28 = .ok (.iload 4, 2) := by decide +kernel
theorem dX6_five_30 : decode cX6_five 30 = .ok (.bipush 24, 2) := by decide +kernel
theorem dX6_five_32 : decode cX6_five 32 = .ok (.iload_n 1, 1) := by decide +kernel
theorem dX6_five_33 : decode cX6_five 33 = .ok (.imul, 1) := by decide +kernel
theorem dX6_five_34 : decode cX6_five 34 = .ok (.aload_n 0, 1) := by decide +kernel
theorem dX6_five_35 : decode cX6_five 35 = .ok (.getfield 41, 3) := by decide +kernel
theorem dX6_five_38 : decode cX6_five 38 = .ok (.iload_n 1, 1) := by decide +kernel
theorem dX6_five_39 : decode cX6_five 39 = .ok (.iaload, 1) := by decide +kernel
theorem dX6_five_40 : decode cX6_five 40 = .ok (.iadd, 1) := by decide +kernel
theorem dX6_five_41 : decode cX6_five 41 = .ok (.if_icmp .ge 85, 3) := by decide +kernel
theorem dX6_five_44 : decode cX6_five 44 = .ok (.aload_n 0, 1) := by decide +kernel
theorem dX6_five_45 : decode cX6_five 45 = .ok (.getfield 53, 3) := by decide +kernel
theorem dX6_five_48 : decode cX6_five 48 = .ok (.iload 4, 2) := by decide +kernel
theorem dX6_five_50 : decode cX6_five 50 = .ok (.baload, 1) := by decide +kernel
theorem dX6_five_51 : decode cX6_five 51 = .ok (.ifCond .ne 69, 3) := by decide +kernel
theorem dX6_five_54 : decode cX6_five 54 = .ok (.iload_n 3, 1) := by decide +kernel
theorem dX6_five_55 : decode cX6_five 55 = .ok (.istore 5, 2) := by decide +kernel
theorem dX6_five_57 : decode cX6_five 57 = .ok (.iload 5, 2) := by decide +kernel
theorem dX6_five_59 : decode cX6_five 59 = .ok (.ifCond .le 44, 3) := by decide +kernel
theorem dX6_five_62 : decode cX6_five 62 = .ok (.aload_n 0, 1) := by decide +kernel
theorem dX6_five_63 : decode cX6_five 63 = .ok (.getfield 78, 3) := by decide +kernel
theorem dX6_five_66 : decode cX6_five 66 = .ok (.iload 5, 2) := by decide +kernel
theorem dX6_five_68 : decode cX6_five 68 = .ok (.iconst 1, 1) := by decide +kernel
theorem dX6_five_69 : decode cX6_five 69 = .ok (.isub, 1) := by decide +kernel
theorem dX6_five_70 : decode cX6_five 70 = .ok (.iaload, 1) := by decide +kernel
theorem dX6_five_71 : decode cX6_five 71 = .ok (.aload_n 0, 1) := by decide +kernel
theorem dX6_five_72 : decode cX6_five 72 = .ok (.getfield 47, 3) := by decide +kernel
theorem dX6_five_75 : decode cX6_five 75 = .ok (.iload 4, 2) := by decide +kernel
theorem dX6_five_77 : decode cX6_five 77 = .ok (.iaload, 1) := by decide +kernel
theorem dX6_five_78 : decode cX6_five 78 = .ok (.if_icmp .le 25, 3) := by decide +kernel
theorem dX6_five_81 : decode cX6_five 81 = .ok (.aload_n 0, 1) := by decide +kernel
theorem dX6_five_82 : decode cX6_five 82 = .ok (.getfield 78, 3) := by decide +kernel
theorem dX6_five_85 : decode cX6_five 85 = .ok (.iload 5, 2) := by decide +kernel
theorem dX6_five_87 : decode cX6_five 87 = .ok (.aload_n 0, 1) := by decide +kernel
theorem dX6_five_88 : decode cX6_five 88 = .ok (.getfield 78, 3) := by decide +kernel
theorem dX6_five_91 : decode cX6_five 91 = .ok (.iload 5, 2) := by decide +kernel
theorem dX6_five_93 : decode cX6_five 93 = .ok (.iconst 1, 1) := by decide +kernel
theorem dX6_five_94 : decode cX6_five 94 = .ok (.isub, 1) := by decide +kernel
theorem dX6_five_95 : decode cX6_five 95 = .ok (.iaload, 1) := by decide +kernel
theorem dX6_five_96 : decode cX6_five 96 = .ok (.iastore, 1) := by decide +kernel
theorem dX6_five_97 : decode cX6_five 97 = .ok (.iinc 5 (-1), 3) := by decide +kernel
theorem dX6_five_100 : decode cX6_five 100 = .ok (.goto (-43), 3) := by decide +kernel
theorem dX6_five_103 : decode cX6_five 103 = .ok (.aload_n 0, 1) := by decide +kernel
theorem dX6_five_104 : decode cX6_five 104 = .ok (.getfield 78, 3) := by decide +kernel
theorem dX6_five_107 : decode cX6_five 107 = .ok (.iload 5, 2) := by decide +kernel
theorem dX6_five_109 : decode cX6_five 109 = .ok (.aload_n 0, 1) := by decide +kernel
theorem dX6_five_110 : decode cX6_five 110 = .ok (.getfield 47, 3) := by decide +kernel
theorem dX6_five_113 : decode cX6_five 113 = .ok (.iload 4, 2) := by decide +kernel
theorem dX6_five_115 : decode cX6_five 115 = .ok (.iaload, 1) := by decide +kernel
theorem dX6_five_116 : decode cX6_five 116 = .ok (.iastore, 1) := by decide +kernel
theorem dX6_five_117 : decode cX6_five 117 = .ok (.iinc 3 1, 3) := by decide +kernel
theorem dX6_five_120 : decode cX6_five 120 = .ok (.iinc 4 1, 3) := by decide +kernel
theorem dX6_five_123 : decode cX6_five 123 = .ok (.goto (-95), 3) := by decide +kernel
theorem dX6_five_126 : decode cX6_five 126 = .ok (.iload_n 3, 1) := by decide +kernel
theorem dX6_five_127 : decode cX6_five 127 = .ok (.ifCond .ne 8, 3) := by decide +kernel
theorem dX6_five_130 : decode cX6_five 130 = .ok (.ldc 134, 2) := by decide +kernel
theorem dX6_five_132 : decode cX6_five 132 = .ok (.goto 15, 3) := by decide +kernel
theorem dX6_five_135 : decode cX6_five 135 = .ok (.aload_n 0, 1) := by decide +kernel
theorem dX6_five_136 : decode cX6_five 136 = .ok (.getfield 78, 3) := by decide +kernel
theorem dX6_five_139 : decode cX6_five 139 = .ok (.iload_n 2, 1) := by decide +kernel
theorem dX6_five_140 : decode cX6_five 140 = .ok (.iload_n 3, 1) := by decide +kernel
theorem dX6_five_141 : decode cX6_five 141 = .ok (.iconst 1, 1) := by decide +kernel
theorem dX6_five_142 : decode cX6_five 142 = .ok (.isub, 1) := by decide +kernel
theorem dX6_five_143 : decode cX6_five 143 = .ok (.imul, 1) := by decide +kernel
theorem dX6_five_144 : decode cX6_five 144 = .ok (.iconst 4, 1) := by decide +kernel
theorem dX6_five_145 : decode cX6_five 145 = .ok (.idiv, 1) := by decide +kernel
theorem dX6_five_146 : decode cX6_five 146 = .ok (.iaload, 1) := by decide +kernel
theorem dX6_five_147 : decode cX6_five 147 = .ok (.ireturn, 1) := by decide +kernel
theorem dX6_cellOf_0 : decode cX6_cellOf 0 = .ok (.aload_n 0, 1) := by decide +kernel
theorem dX6_cellOf_1 : decode cX6_cellOf 1 = .ok (.getfield 13, 3) := by decide +kernel
theorem dX6_cellOf_4 : decode cX6_cellOf 4 = .ok (.iconst 1, 1) := by decide +kernel
theorem dX6_cellOf_5 : decode cX6_cellOf 5 = .ok (.isub, 1) := by decide +kernel
theorem dX6_cellOf_6 : decode cX6_cellOf 6 = .ok (.iload_n 2, 1) := by decide +kernel
theorem dX6_cellOf_7 : decode cX6_cellOf 7 = .ok (.iconst 4, 1) := by decide +kernel
theorem dX6_cellOf_8 : decode cX6_cellOf 8 = .ok (.idiv, 1) := by decide +kernel
theorem dX6_cellOf_9 : decode cX6_cellOf 9 = .ok (.isub, 1) := by decide +kernel
theorem dX6_cellOf_10 : decode cX6_cellOf 10 = .ok (.aload_n 0, 1) := by decide +kernel
theorem dX6_cellOf_11 : decode cX6_cellOf 11 = .ok (.getfield 7, 3) := by decide +kernel
theorem dX6_cellOf_14 : decode cX6_cellOf 14 = .ok (.imul, 1) := by decide +kernel
theorem dX6_cellOf_15 : decode cX6_cellOf 15 = .ok (.iload_n 1, 1) := by decide +kernel
theorem dX6_cellOf_16 : decode cX6_cellOf 16 = .ok (.iconst 2, 1) := by decide +kernel
theorem dX6_cellOf_17 : decode cX6_cellOf 17 = .ok (.idiv, 1) := by decide +kernel
theorem dX6_cellOf_18 : decode cX6_cellOf 18 = .ok (.iadd, 1) := by decide +kernel
theorem dX6_cellOf_19 : decode cX6_cellOf 19 = .ok (.ireturn, 1) := by decide +kernel
