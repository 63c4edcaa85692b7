theorem dX0_init_0 : decode cX0_init 0 = .ok (.aload_n 0, 1) := by decide +kernel
theorem dX0_init_1 : decode cX0_init 1 = .ok (.invokespecial 3, 3) := by decide +kernel
theorem dX0_init_4 : decode cX0_init 4 = .ok (.aload_n 0, 1) := by decide +kernel
theorem dX0_init_5 : decode cX0_init 5 = .ok (.bipush 20, 2) := by decide +kernel
theorem dX0_init_7 : decode cX0_init 7 = .ok (.newarray .int, 2) := by decide +kernel
theorem dX0_init_9 : decode cX0_init 9 = .ok (.putfield 9, 3) := by decide +kernel
theorem dX0_init_12 : decode cX0_init 12 = .ok (.aload_n 0, 1) := by decide +kernel
theorem dX0_init_13 : decode cX0_init 13 = .ok (.bipush 20, 2) := by decide +kernel
theorem dX0_init_15 : decode cX0_init 15 = .ok (.newarray .int, 2) := by decide +kernel
theorem dX0_init_17 : decode cX0_init 17 = .ok (.putfield 15, 3) := by decide +kernel
theorem dX0_init_20 : decode cX0_init 20 = .ok (.aload_n 0, 1) := by decide +kernel
theorem dX0_init_21 : decode cX0_init 21 = .ok (.bipush 20, 2) := by decide +kernel
theorem dX0_init_23 : decode cX0_init 23 = .ok (.newarray .int, 2) := by decide +kernel
theorem dX0_init_25 : decode cX0_init 25 = .ok (.putfield 18, 3) := by decide +kernel
theorem dX0_init_28 : decode cX0_init 28 = .ok (.aload_n 0, 1) := by decide +kernel
theorem dX0_init_29 : decode cX0_init 29 = .ok (.bipush 20, 2) := by decide +kernel
theorem dX0_init_31 : decode cX0_init 31 = .ok (.newarray .int, 2) := by decide +kernel
theorem dX0_init_33 : decode cX0_init 33 = .ok (.putfield 21, 3) := by decide +kernel
theorem dX0_init_36 : decode cX0_init 36 = .ok (.aload_n 0, 1) := by decide +kernel
theorem dX0_init_37 : decode cX0_init 37 = .ok (.bipush 20, 2) := by decide +kernel
theorem dX0_init_39 : decode cX0_init 39 = .ok (.newarray .int, 2) := by decide +kernel
theorem dX0_init_41 : decode cX0_init 41 = .ok (.putfield 24, 3) := by decide +kernel
theorem dX0_init_44 : decode cX0_init 44 = .ok (.return_, 1) := by decide +kernel
theorem dX0_add_0 : decode cX0_add 0 = .ok (.aload_n 0, 1) := by decide +kernel
theorem dX0_add_1 : decode cX0_add 1 = .ok (.getfield 27, 3) := by decide +kernel
theorem dX0_add_4 : decode cX0_add 4 = .ok (.bipush 20, 2) := by decide +kernel
theorem dX0_add_6 : decode cX0_add 6 = .ok (.if_icmp .lt 4, 3) := by decide +kernel
theorem dX0_add_9 : decode cX0_add 9 = .ok (.return_, 1) := by decide +kernel
theorem dX0_add_10 : decode cX0_add 10 = .ok (.aload_n 0, 1) := by decide +kernel
theorem dX0_add_11 : decode cX0_add 11 = .ok (.getfield 9, 3) := by decide +kernel
theorem dX0_add_14 : decode cX0_add 14 = .ok (.aload_n 0, 1) := by decide +kernel
theorem dX0_add_15 : decode cX0_add 15 = .ok (.getfield 27, 3) := by decide +kernel
theorem dX0_add_18 : decode cX0_add 18 = .ok (.iload_n 1, 1) := by decide +kernel
theorem dX0_add_19 : decode cX0_add 19 = .ok (.iastore, 1) := by decide +kernel
theorem dX0_add_20 : decode cX0_add 20 = .ok (.aload_n 0, 1) := by decide +kernel
theorem dX0_add_21 : decode cX0_add 21 = .ok (.getfield 15, 3) := by decide +kernel
theorem dX0_add_24 : decode cX0_add 24 = .ok (.aload_n 0, 1) := by decide +kernel
theorem dX0_add_25 : decode cX0_add 25 = .ok (.getfield 27, 3) := by decide +kernel
theorem dX0_add_28 : decode cX0_add 28 = .ok (.iload_n 2, 1) := by decide +kernel
theorem dX0_add_29 : decode cX0_add 29 = .ok (.iastore, 1) := by decide +kernel
theorem dX0_add_30 : decode cX0_add 30 = .ok (.aload_n 0, 1) := by decide +kernel
theorem dX0_add_31 : decode cX0_add 31 = .ok (.getfield 18, 3) := by decide +kernel
theorem dX0_add_34 : decode cX0_add 34 = .ok (.aload_n 0, 1) := by decide +kernel
theorem dX0_add_35 : decode cX0_add 35 = .ok (.getfield 27, 3) := by decide +kernel
theorem dX0_add_38 : decode cX0_add 38 = .ok (.iload_n 3, 1) := by decide +kernel
theorem dX0_add_39 : decode cX0_add 39 = .ok (.iastore, 1) := by decide +kernel
theorem dX0_add_40 : decode cX0_add 40 = .ok (.aload_n 0, 1) := by decide +kernel
theorem dX0_add_41 : decode cX0_add 41 = .ok (.getfield 21, 3) := by decide +kernel
theorem dX0_add_44 : decode cX0_add 44 = .ok (.aload_n 0, 1) := by decide +kernel
theorem dX0_add_45 : decode cX0_add 45 = .ok (.getfield 27, 3) := by decide +kernel
theorem dX0_add_48 : decode cX0_add 48 = .ok (.iload 4, 2) := by decide +kernel
theorem dX0_add_50 : decode cX0_add 50 = .ok (.iastore, 1) := by decide +kernel
theorem dX0_add_51 : decode cX0_add 51 = .ok (.aload_n 0, 1) := by decide +kernel
theorem dX0_add_52 : decode cX0_add 52 = .ok (.getfield 24, 3) := by decide +kernel
theorem dX0_add_55 : decode cX0_add 55 = .ok (.aload_n 0, 1) := by decide +kernel
theorem dX0_add_56 : decode cX0_add 56 = .ok (.getfield 27, 3) := by decide +kernel
theorem dX0_add_59 : decode cX0_add 59 = .ok (.iload 5, 2) := by decide +kernel
theorem dX0_add_61 : decode cX0_add 61 = .ok (.iastore, 1) := by decide +kernel
theorem dX0_add_62 : decode cX0_add 62 = .ok (.aload_n 0, 1) := by decide +kernel
theorem dX0_add_63 : decode cX0_add 63 = .ok (.dup, 1) := by decide +kernel
theorem dX0_add_64 : decode cX0_add 64 = .ok (.getfield 27, 3) := by decide +kernel
theorem dX0_add_67 : decode cX0_add 67 = .ok (.iconst 1, 1) := by decide +kernel
theorem dX0_add_68 : decode cX0_add 68 = .ok (.iadd, 1) := by decide +kernel
theorem dX0_add_69 : decode cX0_add 69 = .ok (.putfield 27, 3) := by decide +kernel
theorem dX0_add_72 : decode cX0_add 72 = .ok (.return_, 1) := by decide +kernel
set_option maxRecDepth 20000 in
theorem ggX0_removeThoseAt_X0_add : GoodIn wsX0_removeThoseAt wsX0_add := goodIn_r _ [11, 1, 4, 5, 6, 2, 3, 12, 13, 14, 15, 16, 17] (by decide +kernel) (by decide +kernel)
set_option maxRecDepth 20000 in
theorem gX0_removeThoseAt_X0_add : GoodIn wsX0_removeThoseAt (wsV RX0 31 RX0 yX0_add wsX0_add) := goodIn_app (goodIn_of _ (by decide +kernel)) ggX0_removeThoseAt_X0_add
theorem dX0_removeThoseAt_0 : decode cX0_removeThoseAt 0 = .ok (.aload_n 0, 1) := by decide +kernel
theorem dX0_removeThoseAt_1 : decode cX0_removeThoseAt 1 = .ok (.getfield 27, 3) := by decide +kernel
theorem dX0_removeThoseAt_4 : decode cX0_removeThoseAt 4 = .ok (.istore_n 3, 1) := by decide +kernel
theorem dX0_removeThoseAt_5 : decode cX0_removeThoseAt 5 = .ok (.aload_n 0, 1) := by decide +kernel
theorem dX0_removeThoseAt_6 : decode cX0_removeThoseAt 6 = .ok (.iconst 0, 1) := by decide +kernel
theorem dX0_removeThoseAt_7 : decode cX0_removeThoseAt 7 = .ok (.putfield 27, 3) := by decide +kernel
theorem dX0_removeThoseAt_10 : decode cX0_removeThoseAt 10 = .ok (.iconst 0, 1) := by decide +kernel
theorem dX0_removeThoseAt_11 : decode cX0_removeThoseAt 11 = .ok (.istore 4, 2) := by decide +kernel
theorem dX0_removeThoseAt_13 : decode cX0_removeThoseAt 13 = .ok (.iload 4, 2) := by decide +kernel
theorem dX0_removeThoseAt_15 : decode cX0_removeThoseAt 15 = .ok (.iload_n 3, 1) := by decide +kernel
theorem dX0_removeThoseAt_16 : decode cX0_removeThoseAt 16 = .ok (.if_icmp .ge 70, 3) := by decide +kernel
theorem dX0_removeThoseAt_19 : decode cX0_removeThoseAt 19 = .ok (.aload_n 0, 1) := by decide +kernel
theorem dX0_removeThoseAt_20 : decode cX0_removeThoseAt 20 = .ok (.getfield 21, 3) := by decide +kernel
theorem dX0_removeThoseAt_23 : decode cX0_removeThoseAt 23 = .ok (.iload 4, 2) := by decide +kernel
theorem dX0_removeThoseAt_25 : decode cX0_removeThoseAt 25 = .ok (.iaload, 1) := by decide +kernel
theorem dX0_removeThoseAt_26 : decode cX0_removeThoseAt 26 = .ok (.iload_n 1, 1) := by decide +kernel
theorem dX0_removeThoseAt_27 : decode cX0_removeThoseAt 27 = .ok (.if_icmp .ne 14, 3) := by decide +kernel
theorem dX0_removeThoseAt_30 : decode cX0_removeThoseAt 30 = .ok (.aload_n 0, 1) := by decide +kernel
theorem dX0_removeThoseAt_31 : decode cX0_removeThoseAt 31 = .ok (.getfield 24, 3) := by decide +kernel
theorem dX0_removeThoseAt_34 : decode cX0_removeThoseAt 34 = .ok (.iload 4, 2) := by decide +kernel
theorem dX0_removeThoseAt_36 : decode cX0_removeThoseAt 36 = .ok (.iaload, 1) := by decide +kernel
theorem dX0_removeThoseAt_37 : decode cX0_removeThoseAt 37 = .ok (.iload_n 2, 1) := by decide +kernel
theorem dX0_removeThoseAt_38 : decode cX0_removeThoseAt 38 = .ok (.if_icmp .eq 42, 3) := by decide +kernel
theorem dX0_removeThoseAt_41 : decode cX0_removeThoseAt 41 = .ok (.aload_n 0, 1) := by decide +kernel
theorem dX0_removeThoseAt_42 : decode cX0_removeThoseAt 42 = .ok (.aload_n 0, 1) := by decide +kernel
theorem dX0_removeThoseAt_43 : decode cX0_removeThoseAt 43 = .ok (.getfield 9, 3) := by decide +kernel
theorem dX0_removeThoseAt_46 : decode cX0_removeThoseAt 46 = .ok (.iload 4, 2) := by decide +kernel
theorem dX0_removeThoseAt_48 : decode cX0_removeThoseAt 48 = .ok (.iaload, 1) := by decide +kernel
theorem dX0_removeThoseAt_49 : decode cX0_removeThoseAt 49 = .ok (.aload_n 0, 1) := by decide +kernel
theorem dX0_removeThoseAt_50 : decode cX0_removeThoseAt 50 = .ok (.getfield 15, 3) := by decide +kernel
theorem dX0_removeThoseAt_53 : decode cX0_removeThoseAt 53 = .ok (.iload 4, 2) := by decide +kernel
theorem dX0_removeThoseAt_55 : decode cX0_removeThoseAt 55 = .ok (.iaload, 1) := by decide +kernel
theorem dX0_removeThoseAt_56 : decode cX0_removeThoseAt 56 = .ok (.aload_n 0, 1) := by decide +kernel
theorem dX0_removeThoseAt_57 : decode cX0_removeThoseAt 57 = .ok (.getfield 18, 3) := by decide +kernel
theorem dX0_removeThoseAt_60 : decode cX0_removeThoseAt 60 = .ok (.iload 4, 2) := by decide +kernel
theorem dX0_removeThoseAt_62 : decode cX0_removeThoseAt 62 = .ok (.iaload, 1) := by decide +kernel
theorem dX0_removeThoseAt_63 : decode cX0_removeThoseAt 63 = .ok (.aload_n 0, 1) := by decide +kernel
theorem dX0_removeThoseAt_64 : decode cX0_removeThoseAt 64 = .ok (.getfield 21, 3) := by decide +kernel
theorem dX0_removeThoseAt_67 : decode cX0_removeThoseAt 67 = .ok (.iload 4, 2) := by decide +kernel
theorem dX0_removeThoseAt_69 : decode cX0_removeThoseAt 69 = .ok (.iaload, 1) := by decide +kernel
theorem dX0_removeThoseAt_70 : decode cX0_removeThoseAt 70 = .ok (.aload_n 0, 1) := by decide +kernel
theorem dX0_removeThoseAt_71 : decode cX0_removeThoseAt 71 = .ok (.getfield 24, 3) := by decide +kernel
theorem dX0_removeThoseAt_74 : decode cX0_removeThoseAt 74 = .ok (.iload 4, 2) := by decide +kernel
theorem dX0_removeThoseAt_76 : decode cX0_removeThoseAt 76 = .ok (.iaload, 1) := by decide +kernel
theorem dX0_removeThoseAt_77 : decode cX0_removeThoseAt 77 = .ok (.invokevirtual 31, 3) := by decide +kernel
theorem dX0_removeThoseAt_80 : decode cX0_removeThoseAt 80 = .ok (.iinc 4 1, 3) := by decide +kernel
theorem dX0_removeThoseAt_83 : decode cX0_removeThoseAt 83 = .ok (.goto (-70), 3) := by decide +kernel
theorem dX0_removeThoseAt_86 : decode cX0_removeThoseAt 86 = .ok (.return_, 1) := by decide +kernel
theorem dX0_covering_0 : decode cX0_covering 0 = .ok (.iconst 0, 1) := by decide +kernel
theorem dX0_covering_1 : decode cX0_covering 1 = .ok (.istore_n 3, 1) := by decide +kernel
theorem dX0_covering_2 : decode cX0_covering 2 = .ok (.iload_n 3, 1) := by decide +kernel
theorem dX0_covering_3 : decode cX0_covering 3 = .ok (.aload_n 0, 1) := by decide +kernel
theorem dX0_covering_4 : decode cX0_covering 4 = .ok (.getfield 27, 3) := by decide +kernel
theorem dX0_covering_7 : decode cX0_covering 7 = .ok (.if_icmp .ge 48, 3) := by decide +kernel
theorem dX0_covering_10 : decode cX0_covering 10 = .ok (.aload_n 0, 1) := by decide +kernel
theorem dX0_covering_11 : decode cX0_covering 11 = .ok (.getfield 15, 3) := by decide +kernel
theorem dX0_covering_14 : decode cX0_covering 14 = .ok (.iload_n 3, 1) := by decide +kernel
theorem dX0_covering_15 : decode cX0_covering 15 = .ok (.iaload, 1) := by decide +kernel
theorem dX0_covering_16 : decode cX0_covering 16 = .ok (.iload_n 2, 1) := by decide +kernel
theorem dX0_covering_17 : decode cX0_covering 17 = .ok (.if_icmp .ne 32, 3) := by decide +kernel
theorem dX0_covering_20 : decode cX0_covering 20 = .ok (.iload_n 1, 1) := by decide +kernel
theorem dX0_covering_21 : decode cX0_covering 21 = .ok (.aload_n 0, 1) := by decide +kernel
theorem dX0_covering_22 : decode cX0_covering 22 = .ok (.getfield 9, 3) := by decide +kernel
theorem dX0_covering_25 : decode cX0_covering 25 = .ok (.iload_n 3, 1) := by decide +kernel
theorem dX0_covering_26 : decode cX0_covering 26 = .ok (.iaload, 1) := by decide +kernel
theorem dX0_covering_27 : decode cX0_covering 27 = .ok (.if_icmp .lt 22, 3) := by decide +kernel
theorem dX0_covering_30 : decode cX0_covering 30 = .ok (.iload_n 1, 1) := by decide +kernel
theorem dX0_covering_31 : decode cX0_covering 31 = .ok (.aload_n 0, 1) := by decide +kernel
theorem dX0_covering_32 : decode cX0_covering 32 = .ok (.getfield 9, 3) := by decide +kernel
theorem dX0_covering_35 : decode cX0_covering 35 = .ok (.iload_n 3, 1) := by decide +kernel
theorem dX0_covering_36 : decode cX0_covering 36 = .ok (.iaload, 1) := by decide +kernel
theorem dX0_covering_37 : decode cX0_covering 37 = .ok (.aload_n 0, 1) := by decide +kernel
theorem dX0_covering_38 : decode cX0_covering 38 = .ok (.getfield 18, 3) := by decide +kernel
theorem dX0_covering_41 : decode cX0_covering 41 = .ok (.iload_n 3, 1) := by decide +kernel
theorem dX0_covering_42 : decode cX0_covering 42 = .ok (.iaload, 1) := by decide +kernel
theorem dX0_covering_43 : decode cX0_covering 43 = .ok (.iadd, 1) := by decide +kernel
theorem dX0_covering_44 : decode cX0_covering 44 = .ok (.if_icmp .ge 5, 3) := by decide +kernel
theorem dX0_covering_47 : decode cX0_covering 47 = .ok (.iload_n 3, 1) := by decide +kernel
theorem dX0_covering_48 : decode cX0_covering 48 = .ok (.ireturn, 1) := by decide +kernel
theorem dX0_covering_49 : decode cX0_covering 49 = .ok (.iinc 3 1, 3) := by decide +kernel
theorem dX0_covering_52 : decode cX0_covering 52 = .ok (.goto (-50), 3) := by decide +kernel
theorem dX0_covering_55 : decode cX0_covering 55 = .ok (.bipush (-9), 2) := by decide +kernel
theorem dX0_covering_57 : decode cX0_covering 57 = .ok (.ireturn, 1) := by decide +kernel
set_option maxRecDepth 20000 in
theorem ggX1_init_X2_init : GoodIn wsX1_init wsX2_init := goodIn_r _ [13, 14, 2, 3, 15, 16, 17, 18, 23, 24, 25, 26, 27, 28] (by decide +kernel) (by decide +kernel)
set_option maxRecDepth 20000 in
theorem gX1_init_X2_init : GoodIn wsX1_init (wsX2_init) := ggX1_init_X2_init
theorem dX1_init_0 : decode cX1_init 0 = .ok (.aload_n 0, 1) := by decide +kernel
theorem dX1_init_1 : decode cX1_init 1 = .ok (.invokespecial 3, 3) := by decide +kernel
theorem dX1_init_4 : decode cX1_init 4 = .ok (.aload_n 0, 1) := by decide +kernel
theorem dX1_init_5 : decode cX1_init 5 = .ok (.bipush 20, 2) := by decide +kernel
theorem dX1_init_7 : decode cX1_init 7 = .ok (.putfield 9, 3) := by decide +kernel
theorem dX1_init_10 : decode cX1_init 10 = .ok (.aload_n 0, 1) := by decide +kernel
theorem dX1_init_11 : decode cX1_init 11 = .ok (.bipush 8, 2) := by decide +kernel
theorem dX1_init_13 : decode cX1_init 13 = .ok (.putfield 15, 3) := by decide +kernel
theorem dX1_init_16 : decode cX1_init 16 = .ok (.aload_n 0, 1) := by decide +kernel
theorem dX1_init_17 : decode cX1_init 17 = .ok (.new 18, 3) := by decide +kernel
theorem dX1_init_20 : decode cX1_init 20 = .ok (.dup, 1) := by decide +kernel
theorem dX1_init_21 : decode cX1_init 21 = .ok (.bipush 40, 2) := by decide +kernel
theorem dX1_init_23 : decode cX1_init 23 = .ok (.invokespecial 20, 3) := by decide +kernel
theorem dX1_init_26 : decode cX1_init 26 = .ok (.putfield 23, 3) := by decide +kernel
theorem dX1_init_29 : decode cX1_init 29 = .ok (.aload_n 0, 1) := by decide +kernel
theorem dX1_init_30 : decode cX1_init 30 = .ok (.new 18, 3) := by decide +kernel
theorem dX1_init_33 : decode cX1_init 33 = .ok (.dup, 1) := by decide +kernel
theorem dX1_init_34 : decode cX1_init 34 = .ok (.bipush 32, 2) := by decide +kernel
theorem dX1_init_36 : decode cX1_init 36 = .ok (.invokespecial 20, 3) := by decide +kernel
theorem dX1_init_39 : decode cX1_init 39 = .ok (.putfield 27, 3) := by decide +kernel
theorem dX1_init_42 : decode cX1_init 42 = .ok (.return_, 1) := by decide +kernel
theorem dX1_resize_0 : decode cX1_resize 0 = .ok (.aload_n 0, 1) := by decide +kernel
theorem dX1_resize_1 : decode cX1_resize 1 = .ok (.iload_n 1, 1) := by decide +kernel
theorem dX1_resize_2 : decode cX1_resize 2 = .ok (.putfield 9, 3) := by decide +kernel
theorem dX1_resize_5 : decode cX1_resize 5 = .ok (.aload_n 0, 1) := by decide +kernel
theorem dX1_resize_6 : decode cX1_resize 6 = .ok (.iload_n 2, 1) := by decide +kernel
theorem dX1_resize_7 : decode cX1_resize 7 = .ok (.putfield 15, 3) := by decide +kernel
theorem dX1_resize_10 : decode cX1_resize 10 = .ok (.aload_n 0, 1) := by decide +kernel
theorem dX1_resize_11 : decode cX1_resize 11 = .ok (.getfield 23, 3) := by decide +kernel
theorem dX1_resize_14 : decode cX1_resize 14 = .ok (.iconst 2, 1) := by decide +kernel
theorem dX1_resize_15 : decode cX1_resize 15 = .ok (.iload_n 1, 1) := by decide +kernel
theorem dX1_resize_16 : decode cX1_resize 16 = .ok (.imul, 1) := by decide +kernel
theorem dX1_resize_17 : decode cX1_resize 17 = .ok (.putfield 30, 3) := by decide +kernel
theorem dX1_resize_20 : decode cX1_resize 20 = .ok (.aload_n 0, 1) := by decide +kernel
theorem dX1_resize_21 : decode cX1_resize 21 = .ok (.getfield 27, 3) := by decide +kernel
theorem dX1_resize_24 : decode cX1_resize 24 = .ok (.iconst 4, 1) := by decide +kernel
theorem dX1_resize_25 : decode cX1_resize 25 = .ok (.iload_n 2, 1) := by decide +kernel
theorem dX1_resize_26 : decode cX1_resize 26 = .ok (.imul, 1) := by decide +kernel
theorem dX1_resize_27 : decode cX1_resize 27 = .ok (.putfield 30, 3) := by decide +kernel
theorem dX1_resize_30 : decode cX1_resize 30 = .ok (.return_, 1) := by decide +kernel
theorem dX1_scaleOf_0 : decode cX1_scaleOf 0 = .ok (.iload_n 1, 1) := by decide +kernel
theorem dX1_scaleOf_1 : decode cX1_scaleOf 1 = .ok (.lookupswitch 37 #[(0, 27), (1, 32)], 27) := by decide +kernel
theorem dX1_scaleOf_28 : decode cX1_scaleOf 28 = .ok (.aload_n 0, 1) := by decide +kernel
theorem dX1_scaleOf_29 : decode cX1_scaleOf 29 = .ok (.getfield 23, 3) := by decide +kernel
theorem dX1_scaleOf_32 : decode cX1_scaleOf 32 = .ok (.areturn, 1) := by decide +kernel
theorem dX1_scaleOf_33 : decode cX1_scaleOf 33 = .ok (.aload_n 0, 1) := by decide +kernel
theorem dX1_scaleOf_34 : decode cX1_scaleOf 34 = .ok (.getfield 27, 3) := by decide +kernel
theorem dX1_scaleOf_37 : decode cX1_scaleOf 37 = .ok (.areturn, 1) := by decide +kernel
theorem dX1_scaleOf_38 : decode cX1_scaleOf 38 = .ok (.aconst_null, 1) := by decide +kernel
theorem dX1_scaleOf_39 : decode cX1_scaleOf 39 = .ok (.areturn, 1) := by decide +kernel
theorem dX1_has_0 : decode cX1_has 0 = .ok (.iload_n 1, 1) := by decide +kernel
theorem dX1_has_1 : decode cX1_has 1 = .ok (.ifCond .lt 27, 3) := by decide +kernel
theorem dX1_has_4 : decode cX1_has 4 = .ok (.iload_n 1, 1) := by decide +kernel
theorem dX1_has_5 : decode cX1_has 5 = .ok (.aload_n 0, 1) := by decide +kernel
theorem dX1_has_6 : decode cX1_has 6 = .ok (.getfield 9, 3) := by decide +kernel
theorem dX1_has_9 : decode cX1_has 9 = .ok (.if_icmp .ge 19, 3) := by decide +kernel
theorem dX1_has_12 : decode cX1_has 12 = .ok (.iload_n 2, 1) := by decide +kernel
theorem dX1_has_13 : decode cX1_has 13 = .ok (.ifCond .lt 15, 3) := by decide +kernel
theorem dX1_has_16 : decode cX1_has 16 = .ok (.iload_n 2, 1) := by decide +kernel
theorem dX1_has_17 : decode cX1_has 17 = .ok (.aload_n 0, 1) := by decide +kernel
theorem dX1_has_18 : decode cX1_has 18 = .ok (.getfield 15, 3) := by decide +kernel
theorem dX1_has_21 : decode cX1_has 21 = .ok (.if_icmp .ge 7, 3) := by decide +kernel
theorem dX1_has_24 : decode cX1_has 24 = .ok (.iconst 1, 1) := by decide +kernel
theorem dX1_has_25 : decode cX1_has 25 = .ok (.goto 4, 3) := by decide +kernel
theorem dX1_has_28 : decode cX1_has 28 = .ok (.iconst 0, 1) := by decide +kernel
theorem dX1_has_29 : decode cX1_has 29 = .ok (.ireturn, 1) := by decide +kernel
theorem dX1_cellAt_0 : decode cX1_cellAt 0 = .ok (.iload_n 2, 1) := by decide +kernel
theorem dX1_cellAt_1 : decode cX1_cellAt 1 = .ok (.aload_n 0, 1) := by decide +kernel
theorem dX1_cellAt_2 : decode cX1_cellAt 2 = .ok (.getfield 9, 3) := by decide +kernel
theorem dX1_cellAt_5 : decode cX1_cellAt 5 = .ok (.imul, 1) := by decide +kernel
theorem dX1_cellAt_6 : decode cX1_cellAt 6 = .ok (.iload_n 1, 1) := by decide +kernel
theorem dX1_cellAt_7 : decode cX1_cellAt 7 = .ok (.iadd, 1) := by decide +kernel
theorem dX1_cellAt_8 : decode cX1_cellAt 8 = .ok (.ireturn, 1) := by decide +kernel
theorem dX1_columnOf_0 : decode cX1_columnOf 0 = .ok (.iload_n 1, 1) := by decide +kernel
theorem dX1_columnOf_1 : decode cX1_columnOf 1 = .ok (.iconst 2, 1) := by decide +kernel
theorem dX1_columnOf_2 : decode cX1_columnOf 2 = .ok (.idiv, 1) := by decide +kernel
theorem dX1_columnOf_3 : decode cX1_columnOf 3 = .ok (.ireturn, 1) := by decide +kernel
theorem dX1_rowOf_0 : decode cX1_rowOf 0 = .ok (.aload_n 0, 1) := by decide +kernel
theorem dX1_rowOf_1 : decode cX1_rowOf 1 = .ok (.getfield 15, 3) := by decide +kernel
theorem dX1_rowOf_4 : decode cX1_rowOf 4 = .ok (.iconst 1, 1) := by decide +kernel
theorem dX1_rowOf_5 : decode cX1_rowOf 5 = .ok (.isub, 1) := by decide +kernel
theorem dX1_rowOf_6 : decode cX1_rowOf 6 = .ok (.iload_n 1, 1) := by decide +kernel
theorem dX1_rowOf_7 : decode cX1_rowOf 7 = .ok (.iconst 4, 1) := by decide +kernel
theorem dX1_rowOf_8 : decode cX1_rowOf 8 = .ok (.idiv, 1) := by decide +kernel
theorem dX1_rowOf_9 : decode cX1_rowOf 9 = .ok (.isub, 1) := by decide +kernel
theorem dX1_rowOf_10 : decode cX1_rowOf 10 = .ok (.ireturn, 1) := by decide +kernel
theorem dX2_init_0 : decode cX2_init 0 = .ok (.aload_n 0, 1) := by decide +kernel
theorem dX2_init_1 : decode cX2_init 1 = .ok (.invokespecial 3, 3) := by decide +kernel
theorem dX2_init_4 : decode cX2_init 4 = .ok (.aload_n 0, 1) := by decide +kernel
theorem dX2_init_5 : decode cX2_init 5 = .ok (.iconst 0, 1) := by decide +kernel
theorem dX2_init_6 : decode cX2_init 6 = .ok (.putfield 9, 3) := by decide +kernel
theorem dX2_init_9 : decode cX2_init 9 = .ok (.aload_n 0, 1) := by decide +kernel
theorem dX2_init_10 : decode cX2_init 10 = .ok (.iconst 0, 1) := by decide +kernel
theorem dX2_init_11 : decode cX2_init 11 = .ok (.putfield 15, 3) := by decide +kernel
theorem dX2_init_14 : decode cX2_init 14 = .ok (.aload_n 0, 1) := by decide +kernel
theorem dX2_init_15 : decode cX2_init 15 = .ok (.bipush 10, 2) := by decide +kernel
theorem dX2_init_17 : decode cX2_init 17 = .ok (.putfield 18, 3) := by decide +kernel
theorem dX2_init_20 : decode cX2_init 20 = .ok (.aload_n 0, 1) := by decide +kernel
theorem dX2_init_21 : decode cX2_init 21 = .ok (.iload_n 1, 1) := by decide +kernel
theorem dX2_init_22 : decode cX2_init 22 = .ok (.putfield 21, 3) := by decide +kernel
theorem dX2_init_25 : decode cX2_init 25 = .ok (.return_, 1) := by decide +kernel
theorem dX2_spread_0 : decode cX2_spread 0 = .ok (.aload_n 0, 1) := by decide +kernel
theorem dX2_spread_1 : decode cX2_spread 1 = .ok (.iload_n 1, 1) := by decide +kernel
theorem dX2_spread_2 : decode cX2_spread 2 = .ok (.putfield 9, 3) := by decide +kernel
theorem dX2_spread_5 : decode cX2_spread 5 = .ok (.aload_n 0, 1) := by decide +kernel
theorem dX2_spread_6 : decode cX2_spread 6 = .ok (.iload_n 2, 1) := by decide +kernel
theorem dX2_spread_7 : decode cX2_spread 7 = .ok (.putfield 15, 3) := by decide +kernel
theorem dX2_spread_10 : decode cX2_spread 10 = .ok (.aload_n 0, 1) := by decide +kernel
theorem dX2_spread_11 : decode cX2_spread 11 = .ok (.iload_n 3, 1) := by decide +kernel
theorem dX2_spread_12 : decode cX2_spread 12 = .ok (.putfield 18, 3) := by decide +kernel
theorem dX2_spread_15 : decode cX2_spread 15 = .ok (.return_, 1) := by decide +kernel
theorem dX2_leaveOut_0 : decode cX2_leaveOut 0 = .ok (.aload_n 0, 1) := by decide +kernel
theorem dX2_leaveOut_1 : decode cX2_leaveOut 1 = .ok (.iconst 2, 1) := by decide +kernel
theorem dX2_leaveOut_2 : decode cX2_leaveOut 2 = .ok (.putfield 9, 3) := by decide +kernel
theorem dX2_leaveOut_5 : decode cX2_leaveOut 5 = .ok (.aload_n 0, 1) := by decide +kernel
theorem dX2_leaveOut_6 : decode cX2_leaveOut 6 = .ok (.iload_n 1, 1) := by decide +kernel
theorem dX2_leaveOut_7 : decode cX2_leaveOut 7 = .ok (.putfield 24, 3) := by decide +kernel
theorem dX2_leaveOut_10 : decode cX2_leaveOut 10 = .ok (.aload_n 0, 1) := by decide +kernel
theorem dX2_leaveOut_11 : decode cX2_leaveOut 11 = .ok (.iload_n 2, 1) := by decide +kernel
theorem dX2_leaveOut_12 : decode cX2_leaveOut 12 = .ok (.putfield 27, 3) := by decide +kernel
theorem dX2_leaveOut_15 : decode cX2_leaveOut 15 = .ok (.return_, 1) := by decide +kernel
theorem dX2_leftOut_0 : decode cX2_leftOut 0 = .ok (.aload_n 0, 1) := by decide +kernel
theorem dX2_leftOut_1 : decode cX2_leftOut 1 = .ok (.getfield 9, 3) := by decide +kernel
theorem dX2_leftOut_4 : decode cX2_leftOut 4 = .ok (.iconst 2, 1) := by decide +kernel
theorem dX2_leftOut_5 : decode cX2_leftOut 5 = .ok (.if_icmp .ne 15, 3) := by decide +kernel
theorem dX2_leftOut_8 : decode cX2_leftOut 8 = .ok (.aload_n 0, 1) := by decide +kernel
theorem dX2_leftOut_9 : decode cX2_leftOut 9 = .ok (.getfield 27, 3) := by decide +kernel
theorem dX2_leftOut_12 : decode cX2_leftOut 12 = .ok (.aload_n 0, 1) := by decide +kernel
theorem dX2_leftOut_13 : decode cX2_leftOut 13 = .ok (.getfield 24, 3) := by decide +kernel
theorem dX2_leftOut_16 : decode cX2_leftOut 16 = .ok (.isub, 1) := by decide +kernel
theorem dX2_leftOut_17 : decode cX2_leftOut 17 = .ok (.goto 4, 3) := by decide +kernel
theorem dX2_leftOut_20 : decode cX2_leftOut 20 = .ok (.iconst 0, 1) := by decide +kernel
theorem dX2_leftOut_21 : decode cX2_leftOut 21 = .ok (.ireturn, 1) := by decide +kernel
theorem dX2_holds_0 : decode cX2_holds 0 = .ok (.iload_n 1, 1) := by decide +kernel
theorem dX2_holds_1 : decode cX2_holds 1 = .ok (.aload_n 0, 1) := by decide +kernel
theorem dX2_holds_2 : decode cX2_holds 2 = .ok (.getfield 15, 3) := by decide +kernel
theorem dX2_holds_5 : decode cX2_holds 5 = .ok (.if_icmp .lt 39, 3) := by decide +kernel
theorem dX2_holds_8 : decode cX2_holds 8 = .ok (.iload_n 1, 1) := by decide +kernel
theorem dX2_holds_9 : decode cX2_holds 9 = .ok (.aload_n 0, 1) := by decide +kernel
theorem dX2_holds_10 : decode cX2_holds 10 = .ok (.getfield 18, 3) := by decide +kernel
theorem dX2_holds_13 : decode cX2_holds 13 = .ok (.if_icmp .gt 31, 3) := by decide +kernel
theorem dX2_holds_16 : decode cX2_holds 16 = .ok (.aload_n 0, 1) := by decide +kernel
theorem dX2_holds_17 : decode cX2_holds 17 = .ok (.getfield 9, 3) := by decide +kernel
theorem dX2_holds_20 : decode cX2_holds 20 = .ok (.iconst 2, 1) := by decide +kernel
theorem dX2_holds_21 : decode cX2_holds 21 = .ok (.if_icmp .ne 19, 3) := by decide +kernel
theorem dX2_holds_24 : decode cX2_holds 24 = .ok (.iload_n 1, 1) := by decide +kernel
theorem dX2_holds_25 : decode cX2_holds 25 = .ok (.aload_n 0, 1) := by decide +kernel
theorem dX2_holds_26 : decode cX2_holds 26 = .ok (.getfield 24, 3) := by decide +kernel
theorem dX2_holds_29 : decode cX2_holds 29 = .ok (.if_icmp .le 11, 3) := by decide +kernel
theorem dX2_holds_32 : decode cX2_holds 32 = .ok (.iload_n 1, 1) := by decide +kernel
theorem dX2_holds_33 : decode cX2_holds 33 = .ok (.aload_n 0, 1) := by decide +kernel
theorem dX2_holds_34 : decode cX2_holds 34 = .ok (.getfield 27, 3) := by decide +kernel
theorem dX2_holds_37 : decode cX2_holds 37 = .ok (.if_icmp .lt 7, 3) := by decide +kernel
theorem dX2_holds_40 : decode cX2_holds 40 = .ok (.iconst 1, 1) := by decide +kernel
theorem dX2_holds_41 : decode cX2_holds 41 = .ok (.goto 4, 3) := by decide +kernel
theorem dX2_holds_44 : decode cX2_holds 44 = .ok (.iconst 0, 1) := by decide +kernel
theorem dX2_holds_45 : decode cX2_holds 45 = .ok (.ireturn, 1) := by decide +kernel
set_option maxRecDepth 20000 in
theorem ggX2_placeOf_X2_leftOut : GoodIn wsX2_placeOf wsX2_leftOut := goodIn_r _ [10, 3, 4, 11, 16, 17, 18, 19, 20, 21] (by decide +kernel) (by decide +kernel)
set_option maxRecDepth 20000 in
theorem gX2_placeOf_X2_leftOut : GoodIn wsX2_placeOf (wsV RX2 30 RX2 yX2_leftOut wsX2_leftOut) := goodIn_app (goodIn_of _ (by decide +kernel)) ggX2_placeOf_X2_leftOut
set_option maxRecDepth 20000 in
theorem ggX2_placeOf_X2_holds : GoodIn wsX2_placeOf wsX2_holds := goodIn_r _ [15, 2, 1, 3, 11, 4, 16, 17, 18, 19, 20, 21] (by decide +kernel) (by decide +kernel)
set_option maxRecDepth 20000 in
theorem gX2_placeOf_X2_holds : GoodIn wsX2_placeOf (wsV RX2 34 RX2 yX2_holds wsX2_holds) := goodIn_app (goodIn_of _ (by decide +kernel)) ggX2_placeOf_X2_holds
theorem dX2_placeOf_0 : decode cX2_placeOf 0 = .ok (.aload_n 0, 1) := by decide +kernel
theorem dX2_placeOf_1 : decode cX2_placeOf 1 = .ok (.getfield 18, 3) := by decide +kernel
theorem dX2_placeOf_4 : decode cX2_placeOf 4 = .ok (.aload_n 0, 1) := by decide +kernel
theorem dX2_placeOf_5 : decode cX2_placeOf 5 = .ok (.getfield 15, 3) := by decide +kernel
theorem dX2_placeOf_8 : decode cX2_placeOf 8 = .ok (.isub, 1) := by decide +kernel
theorem dX2_placeOf_9 : decode cX2_placeOf 9 = .ok (.aload_n 0, 1) := by decide +kernel
theorem dX2_placeOf_10 : decode cX2_placeOf 10 = .ok (.invokevirtual 30, 3) := by decide +kernel
theorem dX2_placeOf_13 : decode cX2_placeOf 13 = .ok (.isub, 1) := by decide +kernel
theorem dX2_placeOf_14 : decode cX2_placeOf 14 = .ok (.istore_n 2, 1) := by decide +kernel
theorem dX2_placeOf_15 : decode cX2_placeOf 15 = .ok (.iload_n 2, 1) := by decide +kernel
theorem dX2_placeOf_16 : decode cX2_placeOf 16 = .ok (.ifCond .le 11, 3) := by decide +kernel
theorem dX2_placeOf_19 : decode cX2_placeOf 19 = .ok (.aload_n 0, 1) := by decide +kernel
theorem dX2_placeOf_20 : decode cX2_placeOf 20 = .ok (.iload_n 1, 1) := by decide +kernel
theorem dX2_placeOf_21 : decode cX2_placeOf 21 = .ok (.invokevirtual 34, 3) := by decide +kernel
theorem dX2_placeOf_24 : decode cX2_placeOf 24 = .ok (.ifCond .ne 6, 3) := by decide +kernel
theorem dX2_placeOf_27 : decode cX2_placeOf 27 = .ok (.bipush (-9), 2) := by decide +kernel
theorem dX2_placeOf_29 : decode cX2_placeOf 29 = .ok (.ireturn, 1) := by decide +kernel
theorem dX2_placeOf_30 : decode cX2_placeOf 30 = .ok (.aload_n 0, 1) := by decide +kernel
theorem dX2_placeOf_31 : decode cX2_placeOf 31 = .ok (.getfield 9, 3) := by decide +kernel
theorem dX2_placeOf_34 : decode cX2_placeOf 34 = .ok (.iconst 2, 1) := by decide +kernel
theorem dX2_placeOf_35 : decode cX2_placeOf 35 = .ok (.if_icmp .ne 25, 3) := by decide +kernel
theorem dX2_placeOf_38 : decode cX2_placeOf 38 = .ok (.iload_n 1, 1) := by decide +kernel
theorem dX2_placeOf_39 : decode cX2_placeOf 39 = .ok (.aload_n 0, 1) := by decide +kernel
theorem dX2_placeOf_40 : decode cX2_placeOf 40 = .ok (.getfield 27, 3) := by decide +kernel
theorem dX2_placeOf_43 : decode cX2_placeOf 43 = .ok (.if_icmp .lt 17, 3) := by decide +kernel
theorem dX2_placeOf_46 : decode cX2_placeOf 46 = .ok (.iload_n 1, 1) := by decide +kernel
theorem dX2_placeOf_47 : decode cX2_placeOf 47 = .ok (.aload_n 0, 1) := by decide +kernel
theorem dX2_placeOf_48 : decode cX2_placeOf 48 = .ok (.getfield 15, 3) := by decide +kernel
theorem dX2_placeOf_51 : decode cX2_placeOf 51 = .ok (.isub, 1) := by decide +kernel
theorem dX2_placeOf_52 : decode cX2_placeOf 52 = .ok (.aload_n 0, 1) := by decide +kernel
theorem dX2_placeOf_53 : decode cX2_placeOf 53 = .ok (.invokevirtual 30, 3) := by decide +kernel
theorem dX2_placeOf_56 : decode cX2_placeOf 56 = .ok (.isub, 1) := by decide +kernel
theorem dX2_placeOf_57 : decode cX2_placeOf 57 = .ok (.goto 9, 3) := by decide +kernel
theorem dX2_placeOf_60 : decode cX2_placeOf 60 = .ok (.iload_n 1, 1) := by decide +kernel
theorem dX2_placeOf_61 : decode cX2_placeOf 61 = .ok (.aload_n 0, 1) := by decide +kernel
theorem dX2_placeOf_62 : decode cX2_placeOf 62 = .ok (.getfield 15, 3) := by decide +kernel
theorem dX2_placeOf_65 : decode cX2_placeOf 65 = .ok (.isub, 1) := by decide +kernel
theorem dX2_placeOf_66 : decode cX2_placeOf 66 = .ok (.istore_n 3, 1) := by decide +kernel
theorem dX2_placeOf_67 : decode cX2_placeOf 67 = .ok (.iconst 2, 1) := by decide +kernel
theorem dX2_placeOf_68 : decode cX2_placeOf 68 = .ok (.iload_n 3, 1) := by decide +kernel
theorem dX2_placeOf_69 : decode cX2_placeOf 69 = .ok (.imul, 1) := by decide +kernel
theorem dX2_placeOf_70 : decode cX2_placeOf 70 = .ok (.aload_n 0, 1) := by decide +kernel
theorem dX2_placeOf_71 : decode cX2_placeOf 71 = .ok (.getfield 21, 3) := by decide +kernel
theorem dX2_placeOf_74 : decode cX2_placeOf 74 = .ok (.iconst 1, 1) := by decide +kernel
theorem dX2_placeOf_75 : decode cX2_placeOf 75 = .ok (.isub, 1) := by decide +kernel
theorem dX2_placeOf_76 : decode cX2_placeOf 76 = .ok (.imul, 1) := by decide +kernel
theorem dX2_placeOf_77 : decode cX2_placeOf 77 = .ok (.iload_n 2, 1) := by decide +kernel
theorem dX2_placeOf_78 : decode cX2_placeOf 78 = .ok (.iadd, 1) := by decide +kernel
theorem dX2_placeOf_79 : decode cX2_placeOf 79 = .ok (.iconst 2, 1) := by decide +kernel
theorem dX2_placeOf_80 : decode cX2_placeOf 80 = .ok (.iload_n 2, 1) := by decide +kernel
theorem dX2_placeOf_81 : decode cX2_placeOf 81 = .ok (.imul, 1) := by decide +kernel
theorem dX2_placeOf_82 : decode cX2_placeOf 82 = .ok (.idiv, 1) := by decide +kernel
theorem dX2_placeOf_83 : decode cX2_placeOf 83 = .ok (.istore 4, 2) := by decide +kernel
theorem dX2_placeOf_85 : decode cX2_placeOf 85 = .ok (.aload_n 0, 1) := by decide +kernel
theorem dX2_placeOf_86 : decode cX2_placeOf 86 = .ok (.getfield 9, 3) := by decide +kernel
theorem dX2_placeOf_89 : decode cX2_placeOf 89 = .ok (.iconst 1, 1) := by decide +kernel
theorem dX2_placeOf_90 : decode cX2_placeOf 90 = .ok (.if_icmp .ne 15, 3) := by decide +kernel
theorem dX2_placeOf_93 : decode cX2_placeOf 93 = .ok (.aload_n 0, 1) := by decide +kernel
theorem dX2_placeOf_94 : decode cX2_placeOf 94 = .ok (.getfield 21, 3) := by decide +kernel
theorem dX2_placeOf_97 : decode cX2_placeOf 97 = .ok (.iconst 1, 1) := by decide +kernel
theorem dX2_placeOf_98 : decode cX2_placeOf 98 = .ok (.isub, 1) := by decide +kernel
theorem dX2_placeOf_99 : decode cX2_placeOf 99 = .ok (.iload 4, 2) := by decide +kernel
theorem dX2_placeOf_101 : decode cX2_placeOf 101 = .ok (.isub, 1) := by decide +kernel
theorem dX2_placeOf_102 : decode cX2_placeOf 102 = .ok (.goto 5, 3) := by decide +kernel
theorem dX2_placeOf_105 : decode cX2_placeOf 105 = .ok (.iload 4, 2) := by decide +kernel
theorem dX2_placeOf_107 : decode cX2_placeOf 107 = .ok (.ireturn, 1) := by decide +kernel
set_option maxRecDepth 20000 in
theorem ggX2_leastValueAt_X2_leftOut : GoodIn wsX2_leastValueAt wsX2_leftOut := goodIn_r _ [15, 3, 16, 10, 29, 30, 31, 32, 33, 34] (by decide +kernel) (by decide +kernel)
set_option maxRecDepth 20000 in
theorem gX2_leastValueAt_X2_leftOut : GoodIn wsX2_leastValueAt (wsV RX2 30 RX2 yX2_leftOut wsX2_leftOut) := goodIn_app (goodIn_of _ (by decide +kernel)) ggX2_leastValueAt_X2_leftOut
set_option maxRecDepth 20000 in
theorem ggX2_leastValueAt_J9_floorDiv_7cf53 : GoodIn wsX2_leastValueAt wsJ9_floorDiv_7cf53 := goodIn_r _ [20] (by decide +kernel) (by decide +kernel)
set_option maxRecDepth 20000 in
theorem gX2_leastValueAt_J9_floorDiv_7cf53 : GoodIn wsX2_leastValueAt (va_wsS RX2 39 yJ9_floorDiv_7cf53 wsJ9_floorDiv_7cf53) := goodIn_app (goodIn_of _ (by decide +kernel)) ggX2_leastValueAt_J9_floorDiv_7cf53
set_option maxRecDepth 20000 in
theorem ggX2_leastValueAt_X2_placeOf : GoodIn wsX2_leastValueAt wsX2_placeOf := goodIn_r _ [24, 4, 5, 3, 16, 1, 11, 12, 13, 14, 15, 10, 25, 26, 27, 28, 29, 30, 31, 32, 33, 34] (by decide +kernel) (by decide +kernel)
set_option maxRecDepth 20000 in
theorem gX2_leastValueAt_X2_placeOf : GoodIn wsX2_leastValueAt (wsV RX2 48 RX2 yX2_placeOf wsX2_placeOf) := goodIn_app (goodIn_of _ (by decide +kernel)) ggX2_leastValueAt_X2_placeOf
theorem dX2_leastValueAt_0 : decode cX2_leastValueAt 0 = .ok (.aload_n 0, 1) := by decide +kernel
theorem dX2_leastValueAt_1 : decode cX2_leastValueAt 1 = .ok (.getfield 21, 3) := by decide +kernel
theorem dX2_leastValueAt_4 : decode cX2_leastValueAt 4 = .ok (.iconst 2, 1) := by decide +kernel
theorem dX2_leastValueAt_5 : decode cX2_leastValueAt 5 = .ok (.if_icmp .lt 15, 3) := by decide +kernel
theorem dX2_leastValueAt_8 : decode cX2_leastValueAt 8 = .ok (.iload_n 1, 1) := by decide +kernel
theorem dX2_leastValueAt_9 : decode cX2_leastValueAt 9 = .ok (.ifCond .lt 11, 3) := by decide +kernel
theorem dX2_leastValueAt_12 : decode cX2_leastValueAt 12 = .ok (.iload_n 1, 1) := by decide +kernel
theorem dX2_leastValueAt_13 : decode cX2_leastValueAt 13 = .ok (.aload_n 0, 1) := by decide +kernel
theorem dX2_leastValueAt_14 : decode cX2_leastValueAt 14 = .ok (.getfield 21, 3) := by decide +kernel
theorem dX2_leastValueAt_17 : decode cX2_leastValueAt 17 = .ok (.if_icmp .lt 6, 3) := by decide +kernel
theorem dX2_leastValueAt_20 : decode cX2_leastValueAt 20 = .ok (.ldc 38, 2) := by decide +kernel
theorem dX2_leastValueAt_22 : decode cX2_leastValueAt 22 = .ok (.ireturn, 1) := by decide +kernel
theorem dX2_leastValueAt_23 : decode cX2_leastValueAt 23 = .ok (.aload_n 0, 1) := by decide +kernel
theorem dX2_leastValueAt_24 : decode cX2_leastValueAt 24 = .ok (.getfield 9, 3) := by decide +kernel
theorem dX2_leastValueAt_27 : decode cX2_leastValueAt 27 = .ok (.iconst 1, 1) := by decide +kernel
theorem dX2_leastValueAt_28 : decode cX2_leastValueAt 28 = .ok (.if_icmp .ne 14, 3) := by decide +kernel
theorem dX2_leastValueAt_31 : decode cX2_leastValueAt 31 = .ok (.aload_n 0, 1) := by decide +kernel
theorem dX2_leastValueAt_32 : decode cX2_leastValueAt 32 = .ok (.getfield 21, 3) := by decide +kernel
theorem dX2_leastValueAt_35 : decode cX2_leastValueAt 35 = .ok (.iconst 1, 1) := by decide +kernel
theorem dX2_leastValueAt_36 : decode cX2_leastValueAt 36 = .ok (.isub, 1) := by decide +kernel
theorem dX2_leastValueAt_37 : decode cX2_leastValueAt 37 = .ok (.iload_n 1, 1) := by decide +kernel
theorem dX2_leastValueAt_38 : decode cX2_leastValueAt 38 = .ok (.isub, 1) := by decide +kernel
theorem dX2_leastValueAt_39 : decode cX2_leastValueAt 39 = .ok (.goto 4, 3) := by decide +kernel
theorem dX2_leastValueAt_42 : decode cX2_leastValueAt 42 = .ok (.iload_n 1, 1) := by decide +kernel
theorem dX2_leastValueAt_43 : decode cX2_leastValueAt 43 = .ok (.istore_n 2, 1) := by decide +kernel
theorem dX2_leastValueAt_44 : decode cX2_leastValueAt 44 = .ok (.aload_n 0, 1) := by decide +kernel
theorem dX2_leastValueAt_45 : decode cX2_leastValueAt 45 = .ok (.getfield 18, 3) := by decide +kernel
theorem dX2_leastValueAt_48 : decode cX2_leastValueAt 48 = .ok (.aload_n 0, 1) := by decide +kernel
theorem dX2_leastValueAt_49 : decode cX2_leastValueAt 49 = .ok (.getfield 15, 3) := by decide +kernel
theorem dX2_leastValueAt_52 : decode cX2_leastValueAt 52 = .ok (.isub, 1) := by decide +kernel
theorem dX2_leastValueAt_53 : decode cX2_leastValueAt 53 = .ok (.aload_n 0, 1) := by decide +kernel
theorem dX2_leastValueAt_54 : decode cX2_leastValueAt 54 = .ok (.invokevirtual 30, 3) := by decide +kernel
theorem dX2_leastValueAt_57 : decode cX2_leastValueAt 57 = .ok (.isub, 1) := by decide +kernel
theorem dX2_leastValueAt_58 : decode cX2_leastValueAt 58 = .ok (.istore_n 3, 1) := by decide +kernel
theorem dX2_leastValueAt_59 : decode cX2_leastValueAt 59 = .ok (.iconst 0, 1) := by decide +kernel
theorem dX2_leastValueAt_60 : decode cX2_leastValueAt 60 = .ok (.iload_n 3, 1) := by decide +kernel
theorem dX2_leastValueAt_61 : decode cX2_leastValueAt 61 = .ok (.ineg, 1) := by decide +kernel
theorem dX2_leastValueAt_62 : decode cX2_leastValueAt 62 = .ok (.iconst 2, 1) := by decide +kernel
theorem dX2_leastValueAt_63 : decode cX2_leastValueAt 63 = .ok (.iload_n 2, 1) := by decide +kernel
theorem dX2_leastValueAt_64 : decode cX2_leastValueAt 64 = .ok (.imul, 1) := by decide +kernel
theorem dX2_leastValueAt_65 : decode cX2_leastValueAt 65 = .ok (.iconst 1, 1) := by decide +kernel
theorem dX2_leastValueAt_66 : decode cX2_leastValueAt 66 = .ok (.isub, 1) := by decide +kernel
theorem dX2_leastValueAt_67 : decode cX2_leastValueAt 67 = .ok (.imul, 1) := by decide +kernel
theorem dX2_leastValueAt_68 : decode cX2_leastValueAt 68 = .ok (.iconst 2, 1) := by decide +kernel
theorem dX2_leastValueAt_69 : decode cX2_leastValueAt 69 = .ok (.aload_n 0, 1) := by decide +kernel
theorem dX2_leastValueAt_70 : decode cX2_leastValueAt 70 = .ok (.getfield 21, 3) := by decide +kernel
theorem dX2_leastValueAt_73 : decode cX2_leastValueAt 73 = .ok (.iconst 1, 1) := by decide +kernel
theorem dX2_leastValueAt_74 : decode cX2_leastValueAt 74 = .ok (.isub, 1) := by decide +kernel
theorem dX2_leastValueAt_75 : decode cX2_leastValueAt 75 = .ok (.imul, 1) := by decide +kernel
theorem dX2_leastValueAt_76 : decode cX2_leastValueAt 76 = .ok (.invokestatic 39, 3) := by decide +kernel
theorem dX2_leastValueAt_79 : decode cX2_leastValueAt 79 = .ok (.ineg, 1) := by decide +kernel
theorem dX2_leastValueAt_80 : decode cX2_leastValueAt 80 = .ok (.invokestatic 45, 3) := by decide +kernel
theorem dX2_leastValueAt_83 : decode cX2_leastValueAt 83 = .ok (.istore 4, 2) := by decide +kernel
theorem dX2_leastValueAt_85 : decode cX2_leastValueAt 85 = .ok (.aload_n 0, 1) := by decide +kernel
theorem dX2_leastValueAt_86 : decode cX2_leastValueAt 86 = .ok (.getfield 15, 3) := by decide +kernel
theorem dX2_leastValueAt_89 : decode cX2_leastValueAt 89 = .ok (.iload 4, 2) := by decide +kernel
theorem dX2_leastValueAt_91 : decode cX2_leastValueAt 91 = .ok (.iadd, 1) := by decide +kernel
theorem dX2_leastValueAt_92 : decode cX2_leastValueAt 92 = .ok (.istore 5, 2) := by decide +kernel
theorem dX2_leastValueAt_94 : decode cX2_leastValueAt 94 = .ok (.aload_n 0, 1) := by decide +kernel
theorem dX2_leastValueAt_95 : decode cX2_leastValueAt 95 = .ok (.getfield 9, 3) := by decide +kernel
theorem dX2_leastValueAt_98 : decode cX2_leastValueAt 98 = .ok (.iconst 2, 1) := by decide +kernel
theorem dX2_leastValueAt_99 : decode cX2_leastValueAt 99 = .ok (.if_icmp .ne 21, 3) := by decide +kernel
theorem dX2_leastValueAt_102 : decode cX2_leastValueAt 102 = .ok (.iload 5, 2) := by decide +kernel
theorem dX2_leastValueAt_104 : decode cX2_leastValueAt 104 = .ok (.aload_n 0, 1) := by decide +kernel
theorem dX2_leastValueAt_105 : decode cX2_leastValueAt 105 = .ok (.getfield 24, 3) := by decide +kernel
theorem dX2_leastValueAt_108 : decode cX2_leastValueAt 108 = .ok (.if_icmp .le 12, 3) := by decide +kernel
theorem dX2_leastValueAt_111 : decode cX2_leastValueAt 111 = .ok (.iload 5, 2) := by decide +kernel
theorem dX2_leastValueAt_113 : decode cX2_leastValueAt 113 = .ok (.aload_n 0, 1) := by decide +kernel
theorem dX2_leastValueAt_114 : decode cX2_leastValueAt 114 = .ok (.invokevirtual 30, 3) := by decide +kernel
theorem dX2_leastValueAt_117 : decode cX2_leastValueAt 117 = .ok (.iadd, 1) := by decide +kernel
theorem dX2_leastValueAt_118 : decode cX2_leastValueAt 118 = .ok (.istore 5, 2) := by decide +kernel
theorem dX2_leastValueAt_120 : decode cX2_leastValueAt 120 = .ok (.aload_n 0, 1) := by decide +kernel
theorem dX2_leastValueAt_121 : decode cX2_leastValueAt 121 = .ok (.iload 5, 2) := by decide +kernel
theorem dX2_leastValueAt_123 : decode cX2_leastValueAt 123 = .ok (.invokevirtual 48, 3) := by decide +kernel
theorem dX2_leastValueAt_126 : decode cX2_leastValueAt 126 = .ok (.iload_n 1, 1) := by decide +kernel
theorem dX2_leastValueAt_127 : decode cX2_leastValueAt 127 = .ok (.if_icmp .ne 8, 3) := by decide +kernel
theorem dX2_leastValueAt_130 : decode cX2_leastValueAt 130 = .ok (.iload 5, 2) := by decide +kernel
theorem dX2_leastValueAt_132 : decode cX2_leastValueAt 132 = .ok (.goto 5, 3) := by decide +kernel
theorem dX2_leastValueAt_135 : decode cX2_leastValueAt 135 = .ok (.ldc 38, 2) := by decide +kernel
theorem dX2_leastValueAt_137 : decode cX2_leastValueAt 137 = .ok (.ireturn, 1) := by decide +kernel
set_option maxRecDepth 20000 in
theorem ggX2_stepFor_X2_ticksBelowGap : GoodIn wsX2_stepFor wsX2_ticksBelowGap := goodIn_r _ [6, 7, 8, 9, 10, 11, 12, 5, 13, 14, 15, 16, 17, 23, 24, 25, 26, 27, 28] (by decide +kernel) (by decide +kernel)
set_option maxRecDepth 20000 in
theorem gX2_stepFor_X2_ticksBelowGap : GoodIn wsX2_stepFor (wsV RX2 56 RX2 yX2_ticksBelowGap wsX2_ticksBelowGap) := goodIn_app (goodIn_of _ (by decide +kernel)) ggX2_stepFor_X2_ticksBelowGap
set_option maxRecDepth 20000 in
theorem ggX2_stepFor_X2_ticksAboveGap : GoodIn wsX2_stepFor wsX2_ticksAboveGap := goodIn_r _ [21, 8, 22, 10, 11, 12, 5, 13, 14, 15, 16, 17, 23, 24, 25, 26, 27, 28] (by decide +kernel) (by decide +kernel)
set_option maxRecDepth 20000 in
theorem gX2_stepFor_X2_ticksAboveGap : GoodIn wsX2_stepFor (wsV RX2 59 RX2 yX2_ticksAboveGap wsX2_ticksAboveGap) := goodIn_app (goodIn_of _ (by decide +kernel)) ggX2_stepFor_X2_ticksAboveGap
theorem dX2_stepFor_0 : decode cX2_stepFor 0 = .ok (.getstatic 52, 3) := by decide +kernel
theorem dX2_stepFor_3 : decode cX2_stepFor 3 = .ok (.astore_n 2, 1) := by decide +kernel
theorem dX2_stepFor_4 : decode cX2_stepFor 4 = .ok (.aload_n 2, 1) := by decide +kernel
theorem dX2_stepFor_5 : decode cX2_stepFor 5 = .ok (.arraylength, 1) := by decide +kernel
theorem dX2_stepFor_6 : decode cX2_stepFor 6 = .ok (.istore_n 3, 1) := by decide +kernel
theorem dX2_stepFor_7 : decode cX2_stepFor 7 = .ok (.iconst 0, 1) := by decide +kernel
theorem dX2_stepFor_8 : decode cX2_stepFor 8 = .ok (.istore 4, 2) := by decide +kernel
theorem dX2_stepFor_10 : decode cX2_stepFor 10 = .ok (.iload 4, 2) := by decide +kernel
theorem dX2_stepFor_12 : decode cX2_stepFor 12 = .ok (.iload_n 3, 1) := by decide +kernel
theorem dX2_stepFor_13 : decode cX2_stepFor 13 = .ok (.if_icmp .ge 35, 3) := by decide +kernel
theorem dX2_stepFor_16 : decode cX2_stepFor 16 = .ok (.aload_n 2, 1) := by decide +kernel
theorem dX2_stepFor_17 : decode cX2_stepFor 17 = .ok (.iload 4, 2) := by decide +kernel
theorem dX2_stepFor_19 : decode cX2_stepFor 19 = .ok (.iaload, 1) := by decide +kernel
theorem dX2_stepFor_20 : decode cX2_stepFor 20 = .ok (.istore 5, 2) := by decide +kernel
theorem dX2_stepFor_22 : decode cX2_stepFor 22 = .ok (.aload_n 0, 1) := by decide +kernel
theorem dX2_stepFor_23 : decode cX2_stepFor 23 = .ok (.iload 5, 2) := by decide +kernel
theorem dX2_stepFor_25 : decode cX2_stepFor 25 = .ok (.invokevirtual 56, 3) := by decide +kernel
theorem dX2_stepFor_28 : decode cX2_stepFor 28 = .ok (.aload_n 0, 1) := by decide +kernel
theorem dX2_stepFor_29 : decode cX2_stepFor 29 = .ok (.iload 5, 2) := by decide +kernel
theorem dX2_stepFor_31 : decode cX2_stepFor 31 = .ok (.invokevirtual 59, 3) := by decide +kernel
theorem dX2_stepFor_34 : decode cX2_stepFor 34 = .ok (.iadd, 1) := by decide +kernel
theorem dX2_stepFor_35 : decode cX2_stepFor 35 = .ok (.iload_n 1, 1) := by decide +kernel
theorem dX2_stepFor_36 : decode cX2_stepFor 36 = .ok (.if_icmp .gt 6, 3) := by decide +kernel
theorem dX2_stepFor_39 : decode cX2_stepFor 39 = .ok (.iload 5, 2) := by decide +kernel
theorem dX2_stepFor_41 : decode cX2_stepFor 41 = .ok (.ireturn, 1) := by decide +kernel
theorem dX2_stepFor_42 : decode cX2_stepFor 42 = .ok (.iinc 4 1, 3) := by decide +kernel
theorem dX2_stepFor_45 : decode cX2_stepFor 45 = .ok (.goto (-35), 3) := by decide +kernel
theorem dX2_stepFor_48 : decode cX2_stepFor 48 = .ok (.ldc 62, 2) := by decide +kernel
theorem dX2_stepFor_50 : decode cX2_stepFor 50 = .ok (.ireturn, 1) := by decide +kernel
set_option maxRecDepth 20000 in
theorem ggX2_tickAt_X2_stepFor : GoodIn wsX2_tickAt wsX2_stepFor := goodIn_r _ [8, 9, 10, 11, 12, 7, 13, 2, 14, 15, 16, 17, 18, 19, 20, 21, 22, 23, 24, 25, 26, 27, 3, 31, 32, 33, 34, 35, 36] (by decide +kernel) (by decide +kernel)
set_option maxRecDepth 20000 in
theorem gX2_tickAt_X2_stepFor : GoodIn wsX2_tickAt (wsV RX2 63 RX2 yX2_stepFor wsX2_stepFor) := goodIn_app (goodIn_of _ (by decide +kernel)) ggX2_tickAt_X2_stepFor
set_option maxRecDepth 20000 in
theorem ggX2_tickAt_X2_ticksBelowGap : GoodIn wsX2_tickAt wsX2_ticksBelowGap := goodIn_r _ [13, 2, 14, 15, 16, 17, 18, 7, 19, 20, 21, 22, 23, 31, 32, 33, 34, 35, 36] (by decide +kernel) (by decide +kernel)
set_option maxRecDepth 20000 in
theorem gX2_tickAt_X2_ticksBelowGap : GoodIn wsX2_tickAt (wsV RX2 56 RX2 yX2_ticksBelowGap wsX2_ticksBelowGap) := goodIn_app (goodIn_of _ (by decide +kernel)) ggX2_tickAt_X2_ticksBelowGap
set_option maxRecDepth 20000 in
theorem ggX2_tickAt_X2_firstMultiple : GoodIn wsX2_tickAt wsX2_firstMultiple := goodIn_r _ [30, 20, 21, 22, 23] (by decide +kernel) (by decide +kernel)
set_option maxRecDepth 20000 in
theorem gX2_tickAt_X2_firstMultiple : GoodIn wsX2_tickAt (va_wsS RX2 66 yX2_firstMultiple wsX2_firstMultiple) := goodIn_app (goodIn_of _ (by decide +kernel)) ggX2_tickAt_X2_firstMultiple
set_option maxRecDepth 20000 in
theorem ggX2_tickAt_X2_ticksAboveGap : GoodIn wsX2_tickAt wsX2_ticksAboveGap := goodIn_r _ [27, 14, 3, 16, 17, 18, 7, 19, 20, 21, 22, 23, 31, 32, 33, 34, 35, 36] (by decide +kernel) (by decide +kernel)
set_option maxRecDepth 20000 in
theorem gX2_tickAt_X2_ticksAboveGap : GoodIn wsX2_tickAt (wsV RX2 59 RX2 yX2_ticksAboveGap wsX2_ticksAboveGap) := goodIn_app (goodIn_of _ (by decide +kernel)) ggX2_tickAt_X2_ticksAboveGap
theorem dX2_tickAt_0 : decode cX2_tickAt 0 = .ok (.aload_n 0, 1) := by decide +kernel
theorem dX2_tickAt_1 : decode cX2_tickAt 1 = .ok (.iload_n 1, 1) := by decide +kernel
theorem dX2_tickAt_2 : decode cX2_tickAt 2 = .ok (.invokevirtual 63, 3) := by decide +kernel
theorem dX2_tickAt_5 : decode cX2_tickAt 5 = .ok (.istore_n 3, 1) := by decide +kernel
theorem dX2_tickAt_6 : decode cX2_tickAt 6 = .ok (.aload_n 0, 1) := by decide +kernel
theorem dX2_tickAt_7 : decode cX2_tickAt 7 = .ok (.iload_n 3, 1) := by decide +kernel
theorem dX2_tickAt_8 : decode cX2_tickAt 8 = .ok (.invokevirtual 56, 3) := by decide +kernel
theorem dX2_tickAt_11 : decode cX2_tickAt 11 = .ok (.istore 4, 2) := by decide +kernel
theorem dX2_tickAt_13 : decode cX2_tickAt 13 = .ok (.iload_n 2, 1) := by decide +kernel
theorem dX2_tickAt_14 : decode cX2_tickAt 14 = .ok (.ifCond .ge 6, 3) := by decide +kernel
theorem dX2_tickAt_17 : decode cX2_tickAt 17 = .ok (.ldc 38, 2) := by decide +kernel
theorem dX2_tickAt_19 : decode cX2_tickAt 19 = .ok (.ireturn, 1) := by decide +kernel
theorem dX2_tickAt_20 : decode cX2_tickAt 20 = .ok (.iload_n 2, 1) := by decide +kernel
theorem dX2_tickAt_21 : decode cX2_tickAt 21 = .ok (.iload 4, 2) := by decide +kernel
theorem dX2_tickAt_23 : decode cX2_tickAt 23 = .ok (.if_icmp .ge 16, 3) := by decide +kernel
theorem dX2_tickAt_26 : decode cX2_tickAt 26 = .ok (.aload_n 0, 1) := by decide +kernel
theorem dX2_tickAt_27 : decode cX2_tickAt 27 = .ok (.getfield 15, 3) := by decide +kernel
theorem dX2_tickAt_30 : decode cX2_tickAt 30 = .ok (.iload_n 3, 1) := by decide +kernel
theorem dX2_tickAt_31 : decode cX2_tickAt 31 = .ok (.invokestatic 66, 3) := by decide +kernel
theorem dX2_tickAt_34 : decode cX2_tickAt 34 = .ok (.iload_n 2, 1) := by decide +kernel
theorem dX2_tickAt_35 : decode cX2_tickAt 35 = .ok (.iload_n 3, 1) := by decide +kernel
theorem dX2_tickAt_36 : decode cX2_tickAt 36 = .ok (.imul, 1) := by decide +kernel
theorem dX2_tickAt_37 : decode cX2_tickAt 37 = .ok (.iadd, 1) := by decide +kernel
theorem dX2_tickAt_38 : decode cX2_tickAt 38 = .ok (.ireturn, 1) := by decide +kernel
theorem dX2_tickAt_39 : decode cX2_tickAt 39 = .ok (.iload_n 2, 1) := by decide +kernel
theorem dX2_tickAt_40 : decode cX2_tickAt 40 = .ok (.iload 4, 2) := by decide +kernel
theorem dX2_tickAt_42 : decode cX2_tickAt 42 = .ok (.isub, 1) := by decide +kernel
theorem dX2_tickAt_43 : decode cX2_tickAt 43 = .ok (.aload_n 0, 1) := by decide +kernel
theorem dX2_tickAt_44 : decode cX2_tickAt 44 = .ok (.iload_n 3, 1) := by decide +kernel
theorem dX2_tickAt_45 : decode cX2_tickAt 45 = .ok (.invokevirtual 59, 3) := by decide +kernel
theorem dX2_tickAt_48 : decode cX2_tickAt 48 = .ok (.if_icmp .ge 19, 3) := by decide +kernel
theorem dX2_tickAt_51 : decode cX2_tickAt 51 = .ok (.aload_n 0, 1) := by decide +kernel
theorem dX2_tickAt_52 : decode cX2_tickAt 52 = .ok (.getfield 27, 3) := by decide +kernel
theorem dX2_tickAt_55 : decode cX2_tickAt 55 = .ok (.iload_n 3, 1) := by decide +kernel
theorem dX2_tickAt_56 : decode cX2_tickAt 56 = .ok (.invokestatic 66, 3) := by decide +kernel
theorem dX2_tickAt_59 : decode cX2_tickAt 59 = .ok (.iload_n 2, 1) := by decide +kernel
theorem dX2_tickAt_60 : decode cX2_tickAt 60 = .ok (.iload 4, 2) := by decide +kernel
theorem dX2_tickAt_62 : decode cX2_tickAt 62 = .ok (.isub, 1) := by decide +kernel
theorem dX2_tickAt_63 : decode cX2_tickAt 63 = .ok (.iload_n 3, 1) := by decide +kernel
theorem dX2_tickAt_64 : decode cX2_tickAt 64 = .ok (.imul, 1) := by decide +kernel
theorem dX2_tickAt_65 : decode cX2_tickAt 65 = .ok (.iadd, 1) := by decide +kernel
theorem dX2_tickAt_66 : decode cX2_tickAt 66 = .ok (.ireturn, 1) := by decide +kernel
theorem dX2_tickAt_67 : decode cX2_tickAt 67 = .ok (.ldc 38, 2) := by decide +kernel
theorem dX2_tickAt_69 : decode cX2_tickAt 69 = .ok (.ireturn, 1) := by decide +kernel
set_option maxRecDepth 20000 in
theorem ggX2_ticksBelowGap_X2_multiples : GoodIn wsX2_ticksBelowGap wsX2_multiples := goodIn_r _ [8, 9, 10, 11, 12] (by decide +kernel) (by decide +kernel)
set_option maxRecDepth 20000 in
theorem gX2_ticksBelowGap_X2_multiples : GoodIn wsX2_ticksBelowGap (va_wsS RX2 69 yX2_multiples wsX2_multiples) := goodIn_app (goodIn_of _ (by decide +kernel)) ggX2_ticksBelowGap_X2_multiples
theorem dX2_ticksBelowGap_0 : decode cX2_ticksBelowGap 0 = .ok (.aload_n 0, 1) := by decide +kernel
theorem dX2_ticksBelowGap_1 : decode cX2_ticksBelowGap 1 = .ok (.getfield 15, 3) := by decide +kernel
theorem dX2_ticksBelowGap_4 : decode cX2_ticksBelowGap 4 = .ok (.aload_n 0, 1) := by decide +kernel
theorem dX2_ticksBelowGap_5 : decode cX2_ticksBelowGap 5 = .ok (.getfield 9, 3) := by decide +kernel
theorem dX2_ticksBelowGap_8 : decode cX2_ticksBelowGap 8 = .ok (.iconst 2, 1) := by decide +kernel
theorem dX2_ticksBelowGap_9 : decode cX2_ticksBelowGap 9 = .ok (.if_icmp .ne 10, 3) := by decide +kernel
theorem dX2_ticksBelowGap_12 : decode cX2_ticksBelowGap 12 = .ok (.aload_n 0, 1) := by decide +kernel
theorem dX2_ticksBelowGap_13 : decode cX2_ticksBelowGap 13 = .ok (.getfield 24, 3) := by decide +kernel
theorem dX2_ticksBelowGap_16 : decode cX2_ticksBelowGap 16 = .ok (.goto 7, 3) := by decide +kernel
theorem dX2_ticksBelowGap_19 : decode cX2_ticksBelowGap 19 = .ok (.aload_n 0, 1) := by decide +kernel
theorem dX2_ticksBelowGap_20 : decode cX2_ticksBelowGap 20 = .ok (.getfield 18, 3) := by decide +kernel
theorem dX2_ticksBelowGap_23 : decode cX2_ticksBelowGap 23 = .ok (.iload_n 1, 1) := by decide +kernel
theorem dX2_ticksBelowGap_24 : decode cX2_ticksBelowGap 24 = .ok (.invokestatic 69, 3) := by decide +kernel
theorem dX2_ticksBelowGap_27 : decode cX2_ticksBelowGap 27 = .ok (.ireturn, 1) := by decide +kernel
set_option maxRecDepth 20000 in
theorem ggX2_ticksAboveGap_X2_multiples : GoodIn wsX2_ticksAboveGap wsX2_multiples := goodIn_r _ [7, 8, 9, 10, 11] (by decide +kernel) (by decide +kernel)
set_option maxRecDepth 20000 in
theorem gX2_ticksAboveGap_X2_multiples : GoodIn wsX2_ticksAboveGap (va_wsS RX2 69 yX2_multiples wsX2_multiples) := goodIn_app (goodIn_of _ (by decide +kernel)) ggX2_ticksAboveGap_X2_multiples
theorem dX2_ticksAboveGap_0 : decode cX2_ticksAboveGap 0 = .ok (.aload_n 0, 1) := by decide +kernel
theorem dX2_ticksAboveGap_1 : decode cX2_ticksAboveGap 1 = .ok (.getfield 9, 3) := by decide +kernel
theorem dX2_ticksAboveGap_4 : decode cX2_ticksAboveGap 4 = .ok (.iconst 2, 1) := by decide +kernel
theorem dX2_ticksAboveGap_5 : decode cX2_ticksAboveGap 5 = .ok (.if_icmp .ne 18, 3) := by decide +kernel
theorem dX2_ticksAboveGap_8 : decode cX2_ticksAboveGap 8 = .ok (.aload_n 0, 1) := by decide +kernel
theorem dX2_ticksAboveGap_9 : decode cX2_ticksAboveGap 9 = .ok (.getfield 27, 3) := by decide +kernel
theorem dX2_ticksAboveGap_12 : decode cX2_ticksAboveGap 12 = .ok (.aload_n 0, 1) := by decide +kernel
theorem dX2_ticksAboveGap_13 : decode cX2_ticksAboveGap 13 = .ok (.getfield 18, 3) := by decide +kernel
theorem dX2_ticksAboveGap_16 : decode cX2_ticksAboveGap 16 = .ok (.iload_n 1, 1) := by decide +kernel
theorem dX2_ticksAboveGap_17 : decode cX2_ticksAboveGap 17 = .ok (.invokestatic 69, 3) := by decide +kernel
theorem dX2_ticksAboveGap_20 : decode cX2_ticksAboveGap 20 = .ok (.goto 4, 3) := by decide +kernel
theorem dX2_ticksAboveGap_23 : decode cX2_ticksAboveGap 23 = .ok (.iconst 0, 1) := by decide +kernel
theorem dX2_ticksAboveGap_24 : decode cX2_ticksAboveGap 24 = .ok (.ireturn, 1) := by decide +kernel
set_option maxRecDepth 20000 in
theorem ggX2_multiples_J9_floorDiv_7cf53 : GoodIn wsX2_multiples wsJ9_floorDiv_7cf53 := goodIn_r _ [4] (by decide +kernel) (by decide +kernel)
set_option maxRecDepth 20000 in
theorem gX2_multiples_J9_floorDiv_7cf53 : GoodIn wsX2_multiples (va_wsS RX2 39 yJ9_floorDiv_7cf53 wsJ9_floorDiv_7cf53) := goodIn_app (goodIn_of _ (by decide +kernel)) ggX2_multiples_J9_floorDiv_7cf53
theorem dX2_multiples_0 : decode cX2_multiples 0 = .ok (.iload_n 2, 1) := by decide +kernel
theorem dX2_multiples_1 : decode cX2_multiples 1 = .ok (.ifCond .gt 7, 3) := by decide +kernel
theorem dX2_multiples_4 : decode cX2_multiples 4 = .ok (.iconst 0, 1) := by decide +kernel
theorem dX2_multiples_5 : decode cX2_multiples 5 = .ok (.goto 16, 3) := by decide +kernel
theorem dX2_multiples_8 : decode cX2_multiples 8 = .ok (.iload_n 1, 1) := by decide +kernel
theorem dX2_multiples_9 : decode cX2_multiples 9 = .ok (.iload_n 2, 1) := by decide +kernel
theorem dX2_multiples_10 : decode cX2_multiples 10 = .ok (.invokestatic 39, 3) := by decide +kernel
theorem dX2_multiples_13 : decode cX2_multiples 13 = .ok (.iload_n 0, 1) := by decide +kernel
theorem dX2_multiples_14 : decode cX2_multiples 14 = .ok (.iconst 1, 1) := by decide +kernel
theorem dX2_multiples_15 : decode cX2_multiples 15 = .ok (.isub, 1) := by decide +kernel
theorem dX2_multiples_16 : decode cX2_multiples 16 = .ok (.iload_n 2, 1) := by decide +kernel
theorem dX2_multiples_17 : decode cX2_multiples 17 = .ok (.invokestatic 39, 3) := by decide +kernel
theorem dX2_multiples_20 : decode cX2_multiples 20 = .ok (.isub, 1) := by decide +kernel
theorem dX2_multiples_21 : decode cX2_multiples 21 = .ok (.ireturn, 1) := by decide +kernel
set_option maxRecDepth 20000 in
theorem ggX2_firstMultiple_J9_floorDiv_7cf53 : GoodIn wsX2_firstMultiple wsJ9_floorDiv_7cf53 := goodIn_r _ [4] (by decide +kernel) (by decide +kernel)
set_option maxRecDepth 20000 in
theorem gX2_firstMultiple_J9_floorDiv_7cf53 : GoodIn wsX2_firstMultiple (va_wsS RX2 39 yJ9_floorDiv_7cf53 wsJ9_floorDiv_7cf53) := goodIn_app (goodIn_of _ (by decide +kernel)) ggX2_firstMultiple_J9_floorDiv_7cf53
theorem dX2_firstMultiple_0 : decode cX2_firstMultiple 0 = .ok (.iload_n 1, 1) := by decide +kernel
theorem dX2_firstMultiple_1 : decode cX2_firstMultiple 1 = .ok (.ifCond .gt 7, 3) := by decide +kernel
theorem dX2_firstMultiple_4 : decode cX2_firstMultiple 4 = .ok (.iload_n 0, 1) := by decide +kernel
theorem dX2_firstMultiple_5 : decode cX2_firstMultiple 5 = .ok (.goto 14, 3) := by decide +kernel
theorem dX2_firstMultiple_8 : decode cX2_firstMultiple 8 = .ok (.iload_n 0, 1) := by decide +kernel
theorem dX2_firstMultiple_9 : decode cX2_firstMultiple 9 = .ok (.iconst 1, 1) := by decide +kernel
theorem dX2_firstMultiple_10 : decode cX2_firstMultiple 10 = .ok (.isub, 1) := by decide +kernel
theorem dX2_firstMultiple_11 : decode cX2_firstMultiple 11 = .ok (.iload_n 1, 1) := by decide +kernel
theorem dX2_firstMultiple_12 : decode cX2_firstMultiple 12 = .ok (.invokestatic 39, 3) := by decide +kernel
theorem dX2_firstMultiple_15 : decode cX2_firstMultiple 15 = .ok (.iconst 1, 1) := by decide +kernel
theorem dX2_firstMultiple_16 : decode cX2_firstMultiple 16 = .ok (.iadd, 1) := by decide +kernel
theorem dX2_firstMultiple_17 : decode cX2_firstMultiple 17 = .ok (.iload_n 1, 1) := by decide +kernel
theorem dX2_firstMultiple_18 : decode cX2_firstMultiple 18 = .ok (.imul, 1) := by decide +kernel
theorem dX2_firstMultiple_19 : decode cX2_firstMultiple 19 = .ok (.ireturn, 1) := by decide +kernel
set_option maxRecDepth 20000 in
theorem ggX3_init_X4_init : GoodIn wsX3_init wsX4_init := goodIn_r _ [21, 22, 2, 3, 5, 23, 24, 25, 37, 38, 39] (by decide +kernel) (by decide +kernel)
set_option maxRecDepth 20000 in
theorem gX3_init_X4_init : GoodIn wsX3_init (wsX4_init) := ggX3_init_X4_init
theorem dX3_init_0 : decode cX3_init 0 = .ok (.aload_n 0, 1) := by decide +kernel
theorem dX3_init_1 : decode cX3_init 1 = .ok (.invokespecial 3, 3) := by decide +kernel
theorem dX3_init_4 : decode cX3_init 4 = .ok (.aload_n 0, 1) := by decide +kernel
theorem dX3_init_5 : decode cX3_init 5 = .ok (.iconst 1, 1) := by decide +kernel
theorem dX3_init_6 : decode cX3_init 6 = .ok (.putfield 9, 3) := by decide +kernel
theorem dX3_init_9 : decode cX3_init 9 = .ok (.aload_n 0, 1) := by decide +kernel
theorem dX3_init_10 : decode cX3_init 10 = .ok (.bipush 24, 2) := by decide +kernel
theorem dX3_init_12 : decode cX3_init 12 = .ok (.newarray .int, 2) := by decide +kernel
theorem dX3_init_14 : decode cX3_init 14 = .ok (.putfield 15, 3) := by decide +kernel
theorem dX3_init_17 : decode cX3_init 17 = .ok (.aload_n 0, 1) := by decide +kernel
theorem dX3_init_18 : decode cX3_init 18 = .ok (.bipush 24, 2) := by decide +kernel
theorem dX3_init_20 : decode cX3_init 20 = .ok (.newarray .int, 2) := by decide +kernel
theorem dX3_init_22 : decode cX3_init 22 = .ok (.putfield 19, 3) := by decide +kernel
theorem dX3_init_25 : decode cX3_init 25 = .ok (.aload_n 0, 1) := by decide +kernel
theorem dX3_init_26 : decode cX3_init 26 = .ok (.bipush 24, 2) := by decide +kernel
theorem dX3_init_28 : decode cX3_init 28 = .ok (.newarray .int, 2) := by decide +kernel
theorem dX3_init_30 : decode cX3_init 30 = .ok (.putfield 22, 3) := by decide +kernel
theorem dX3_init_33 : decode cX3_init 33 = .ok (.aload_n 0, 1) := by decide +kernel
theorem dX3_init_34 : decode cX3_init 34 = .ok (.bipush 24, 2) := by decide +kernel
theorem dX3_init_36 : decode cX3_init 36 = .ok (.newarray .boolean, 2) := by decide +kernel
theorem dX3_init_38 : decode cX3_init 38 = .ok (.putfield 25, 3) := by decide +kernel
theorem dX3_init_41 : decode cX3_init 41 = .ok (.aload_n 0, 1) := by decide +kernel
theorem dX3_init_42 : decode cX3_init 42 = .ok (.aload_n 1, 1) := by decide +kernel
theorem dX3_init_43 : decode cX3_init 43 = .ok (.putfield 29, 3) := by decide +kernel
theorem dX3_init_46 : decode cX3_init 46 = .ok (.aload_n 0, 1) := by decide +kernel
theorem dX3_init_47 : decode cX3_init 47 = .ok (.iload_n 2, 1) := by decide +kernel
theorem dX3_init_48 : decode cX3_init 48 = .ok (.putfield 33, 3) := by decide +kernel
theorem dX3_init_51 : decode cX3_init 51 = .ok (.aload_n 0, 1) := by decide +kernel
theorem dX3_init_52 : decode cX3_init 52 = .ok (.iload_n 3, 1) := by decide +kernel
theorem dX3_init_53 : decode cX3_init 53 = .ok (.putfield 37, 3) := by decide +kernel
theorem dX3_init_56 : decode cX3_init 56 = .ok (.aload_n 0, 1) := by decide +kernel
theorem dX3_init_57 : decode cX3_init 57 = .ok (.iload 4, 2) := by decide +kernel
theorem dX3_init_59 : decode cX3_init 59 = .ok (.putfield 40, 3) := by decide +kernel
theorem dX3_init_62 : decode cX3_init 62 = .ok (.aload_n 0, 1) := by decide +kernel
theorem dX3_init_63 : decode cX3_init 63 = .ok (.new 43, 3) := by decide +kernel
theorem dX3_init_66 : decode cX3_init 66 = .ok (.dup, 1) := by decide +kernel
theorem dX3_init_67 : decode cX3_init 67 = .ok (.aload_n 1, 1) := by decide +kernel
theorem dX3_init_68 : decode cX3_init 68 = .ok (.invokespecial 45, 3) := by decide +kernel
theorem dX3_init_71 : decode cX3_init 71 = .ok (.putfield 48, 3) := by decide +kernel
theorem dX3_init_74 : decode cX3_init 74 = .ok (.return_, 1) := by decide +kernel
theorem dX3_restyle_0 : decode cX3_restyle 0 = .ok (.iload_n 1, 1) := by decide +kernel
theorem dX3_restyle_1 : decode cX3_restyle 1 = .ok (.tableswitch 68 0 2 #[27, 44, 56], 27) := by decide +kernel
theorem dX3_restyle_28 : decode cX3_restyle 28 = .ok (.aload_n 0, 1) := by decide +kernel
theorem dX3_restyle_29 : decode cX3_restyle 29 = .ok (.getfield 33, 3) := by decide +kernel
theorem dX3_restyle_32 : decode cX3_restyle 32 = .ok (.istore_n 3, 1) := by decide +kernel
theorem dX3_restyle_33 : decode cX3_restyle 33 = .ok (.aload_n 0, 1) := by decide +kernel
theorem dX3_restyle_34 : decode cX3_restyle 34 = .ok (.iload_n 2, 1) := by decide +kernel
theorem dX3_restyle_35 : decode cX3_restyle 35 = .ok (.putfield 33, 3) := by decide +kernel
theorem dX3_restyle_38 : decode cX3_restyle 38 = .ok (.aload_n 0, 1) := by decide +kernel
theorem dX3_restyle_39 : decode cX3_restyle 39 = .ok (.iconst 1, 1) := by decide +kernel
theorem dX3_restyle_40 : decode cX3_restyle 40 = .ok (.putfield 9, 3) := by decide +kernel
theorem dX3_restyle_43 : decode cX3_restyle 43 = .ok (.iload_n 3, 1) := by decide +kernel
theorem dX3_restyle_44 : decode cX3_restyle 44 = .ok (.ireturn, 1) := by decide +kernel
theorem dX3_restyle_45 : decode cX3_restyle 45 = .ok (.aload_n 0, 1) := by decide +kernel
theorem dX3_restyle_46 : decode cX3_restyle 46 = .ok (.getfield 37, 3) := by decide +kernel
theorem dX3_restyle_49 : decode cX3_restyle 49 = .ok (.istore_n 3, 1) := by decide +kernel
theorem dX3_restyle_50 : decode cX3_restyle 50 = .ok (.aload_n 0, 1) := by decide +kernel
theorem dX3_restyle_51 : decode cX3_restyle 51 = .ok (.iload_n 2, 1) := by decide +kernel
theorem dX3_restyle_52 : decode cX3_restyle 52 = .ok (.putfield 37, 3) := by decide +kernel
theorem dX3_restyle_55 : decode cX3_restyle 55 = .ok (.iload_n 3, 1) := by decide +kernel
theorem dX3_restyle_56 : decode cX3_restyle 56 = .ok (.ireturn, 1) := by decide +kernel
theorem dX3_restyle_57 : decode cX3_restyle 57 = .ok (.aload_n 0, 1) := by decide +kernel
theorem dX3_restyle_58 : decode cX3_restyle 58 = .ok (.getfield 40, 3) := by decide +kernel
theorem dX3_restyle_61 : decode cX3_restyle 61 = .ok (.istore_n 3, 1) := by decide +kernel
theorem dX3_restyle_62 : decode cX3_restyle 62 = .ok (.aload_n 0, 1) := by decide +kernel
theorem dX3_restyle_63 : decode cX3_restyle 63 = .ok (.iload_n 2, 1) := by decide +kernel
theorem dX3_restyle_64 : decode cX3_restyle 64 = .ok (.putfield 40, 3) := by decide +kernel
theorem dX3_restyle_67 : decode cX3_restyle 67 = .ok (.iload_n 3, 1) := by decide +kernel
theorem dX3_restyle_68 : decode cX3_restyle 68 = .ok (.ireturn, 1) := by decide +kernel
theorem dX3_restyle_69 : decode cX3_restyle 69 = .ok (.iconst (-1), 1) := by decide +kernel
theorem dX3_restyle_70 : decode cX3_restyle 70 = .ok (.ireturn, 1) := by decide +kernel
theorem dX3_add_0 : decode cX3_add 0 = .ok (.aload_n 0, 1) := by decide +kernel
theorem dX3_add_1 : decode cX3_add 1 = .ok (.getfield 52, 3) := by decide +kernel
theorem dX3_add_4 : decode cX3_add 4 = .ok (.bipush 24, 2) := by decide +kernel
theorem dX3_add_6 : decode cX3_add 6 = .ok (.if_icmp .lt 6, 3) := by decide +kernel
theorem dX3_add_9 : decode cX3_add 9 = .ok (.bipush (-3), 2) := by decide +kernel
theorem dX3_add_11 : decode cX3_add 11 = .ok (.ireturn, 1) := by decide +kernel
theorem dX3_add_12 : decode cX3_add 12 = .ok (.aload_n 0, 1) := by decide +kernel
theorem dX3_add_13 : decode cX3_add 13 = .ok (.getfield 25, 3) := by decide +kernel
theorem dX3_add_16 : decode cX3_add 16 = .ok (.aload_n 0, 1) := by decide +kernel
theorem dX3_add_17 : decode cX3_add 17 = .ok (.getfield 52, 3) := by decide +kernel
theorem dX3_add_20 : decode cX3_add 20 = .ok (.iload_n 1, 1) := by decide +kernel
theorem dX3_add_21 : decode cX3_add 21 = .ok (.bastore, 1) := by decide +kernel
theorem dX3_add_22 : decode cX3_add 22 = .ok (.aload_n 0, 1) := by decide +kernel
theorem dX3_add_23 : decode cX3_add 23 = .ok (.getfield 15, 3) := by decide +kernel
theorem dX3_add_26 : decode cX3_add 26 = .ok (.aload_n 0, 1) := by decide +kernel
theorem dX3_add_27 : decode cX3_add 27 = .ok (.getfield 52, 3) := by decide +kernel
theorem dX3_add_30 : decode cX3_add 30 = .ok (.iload_n 2, 1) := by decide +kernel
theorem dX3_add_31 : decode cX3_add 31 = .ok (.iastore, 1) := by decide +kernel
theorem dX3_add_32 : decode cX3_add 32 = .ok (.aload_n 0, 1) := by decide +kernel
theorem dX3_add_33 : decode cX3_add 33 = .ok (.getfield 19, 3) := by decide +kernel
theorem dX3_add_36 : decode cX3_add 36 = .ok (.aload_n 0, 1) := by decide +kernel
theorem dX3_add_37 : decode cX3_add 37 = .ok (.getfield 52, 3) := by decide +kernel
theorem dX3_add_40 : decode cX3_add 40 = .ok (.iload_n 3, 1) := by decide +kernel
theorem dX3_add_41 : decode cX3_add 41 = .ok (.iastore, 1) := by decide +kernel
theorem dX3_add_42 : decode cX3_add 42 = .ok (.aload_n 0, 1) := by decide +kernel
theorem dX3_add_43 : decode cX3_add 43 = .ok (.getfield 22, 3) := by decide +kernel
theorem dX3_add_46 : decode cX3_add 46 = .ok (.aload_n 0, 1) := by decide +kernel
theorem dX3_add_47 : decode cX3_add 47 = .ok (.getfield 52, 3) := by decide +kernel
theorem dX3_add_50 : decode cX3_add 50 = .ok (.iload 4, 2) := by decide +kernel
theorem dX3_add_52 : decode cX3_add 52 = .ok (.iastore, 1) := by decide +kernel
theorem dX3_add_53 : decode cX3_add 53 = .ok (.aload_n 0, 1) := by decide +kernel
theorem dX3_add_54 : decode cX3_add 54 = .ok (.dup, 1) := by decide +kernel
theorem dX3_add_55 : decode cX3_add 55 = .ok (.getfield 52, 3) := by decide +kernel
theorem dX3_add_58 : decode cX3_add 58 = .ok (.iconst 1, 1) := by decide +kernel
theorem dX3_add_59 : decode cX3_add 59 = .ok (.iadd, 1) := by decide +kernel
theorem dX3_add_60 : decode cX3_add 60 = .ok (.putfield 52, 3) := by decide +kernel
theorem dX3_add_63 : decode cX3_add 63 = .ok (.aload_n 0, 1) := by decide +kernel
theorem dX3_add_64 : decode cX3_add 64 = .ok (.iconst 1, 1) := by decide +kernel
theorem dX3_add_65 : decode cX3_add 65 = .ok (.putfield 9, 3) := by decide +kernel
theorem dX3_add_68 : decode cX3_add 68 = .ok (.aload_n 0, 1) := by decide +kernel
theorem dX3_add_69 : decode cX3_add 69 = .ok (.getfield 52, 3) := by decide +kernel
theorem dX3_add_72 : decode cX3_add 72 = .ok (.iconst 1, 1) := by decide +kernel
theorem dX3_add_73 : decode cX3_add 73 = .ok (.isub, 1) := by decide +kernel
theorem dX3_add_74 : decode cX3_add 74 = .ok (.ireturn, 1) := by decide +kernel
theorem dX3_removeLatest_0 : decode cX3_removeLatest 0 = .ok (.aload_n 0, 1) := by decide +kernel
theorem dX3_removeLatest_1 : decode cX3_removeLatest 1 = .ok (.iconst 0, 1) := by decide +kernel
theorem dX3_removeLatest_2 : decode cX3_removeLatest 2 = .ok (.aload_n 0, 1) := by decide +kernel
theorem dX3_removeLatest_3 : decode cX3_removeLatest 3 = .ok (.getfield 52, 3) := by decide +kernel
theorem dX3_removeLatest_6 : decode cX3_removeLatest 6 = .ok (.iconst 1, 1) := by decide +kernel
theorem dX3_removeLatest_7 : decode cX3_removeLatest 7 = .ok (.isub, 1) := by decide +kernel
theorem dX3_removeLatest_8 : decode cX3_removeLatest 8 = .ok (.invokestatic 55, 3) := by decide +kernel
theorem dX3_removeLatest_11 : decode cX3_removeLatest 11 = .ok (.putfield 52, 3) := by decide +kernel
theorem dX3_removeLatest_14 : decode cX3_removeLatest 14 = .ok (.aload_n 0, 1) := by decide +kernel
theorem dX3_removeLatest_15 : decode cX3_removeLatest 15 = .ok (.iconst 1, 1) := by decide +kernel
theorem dX3_removeLatest_16 : decode cX3_removeLatest 16 = .ok (.putfield 9, 3) := by decide +kernel
theorem dX3_removeLatest_19 : decode cX3_removeLatest 19 = .ok (.return_, 1) := by decide +kernel
theorem dX3_has_0 : decode cX3_has 0 = .ok (.iload_n 1, 1) := by decide +kernel
theorem dX3_has_1 : decode cX3_has 1 = .ok (.ifCond .lt 15, 3) := by decide +kernel
theorem dX3_has_4 : decode cX3_has 4 = .ok (.iload_n 1, 1) := by decide +kernel
theorem dX3_has_5 : decode cX3_has 5 = .ok (.aload_n 0, 1) := by decide +kernel
theorem dX3_has_6 : decode cX3_has 6 = .ok (.getfield 52, 3) := by decide +kernel
theorem dX3_has_9 : decode cX3_has 9 = .ok (.if_icmp .ge 7, 3) := by decide +kernel
theorem dX3_has_12 : decode cX3_has 12 = .ok (.iconst 1, 1) := by decide +kernel
theorem dX3_has_13 : decode cX3_has 13 = .ok (.goto 4, 3) := by decide +kernel
theorem dX3_has_16 : decode cX3_has 16 = .ok (.iconst 0, 1) := by decide +kernel
theorem dX3_has_17 : decode cX3_has 17 = .ok (.ireturn, 1) := by decide +kernel
set_option maxRecDepth 20000 in
theorem ggX3_isPoint_X3_has : GoodIn wsX3_isPoint wsX3_has := goodIn_r _ [6, 7, 8, 9, 10, 11, 12, 13, 14, 15, 16, 17, 18] (by decide +kernel) (by decide +kernel)
set_option maxRecDepth 20000 in
theorem gX3_isPoint_X3_has : GoodIn wsX3_isPoint (wsV RX3 61 RX3 yX3_has wsX3_has) := goodIn_app (goodIn_of _ (by decide +kernel)) ggX3_isPoint_X3_has
theorem dX3_isPoint_0 : decode cX3_isPoint 0 = .ok (.aload_n 0, 1) := by decide +kernel
theorem dX3_isPoint_1 : decode cX3_isPoint 1 = .ok (.iload_n 1, 1) := by decide +kernel
theorem dX3_isPoint_2 : decode cX3_isPoint 2 = .ok (.invokevirtual 61, 3) := by decide +kernel
theorem dX3_isPoint_5 : decode cX3_isPoint 5 = .ok (.ifCond .eq 16, 3) := by decide +kernel
theorem dX3_isPoint_8 : decode cX3_isPoint 8 = .ok (.aload_n 0, 1) := by decide +kernel
theorem dX3_isPoint_9 : decode cX3_isPoint 9 = .ok (.getfield 25, 3) := by decide +kernel
theorem dX3_isPoint_12 : decode cX3_isPoint 12 = .ok (.iload_n 1, 1) := by decide +kernel
theorem dX3_isPoint_13 : decode cX3_isPoint 13 = .ok (.baload, 1) := by decide +kernel
theorem dX3_isPoint_14 : decode cX3_isPoint 14 = .ok (.ifCond .ne 7, 3) := by decide +kernel
theorem dX3_isPoint_17 : decode cX3_isPoint 17 = .ok (.iconst 1, 1) := by decide +kernel
theorem dX3_isPoint_18 : decode cX3_isPoint 18 = .ok (.goto 4, 3) := by decide +kernel
theorem dX3_isPoint_21 : decode cX3_isPoint 21 = .ok (.iconst 0, 1) := by decide +kernel
theorem dX3_isPoint_22 : decode cX3_isPoint 22 = .ok (.ireturn, 1) := by decide +kernel
set_option maxRecDepth 20000 in
theorem ggX3_isSeen_X3_isPoint : GoodIn wsX3_isSeen wsX3_isPoint := goodIn_r _ [10, 11, 12, 13, 14, 9, 15, 16, 36, 37, 38, 39, 40, 41, 42, 43, 44, 45, 46] (by decide +kernel) (by decide +kernel)
set_option maxRecDepth 20000 in
theorem gX3_isSeen_X3_isPoint : GoodIn wsX3_isSeen (wsV RX3 65 RX3 yX3_isPoint wsX3_isPoint) := goodIn_app (goodIn_of _ (by decide +kernel)) ggX3_isSeen_X3_isPoint
set_option maxRecDepth 20000 in
theorem ggX3_isSeen_X2_placeOf : GoodIn wsX3_isSeen wsX2_placeOf := goodIn_r _ [21, 22, 23, 24, 25, 26, 27, 28, 29, 20, 30, 31, 32, 33, 34, 35, 51, 52, 53, 54, 55, 56] (by decide +kernel) (by decide +kernel)
set_option maxRecDepth 20000 in
theorem gX3_isSeen_X2_placeOf : GoodIn wsX3_isSeen (wsV RX3 74 RX2 yX2_placeOf wsX2_placeOf) := goodIn_app (goodIn_of _ (by decide +kernel)) ggX3_isSeen_X2_placeOf
theorem dX3_isSeen_0 : decode cX3_isSeen 0 = .ok (.aload_n 0, 1) := by decide +kernel
theorem dX3_isSeen_1 : decode cX3_isSeen 1 = .ok (.iload_n 1, 1) := by decide +kernel
theorem dX3_isSeen_2 : decode cX3_isSeen 2 = .ok (.invokevirtual 65, 3) := by decide +kernel
theorem dX3_isSeen_5 : decode cX3_isSeen 5 = .ok (.ifCond .eq 49, 3) := by decide +kernel
theorem dX3_isSeen_8 : decode cX3_isSeen 8 = .ok (.aload_n 0, 1) := by decide +kernel
theorem dX3_isSeen_9 : decode cX3_isSeen 9 = .ok (.getfield 29, 3) := by decide +kernel
theorem dX3_isSeen_12 : decode cX3_isSeen 12 = .ok (.getfield 68, 3) := by decide +kernel
theorem dX3_isSeen_15 : decode cX3_isSeen 15 = .ok (.aload_n 0, 1) := by decide +kernel
theorem dX3_isSeen_16 : decode cX3_isSeen 16 = .ok (.getfield 15, 3) := by decide +kernel
theorem dX3_isSeen_19 : decode cX3_isSeen 19 = .ok (.iload_n 1, 1) := by decide +kernel
theorem dX3_isSeen_20 : decode cX3_isSeen 20 = .ok (.iaload, 1) := by decide +kernel
theorem dX3_isSeen_21 : decode cX3_isSeen 21 = .ok (.invokevirtual 74, 3) := by decide +kernel
theorem dX3_isSeen_24 : decode cX3_isSeen 24 = .ok (.bipush (-9), 2) := by decide +kernel
theorem dX3_isSeen_26 : decode cX3_isSeen 26 = .ok (.if_icmp .eq 28, 3) := by decide +kernel
theorem dX3_isSeen_29 : decode cX3_isSeen 29 = .ok (.aload_n 0, 1) := by decide +kernel
theorem dX3_isSeen_30 : decode cX3_isSeen 30 = .ok (.getfield 29, 3) := by decide +kernel
theorem dX3_isSeen_33 : decode cX3_isSeen 33 = .ok (.getfield 80, 3) := by decide +kernel
theorem dX3_isSeen_36 : decode cX3_isSeen 36 = .ok (.aload_n 0, 1) := by decide +kernel
theorem dX3_isSeen_37 : decode cX3_isSeen 37 = .ok (.getfield 19, 3) := by decide +kernel
theorem dX3_isSeen_40 : decode cX3_isSeen 40 = .ok (.iload_n 1, 1) := by decide +kernel
theorem dX3_isSeen_41 : decode cX3_isSeen 41 = .ok (.iaload, 1) := by decide +kernel
theorem dX3_isSeen_42 : decode cX3_isSeen 42 = .ok (.invokevirtual 74, 3) := by decide +kernel
theorem dX3_isSeen_45 : decode cX3_isSeen 45 = .ok (.bipush (-9), 2) := by decide +kernel
theorem dX3_isSeen_47 : decode cX3_isSeen 47 = .ok (.if_icmp .eq 7, 3) := by decide +kernel
theorem dX3_isSeen_50 : decode cX3_isSeen 50 = .ok (.iconst 1, 1) := by decide +kernel
theorem dX3_isSeen_51 : decode cX3_isSeen 51 = .ok (.goto 4, 3) := by decide +kernel
theorem dX3_isSeen_54 : decode cX3_isSeen 54 = .ok (.iconst 0, 1) := by decide +kernel
theorem dX3_isSeen_55 : decode cX3_isSeen 55 = .ok (.ireturn, 1) := by decide +kernel
set_option maxRecDepth 20000 in
theorem ggX3_dotAcross_X3_has : GoodIn wsX3_dotAcross wsX3_has := goodIn_r _ [8, 9, 29, 30, 31, 32, 33, 34, 35, 36, 37, 38, 39] (by decide +kernel) (by decide +kernel)
set_option maxRecDepth 20000 in
theorem gX3_dotAcross_X3_has : GoodIn wsX3_dotAcross (wsV RX3 61 RX3 yX3_has wsX3_has) := goodIn_app (goodIn_of _ (by decide +kernel)) ggX3_dotAcross_X3_has
set_option maxRecDepth 20000 in
theorem ggX3_dotAcross_X2_placeOf : GoodIn wsX3_dotAcross wsX2_placeOf := goodIn_r _ [14, 15, 16, 17, 18, 19, 20, 21, 22, 13, 23, 24, 25, 26, 27, 28, 44, 45, 46, 47, 48, 49] (by decide +kernel) (by decide +kernel)
set_option maxRecDepth 20000 in
theorem gX3_dotAcross_X2_placeOf : GoodIn wsX3_dotAcross (wsV RX3 74 RX2 yX2_placeOf wsX2_placeOf) := goodIn_app (goodIn_of _ (by decide +kernel)) ggX3_dotAcross_X2_placeOf
theorem dX3_dotAcross_0 : decode cX3_dotAcross 0 = .ok (.aload_n 0, 1) := by decide +kernel
theorem dX3_dotAcross_1 : decode cX3_dotAcross 1 = .ok (.iload_n 1, 1) := by decide +kernel
theorem dX3_dotAcross_2 : decode cX3_dotAcross 2 = .ok (.invokevirtual 61, 3) := by decide +kernel
theorem dX3_dotAcross_5 : decode cX3_dotAcross 5 = .ok (.ifCond .eq 22, 3) := by decide +kernel
theorem dX3_dotAcross_8 : decode cX3_dotAcross 8 = .ok (.aload_n 0, 1) := by decide +kernel
