theorem dX3_dotAcross_9 : decode cX3_dotAcross 9 = .ok (.getfield 29, 3) := by decide +kernel
theorem dX3_dotAcross_12 : decode cX3_dotAcross 12 = .ok (.getfield 68, 3) := by decide +kernel
theorem dX3_dotAcross_15 : decode cX3_dotAcross 15 = .ok (.aload_n 0, 1) := by decide +kernel
theorem dX3_dotAcross_16 : decode cX3_dotAcross 16 = .ok (.getfield 15, 3) := by decide +kernel
theorem dX3_dotAcross_19 : decode cX3_dotAcross 19 = .ok (.iload_n 1, 1) := by decide +kernel
theorem dX3_dotAcross_20 : decode cX3_dotAcross 20 = .ok (.iaload, 1) := by decide +kernel
theorem dX3_dotAcross_21 : decode cX3_dotAcross 21 = .ok (.invokevirtual 74, 3) := by decide +kernel
theorem dX3_dotAcross_24 : decode cX3_dotAcross 24 = .ok (.goto 5, 3) := by decide +kernel
theorem dX3_dotAcross_27 : decode cX3_dotAcross 27 = .ok (.bipush (-9), 2) := by decide +kernel
theorem dX3_dotAcross_29 : decode cX3_dotAcross 29 = .ok (.ireturn, 1) := by decide +kernel
set_option maxRecDepth 20000 in
theorem ggX3_dotUpwards_X3_has : GoodIn wsX3_dotUpwards wsX3_has := goodIn_r _ [8, 9, 29, 30, 31, 32, 33, 34, 35, 36, 37, 38, 39] (by decide +kernel) (by decide +kernel)
set_option maxRecDepth 20000 in
theorem gX3_dotUpwards_X3_has : GoodIn wsX3_dotUpwards (wsV RX3 61 RX3 yX3_has wsX3_has) := goodIn_app (goodIn_of _ (by decide +kernel)) ggX3_dotUpwards_X3_has
set_option maxRecDepth 20000 in
theorem ggX3_dotUpwards_X2_placeOf : GoodIn wsX3_dotUpwards wsX2_placeOf := goodIn_r _ [14, 15, 16, 17, 18, 19, 20, 21, 22, 13, 23, 24, 25, 26, 27, 28, 44, 45, 46, 47, 48, 49] (by decide +kernel) (by decide +kernel)
set_option maxRecDepth 20000 in
theorem gX3_dotUpwards_X2_placeOf : GoodIn wsX3_dotUpwards (wsV RX3 74 RX2 yX2_placeOf wsX2_placeOf) := goodIn_app (goodIn_of _ (by decide +kernel)) ggX3_dotUpwards_X2_placeOf
theorem dX3_dotUpwards_0 : decode cX3_dotUpwards 0 = .ok (.aload_n 0, 1) := by decide +kernel
theorem dX3_dotUpwards_1 : decode cX3_dotUpwards 1 = .ok (.iload_n 1, 1) := by decide +kernel
theorem dX3_dotUpwards_2 : decode cX3_dotUpwards 2 = .ok (.invokevirtual 61, 3) := by decide +kernel
theorem dX3_dotUpwards_5 : decode cX3_dotUpwards 5 = .ok (.ifCond .eq 22, 3) := by decide +kernel
theorem dX3_dotUpwards_8 : decode cX3_dotUpwards 8 = .ok (.aload_n 0, 1) := by decide +kernel
theorem dX3_dotUpwards_9 : decode cX3_dotUpwards 9 = .ok (.getfield 29, 3) := by decide +kernel
theorem dX3_dotUpwards_12 : decode cX3_dotUpwards 12 = .ok (.getfield 80, 3) := by decide +kernel
theorem dX3_dotUpwards_15 : decode cX3_dotUpwards 15 = .ok (.aload_n 0, 1) := by decide +kernel
theorem dX3_dotUpwards_16 : decode cX3_dotUpwards 16 = .ok (.getfield 19, 3) := by decide +kernel
theorem dX3_dotUpwards_19 : decode cX3_dotUpwards 19 = .ok (.iload_n 1, 1) := by decide +kernel
theorem dX3_dotUpwards_20 : decode cX3_dotUpwards 20 = .ok (.iaload, 1) := by decide +kernel
theorem dX3_dotUpwards_21 : decode cX3_dotUpwards 21 = .ok (.invokevirtual 74, 3) := by decide +kernel
theorem dX3_dotUpwards_24 : decode cX3_dotUpwards 24 = .ok (.goto 5, 3) := by decide +kernel
theorem dX3_dotUpwards_27 : decode cX3_dotUpwards 27 = .ok (.bipush (-9), 2) := by decide +kernel
theorem dX3_dotUpwards_29 : decode cX3_dotUpwards 29 = .ok (.ireturn, 1) := by decide +kernel
set_option maxRecDepth 20000 in
theorem ggX3_points_X3_isPoint : GoodIn wsX3_points wsX3_isPoint := goodIn_r _ [6, 7, 8, 9, 10, 5, 11, 1, 12, 13, 14, 15, 16, 17, 18, 19, 20, 21, 22] (by decide +kernel) (by decide +kernel)
set_option maxRecDepth 20000 in
theorem gX3_points_X3_isPoint : GoodIn wsX3_points (wsV RX3 65 RX3 yX3_isPoint wsX3_isPoint) := goodIn_app (goodIn_of _ (by decide +kernel)) ggX3_points_X3_isPoint
theorem dX3_points_0 : decode cX3_points 0 = .ok (.iconst 0, 1) := by decide +kernel
theorem dX3_points_1 : decode cX3_points 1 = .ok (.istore_n 1, 1) := by decide +kernel
theorem dX3_points_2 : decode cX3_points 2 = .ok (.iconst 0, 1) := by decide +kernel
theorem dX3_points_3 : decode cX3_points 3 = .ok (.istore_n 2, 1) := by decide +kernel
theorem dX3_points_4 : decode cX3_points 4 = .ok (.iload_n 2, 1) := by decide +kernel
theorem dX3_points_5 : decode cX3_points 5 = .ok (.aload_n 0, 1) := by decide +kernel
theorem dX3_points_6 : decode cX3_points 6 = .ok (.getfield 52, 3) := by decide +kernel
theorem dX3_points_9 : decode cX3_points 9 = .ok (.if_icmp .ge 20, 3) := by decide +kernel
theorem dX3_points_12 : decode cX3_points 12 = .ok (.aload_n 0, 1) := by decide +kernel
theorem dX3_points_13 : decode cX3_points 13 = .ok (.iload_n 2, 1) := by decide +kernel
theorem dX3_points_14 : decode cX3_points 14 = .ok (.invokevirtual 65, 3) := by decide +kernel
theorem dX3_points_17 : decode cX3_points 17 = .ok (.ifCond .eq 6, 3) := by decide +kernel
theorem dX3_points_20 : decode cX3_points 20 = .ok (.iinc 1 1, 3) := by decide +kernel
theorem dX3_points_23 : decode cX3_points 23 = .ok (.iinc 2 1, 3) := by decide +kernel
theorem dX3_points_26 : decode cX3_points 26 = .ok (.goto (-22), 3) := by decide +kernel
theorem dX3_points_29 : decode cX3_points 29 = .ok (.iload_n 1, 1) := by decide +kernel
theorem dX3_points_30 : decode cX3_points 30 = .ok (.ireturn, 1) := by decide +kernel
set_option maxRecDepth 20000 in
theorem ggX3_runs_X3_isPoint : GoodIn wsX3_runs wsX3_isPoint := goodIn_r _ [6, 7, 8, 9, 10, 5, 11, 1, 12, 13, 14, 15, 16, 17, 18, 19, 20, 21, 22] (by decide +kernel) (by decide +kernel)
set_option maxRecDepth 20000 in
theorem gX3_runs_X3_isPoint : GoodIn wsX3_runs (wsV RX3 65 RX3 yX3_isPoint wsX3_isPoint) := goodIn_app (goodIn_of _ (by decide +kernel)) ggX3_runs_X3_isPoint
theorem dX3_runs_0 : decode cX3_runs 0 = .ok (.iconst 0, 1) := by decide +kernel
theorem dX3_runs_1 : decode cX3_runs 1 = .ok (.istore_n 1, 1) := by decide +kernel
theorem dX3_runs_2 : decode cX3_runs 2 = .ok (.iconst 0, 1) := by decide +kernel
theorem dX3_runs_3 : decode cX3_runs 3 = .ok (.istore_n 2, 1) := by decide +kernel
theorem dX3_runs_4 : decode cX3_runs 4 = .ok (.iload_n 2, 1) := by decide +kernel
theorem dX3_runs_5 : decode cX3_runs 5 = .ok (.aload_n 0, 1) := by decide +kernel
theorem dX3_runs_6 : decode cX3_runs 6 = .ok (.getfield 52, 3) := by decide +kernel
theorem dX3_runs_9 : decode cX3_runs 9 = .ok (.if_icmp .ge 30, 3) := by decide +kernel
theorem dX3_runs_12 : decode cX3_runs 12 = .ok (.aload_n 0, 1) := by decide +kernel
theorem dX3_runs_13 : decode cX3_runs 13 = .ok (.iload_n 2, 1) := by decide +kernel
theorem dX3_runs_14 : decode cX3_runs 14 = .ok (.invokevirtual 65, 3) := by decide +kernel
theorem dX3_runs_17 : decode cX3_runs 17 = .ok (.ifCond .eq 16, 3) := by decide +kernel
theorem dX3_runs_20 : decode cX3_runs 20 = .ok (.aload_n 0, 1) := by decide +kernel
theorem dX3_runs_21 : decode cX3_runs 21 = .ok (.iload_n 2, 1) := by decide +kernel
theorem dX3_runs_22 : decode cX3_runs 22 = .ok (.iconst 1, 1) := by decide +kernel
theorem dX3_runs_23 : decode cX3_runs 23 = .ok (.isub, 1) := by decide +kernel
theorem dX3_runs_24 : decode cX3_runs 24 = .ok (.invokevirtual 65, 3) := by decide +kernel
theorem dX3_runs_27 : decode cX3_runs 27 = .ok (.ifCond .ne 6, 3) := by decide +kernel
theorem dX3_runs_30 : decode cX3_runs 30 = .ok (.iinc 1 1, 3) := by decide +kernel
theorem dX3_runs_33 : decode cX3_runs 33 = .ok (.iinc 2 1, 3) := by decide +kernel
theorem dX3_runs_36 : decode cX3_runs 36 = .ok (.goto (-32), 3) := by decide +kernel
theorem dX3_runs_39 : decode cX3_runs 39 = .ok (.iload_n 1, 1) := by decide +kernel
theorem dX3_runs_40 : decode cX3_runs 40 = .ok (.ireturn, 1) := by decide +kernel
set_option maxRecDepth 20000 in
theorem ggX3_seenPoints_X3_isSeen : GoodIn wsX3_seenPoints wsX3_isSeen := goodIn_r _ [6, 7, 8, 9, 10, 11, 12, 13, 14, 5, 15, 16, 17, 18, 19, 20, 1, 21, 22, 23, 24, 25, 26, 27, 28, 29, 30, 31, 32, 33, 34, 35, 36, 37, 38, 39, 40, 41, 42, 43, 44, 45, 46, 47, 48, 49, 50, 51, 52, 53, 54, 55, 56, 57, 58, 59, 60] (by decide +kernel) (by decide +kernel)
set_option maxRecDepth 20000 in
theorem gX3_seenPoints_X3_isSeen : GoodIn wsX3_seenPoints (wsV RX3 83 RX3 yX3_isSeen wsX3_isSeen) := goodIn_app (goodIn_of _ (by decide +kernel)) ggX3_seenPoints_X3_isSeen
theorem dX3_seenPoints_0 : decode cX3_seenPoints 0 = .ok (.iconst 0, 1) := by decide +kernel
theorem dX3_seenPoints_1 : decode cX3_seenPoints 1 = .ok (.istore_n 1, 1) := by decide +kernel
theorem dX3_seenPoints_2 : decode cX3_seenPoints 2 = .ok (.iconst 0, 1) := by decide +kernel
theorem dX3_seenPoints_3 : decode cX3_seenPoints 3 = .ok (.istore_n 2, 1) := by decide +kernel
theorem dX3_seenPoints_4 : decode cX3_seenPoints 4 = .ok (.iload_n 2, 1) := by decide +kernel
theorem dX3_seenPoints_5 : decode cX3_seenPoints 5 = .ok (.aload_n 0, 1) := by decide +kernel
theorem dX3_seenPoints_6 : decode cX3_seenPoints 6 = .ok (.getfield 52, 3) := by decide +kernel
theorem dX3_seenPoints_9 : decode cX3_seenPoints 9 = .ok (.if_icmp .ge 20, 3) := by decide +kernel
theorem dX3_seenPoints_12 : decode cX3_seenPoints 12 = .ok (.aload_n 0, 1) := by decide +kernel
theorem dX3_seenPoints_13 : decode cX3_seenPoints 13 = .ok (.iload_n 2, 1) := by decide +kernel
theorem dX3_seenPoints_14 : decode cX3_seenPoints 14 = .ok (.invokevirtual 83, 3) := by decide +kernel
theorem dX3_seenPoints_17 : decode cX3_seenPoints 17 = .ok (.ifCond .eq 6, 3) := by decide +kernel
theorem dX3_seenPoints_20 : decode cX3_seenPoints 20 = .ok (.iinc 1 1, 3) := by decide +kernel
theorem dX3_seenPoints_23 : decode cX3_seenPoints 23 = .ok (.iinc 2 1, 3) := by decide +kernel
theorem dX3_seenPoints_26 : decode cX3_seenPoints 26 = .ok (.goto (-22), 3) := by decide +kernel
theorem dX3_seenPoints_29 : decode cX3_seenPoints 29 = .ok (.iload_n 1, 1) := by decide +kernel
theorem dX3_seenPoints_30 : decode cX3_seenPoints 30 = .ok (.ireturn, 1) := by decide +kernel
set_option maxRecDepth 20000 in
theorem ggX3_cells_X3_drawIfStale : GoodIn wsX3_cells wsX3_drawIfStale := goodIn_r _ [6, 7, 1, 8, 9, 10, 11, 12, 13, 14, 15, 16, 17, 18, 19, 20, 21, 22, 5, 23, 24, 25, 26, 27, 28, 29, 30, 31, 32, 33, 34, 35, 36, 37, 38, 39, 40, 41, 42, 43, 44, 45, 46, 47, 48, 49, 50, 51, 52, 53, 54, 55, 56, 57, 58, 59, 60, 61, 62, 63, 64, 65, 66, 67, 68, 69, 70, 71, 72, 73, 74, 75, 76, 77, 78, 79, 80, 81, 82, 83, 84, 85, 86, 87, 88, 89, 90, 91, 92, 93, 94, 95, 96, 97, 98, 99, 100, 101, 102, 103, 104, 105, 106, 107, 108, 109, 110, 111, 112, 113, 114, 115, 116, 117, 118, 119, 120, 121, 122, 123, 124, 125, 130, 131, 132, 133, 134, 135, 136, 137, 138, 139, 140, 141, 142, 143, 144, 145, 146, 147, 148, 149, 150, 151, 152, 153] (by decide +kernel) (by decide +kernel)
set_option maxRecDepth 20000 in
theorem gX3_cells_X3_drawIfStale : GoodIn wsX3_cells (wsV RX3 86 RX3 yX3_drawIfStale wsX3_drawIfStale) := goodIn_app (goodIn_of _ (by decide +kernel)) ggX3_cells_X3_drawIfStale
set_option maxRecDepth 20000 in
theorem ggX3_cells_X4_cellsHit : GoodIn wsX3_cells wsX4_cellsHit := goodIn_r _ [129, 15, 141, 142, 143] (by decide +kernel) (by decide +kernel)
set_option maxRecDepth 20000 in
theorem gX3_cells_X4_cellsHit : GoodIn wsX3_cells (wsV RX3 89 RX4 yX4_cellsHit wsX4_cellsHit) := goodIn_app (goodIn_of _ (by decide +kernel)) ggX3_cells_X4_cellsHit
theorem dX3_cells_0 : decode cX3_cells 0 = .ok (.aload_n 0, 1) := by decide +kernel
theorem dX3_cells_1 : decode cX3_cells 1 = .ok (.invokevirtual 86, 3) := by decide +kernel
theorem dX3_cells_4 : decode cX3_cells 4 = .ok (.aload_n 0, 1) := by decide +kernel
theorem dX3_cells_5 : decode cX3_cells 5 = .ok (.getfield 48, 3) := by decide +kernel
theorem dX3_cells_8 : decode cX3_cells 8 = .ok (.invokevirtual 89, 3) := by decide +kernel
theorem dX3_cells_11 : decode cX3_cells 11 = .ok (.ireturn, 1) := by decide +kernel
set_option maxRecDepth 20000 in
theorem ggX3_leastOn_X3_isPoint : GoodIn wsX3_leastOn wsX3_isPoint := goodIn_r _ [18, 19, 20, 21, 22, 17, 23, 2, 24, 25, 26, 27, 28, 29, 30, 31, 32, 33, 34] (by decide +kernel) (by decide +kernel)
set_option maxRecDepth 20000 in
theorem gX3_leastOn_X3_isPoint : GoodIn wsX3_leastOn (wsV RX3 65 RX3 yX3_isPoint wsX3_isPoint) := goodIn_app (goodIn_of _ (by decide +kernel)) ggX3_leastOn_X3_isPoint
theorem dX3_leastOn_0 : decode cX3_leastOn 0 = .ok (.ldc 93, 2) := by decide +kernel
theorem dX3_leastOn_2 : decode cX3_leastOn 2 = .ok (.istore_n 2, 1) := by decide +kernel
theorem dX3_leastOn_3 : decode cX3_leastOn 3 = .ok (.iconst 0, 1) := by decide +kernel
theorem dX3_leastOn_4 : decode cX3_leastOn 4 = .ok (.istore_n 3, 1) := by decide +kernel
theorem dX3_leastOn_5 : decode cX3_leastOn 5 = .ok (.iload_n 3, 1) := by decide +kernel
theorem dX3_leastOn_6 : decode cX3_leastOn 6 = .ok (.aload_n 0, 1) := by decide +kernel
theorem dX3_leastOn_7 : decode cX3_leastOn 7 = .ok (.getfield 52, 3) := by decide +kernel
theorem dX3_leastOn_10 : decode cX3_leastOn 10 = .ok (.if_icmp .ge 53, 3) := by decide +kernel
theorem dX3_leastOn_13 : decode cX3_leastOn 13 = .ok (.aload_n 0, 1) := by decide +kernel
theorem dX3_leastOn_14 : decode cX3_leastOn 14 = .ok (.iload_n 3, 1) := by decide +kernel
theorem dX3_leastOn_15 : decode cX3_leastOn 15 = .ok (.invokevirtual 65, 3) := by decide +kernel
theorem dX3_leastOn_18 : decode cX3_leastOn 18 = .ok (.ifCond .eq 39, 3) := by decide +kernel
theorem dX3_leastOn_21 : decode cX3_leastOn 21 = .ok (.iload_n 2, 1) := by decide +kernel
theorem dX3_leastOn_22 : decode cX3_leastOn 22 = .ok (.iload_n 1, 1) := by decide +kernel
theorem dX3_leastOn_23 : decode cX3_leastOn 23 = .ok (.ifCond .ne 12, 3) := by decide +kernel
theorem dX3_leastOn_26 : decode cX3_leastOn 26 = .ok (.aload_n 0, 1) := by decide +kernel
theorem dX3_leastOn_27 : decode cX3_leastOn 27 = .ok (.getfield 15, 3) := by decide +kernel
theorem dX3_leastOn_30 : decode cX3_leastOn 30 = .ok (.iload_n 3, 1) := by decide +kernel
theorem dX3_leastOn_31 : decode cX3_leastOn 31 = .ok (.iaload, 1) := by decide +kernel
theorem dX3_leastOn_32 : decode cX3_leastOn 32 = .ok (.goto 21, 3) := by decide +kernel
theorem dX3_leastOn_35 : decode cX3_leastOn 35 = .ok (.ldc 94, 2) := by decide +kernel
theorem dX3_leastOn_37 : decode cX3_leastOn 37 = .ok (.aload_n 0, 1) := by decide +kernel
theorem dX3_leastOn_38 : decode cX3_leastOn 38 = .ok (.getfield 19, 3) := by decide +kernel
theorem dX3_leastOn_41 : decode cX3_leastOn 41 = .ok (.iload_n 3, 1) := by decide +kernel
theorem dX3_leastOn_42 : decode cX3_leastOn 42 = .ok (.iaload, 1) := by decide +kernel
theorem dX3_leastOn_43 : decode cX3_leastOn 43 = .ok (.aload_n 0, 1) := by decide +kernel
theorem dX3_leastOn_44 : decode cX3_leastOn 44 = .ok (.getfield 22, 3) := by decide +kernel
theorem dX3_leastOn_47 : decode cX3_leastOn 47 = .ok (.iload_n 3, 1) := by decide +kernel
theorem dX3_leastOn_48 : decode cX3_leastOn 48 = .ok (.iaload, 1) := by decide +kernel
theorem dX3_leastOn_49 : decode cX3_leastOn 49 = .ok (.isub, 1) := by decide +kernel
theorem dX3_leastOn_50 : decode cX3_leastOn 50 = .ok (.invokestatic 55, 3) := by decide +kernel
theorem dX3_leastOn_53 : decode cX3_leastOn 53 = .ok (.invokestatic 95, 3) := by decide +kernel
theorem dX3_leastOn_56 : decode cX3_leastOn 56 = .ok (.istore_n 2, 1) := by decide +kernel
theorem dX3_leastOn_57 : decode cX3_leastOn 57 = .ok (.iinc 3 1, 3) := by decide +kernel
theorem dX3_leastOn_60 : decode cX3_leastOn 60 = .ok (.goto (-55), 3) := by decide +kernel
theorem dX3_leastOn_63 : decode cX3_leastOn 63 = .ok (.iload_n 2, 1) := by decide +kernel
theorem dX3_leastOn_64 : decode cX3_leastOn 64 = .ok (.ireturn, 1) := by decide +kernel
set_option maxRecDepth 20000 in
theorem ggX3_greatestOn_X3_isPoint : GoodIn wsX3_greatestOn wsX3_isPoint := goodIn_r _ [18, 19, 20, 21, 22, 17, 23, 2, 24, 25, 26, 27, 28, 29, 30, 31, 32, 33, 34] (by decide +kernel) (by decide +kernel)
set_option maxRecDepth 20000 in
theorem gX3_greatestOn_X3_isPoint : GoodIn wsX3_greatestOn (wsV RX3 65 RX3 yX3_isPoint wsX3_isPoint) := goodIn_app (goodIn_of _ (by decide +kernel)) ggX3_greatestOn_X3_isPoint
theorem dX3_greatestOn_0 : decode cX3_greatestOn 0 = .ok (.ldc 98, 2) := by decide +kernel
theorem dX3_greatestOn_2 : decode cX3_greatestOn 2 = .ok (.istore_n 2, 1) := by decide +kernel
theorem dX3_greatestOn_3 : decode cX3_greatestOn 3 = .ok (.iconst 0, 1) := by decide +kernel
theorem dX3_greatestOn_4 : decode cX3_greatestOn 4 = .ok (.istore_n 3, 1) := by decide +kernel
theorem dX3_greatestOn_5 : decode cX3_greatestOn 5 = .ok (.iload_n 3, 1) := by decide +kernel
theorem dX3_greatestOn_6 : decode cX3_greatestOn 6 = .ok (.aload_n 0, 1) := by decide +kernel
theorem dX3_greatestOn_7 : decode cX3_greatestOn 7 = .ok (.getfield 52, 3) := by decide +kernel
theorem dX3_greatestOn_10 : decode cX3_greatestOn 10 = .ok (.if_icmp .ge 53, 3) := by decide +kernel
theorem dX3_greatestOn_13 : decode cX3_greatestOn 13 = .ok (.aload_n 0, 1) := by decide +kernel
theorem dX3_greatestOn_14 : decode cX3_greatestOn 14 = .ok (.iload_n 3, 1) := by decide +kernel
theorem dX3_greatestOn_15 : decode cX3_greatestOn 15 = .ok (.invokevirtual 65, 3) := by decide +kernel
theorem dX3_greatestOn_18 : decode cX3_greatestOn 18 = .ok (.ifCond .eq 39, 3) := by decide +kernel
theorem dX3_greatestOn_21 : decode cX3_greatestOn 21 = .ok (.iload_n 2, 1) := by decide +kernel
theorem dX3_greatestOn_22 : decode cX3_greatestOn 22 = .ok (.iload_n 1, 1) := by decide +kernel
theorem dX3_greatestOn_23 : decode cX3_greatestOn 23 = .ok (.ifCond .ne 12, 3) := by decide +kernel
theorem dX3_greatestOn_26 : decode cX3_greatestOn 26 = .ok (.aload_n 0, 1) := by decide +kernel
theorem dX3_greatestOn_27 : decode cX3_greatestOn 27 = .ok (.getfield 15, 3) := by decide +kernel
theorem dX3_greatestOn_30 : decode cX3_greatestOn 30 = .ok (.iload_n 3, 1) := by decide +kernel
theorem dX3_greatestOn_31 : decode cX3_greatestOn 31 = .ok (.iaload, 1) := by decide +kernel
theorem dX3_greatestOn_32 : decode cX3_greatestOn 32 = .ok (.goto 21, 3) := by decide +kernel
theorem dX3_greatestOn_35 : decode cX3_greatestOn 35 = .ok (.ldc 99, 2) := by decide +kernel
theorem dX3_greatestOn_37 : decode cX3_greatestOn 37 = .ok (.aload_n 0, 1) := by decide +kernel
theorem dX3_greatestOn_38 : decode cX3_greatestOn 38 = .ok (.getfield 19, 3) := by decide +kernel
theorem dX3_greatestOn_41 : decode cX3_greatestOn 41 = .ok (.iload_n 3, 1) := by decide +kernel
theorem dX3_greatestOn_42 : decode cX3_greatestOn 42 = .ok (.iaload, 1) := by decide +kernel
theorem dX3_greatestOn_43 : decode cX3_greatestOn 43 = .ok (.aload_n 0, 1) := by decide +kernel
theorem dX3_greatestOn_44 : decode cX3_greatestOn 44 = .ok (.getfield 22, 3) := by decide +kernel
theorem dX3_greatestOn_47 : decode cX3_greatestOn 47 = .ok (.iload_n 3, 1) := by decide +kernel
theorem dX3_greatestOn_48 : decode cX3_greatestOn 48 = .ok (.iaload, 1) := by decide +kernel
theorem dX3_greatestOn_49 : decode cX3_greatestOn 49 = .ok (.iadd, 1) := by decide +kernel
theorem dX3_greatestOn_50 : decode cX3_greatestOn 50 = .ok (.invokestatic 95, 3) := by decide +kernel
theorem dX3_greatestOn_53 : decode cX3_greatestOn 53 = .ok (.invokestatic 55, 3) := by decide +kernel
theorem dX3_greatestOn_56 : decode cX3_greatestOn 56 = .ok (.istore_n 2, 1) := by decide +kernel
theorem dX3_greatestOn_57 : decode cX3_greatestOn 57 = .ok (.iinc 3 1, 3) := by decide +kernel
theorem dX3_greatestOn_60 : decode cX3_greatestOn 60 = .ok (.goto (-55), 3) := by decide +kernel
theorem dX3_greatestOn_63 : decode cX3_greatestOn 63 = .ok (.iload_n 2, 1) := by decide +kernel
theorem dX3_greatestOn_64 : decode cX3_greatestOn 64 = .ok (.ireturn, 1) := by decide +kernel
set_option maxRecDepth 20000 in
theorem ggX3_heightAtRank_X3_isPoint : GoodIn wsX3_heightAtRank wsX3_isPoint := goodIn_r _ [8, 9, 10, 11, 12, 7, 13, 1, 18, 19, 20, 21, 22, 23, 24, 25, 26, 27, 28] (by decide +kernel) (by decide +kernel)
set_option maxRecDepth 20000 in
theorem gX3_heightAtRank_X3_isPoint : GoodIn wsX3_heightAtRank (wsV RX3 65 RX3 yX3_isPoint wsX3_isPoint) := goodIn_app (goodIn_of _ (by decide +kernel)) ggX3_heightAtRank_X3_isPoint
set_option maxRecDepth 20000 in
theorem ggX3_heightAtRank_X3_lower : GoodIn wsX3_heightAtRank wsX3_lower := goodIn_r _ [17, 1, 2, 4, 5, 6, 7, 8, 9, 10, 11, 12, 13, 18, 19, 20, 21, 22, 23, 24, 25, 26, 27, 28] (by decide +kernel) (by decide +kernel)
set_option maxRecDepth 20000 in
theorem gX3_heightAtRank_X3_lower : GoodIn wsX3_heightAtRank (wsV RX3 100 RX3 yX3_lower wsX3_lower) := goodIn_app (goodIn_of _ (by decide +kernel)) ggX3_heightAtRank_X3_lower
theorem dX3_heightAtRank_0 : decode cX3_heightAtRank 0 = .ok (.iconst 0, 1) := by decide +kernel
theorem dX3_heightAtRank_1 : decode cX3_heightAtRank 1 = .ok (.istore_n 2, 1) := by decide +kernel
theorem dX3_heightAtRank_2 : decode cX3_heightAtRank 2 = .ok (.iload_n 2, 1) := by decide +kernel
theorem dX3_heightAtRank_3 : decode cX3_heightAtRank 3 = .ok (.aload_n 0, 1) := by decide +kernel
theorem dX3_heightAtRank_4 : decode cX3_heightAtRank 4 = .ok (.getfield 52, 3) := by decide +kernel
theorem dX3_heightAtRank_7 : decode cX3_heightAtRank 7 = .ok (.if_icmp .ge 54, 3) := by decide +kernel
theorem dX3_heightAtRank_10 : decode cX3_heightAtRank 10 = .ok (.aload_n 0, 1) := by decide +kernel
theorem dX3_heightAtRank_11 : decode cX3_heightAtRank 11 = .ok (.iload_n 2, 1) := by decide +kernel
theorem dX3_heightAtRank_12 : decode cX3_heightAtRank 12 = .ok (.invokevirtual 65, 3) := by decide +kernel
theorem dX3_heightAtRank_15 : decode cX3_heightAtRank 15 = .ok (.ifCond .eq 40, 3) := by decide +kernel
theorem dX3_heightAtRank_18 : decode cX3_heightAtRank 18 = .ok (.aload_n 0, 1) := by decide +kernel
theorem dX3_heightAtRank_19 : decode cX3_heightAtRank 19 = .ok (.aload_n 0, 1) := by decide +kernel
theorem dX3_heightAtRank_20 : decode cX3_heightAtRank 20 = .ok (.getfield 19, 3) := by decide +kernel
theorem dX3_heightAtRank_23 : decode cX3_heightAtRank 23 = .ok (.iload_n 2, 1) := by decide +kernel
theorem dX3_heightAtRank_24 : decode cX3_heightAtRank 24 = .ok (.iaload, 1) := by decide +kernel
theorem dX3_heightAtRank_25 : decode cX3_heightAtRank 25 = .ok (.invokevirtual 100, 3) := by decide +kernel
theorem dX3_heightAtRank_28 : decode cX3_heightAtRank 28 = .ok (.iload_n 1, 1) := by decide +kernel
theorem dX3_heightAtRank_29 : decode cX3_heightAtRank 29 = .ok (.if_icmp .gt 26, 3) := by decide +kernel
theorem dX3_heightAtRank_32 : decode cX3_heightAtRank 32 = .ok (.iload_n 1, 1) := by decide +kernel
theorem dX3_heightAtRank_33 : decode cX3_heightAtRank 33 = .ok (.aload_n 0, 1) := by decide +kernel
theorem dX3_heightAtRank_34 : decode cX3_heightAtRank 34 = .ok (.aload_n 0, 1) := by decide +kernel
theorem dX3_heightAtRank_35 : decode cX3_heightAtRank 35 = .ok (.getfield 19, 3) := by decide +kernel
theorem dX3_heightAtRank_38 : decode cX3_heightAtRank 38 = .ok (.iload_n 2, 1) := by decide +kernel
theorem dX3_heightAtRank_39 : decode cX3_heightAtRank 39 = .ok (.iaload, 1) := by decide +kernel
theorem dX3_heightAtRank_40 : decode cX3_heightAtRank 40 = .ok (.iconst 1, 1) := by decide +kernel
theorem dX3_heightAtRank_41 : decode cX3_heightAtRank 41 = .ok (.iadd, 1) := by decide +kernel
theorem dX3_heightAtRank_42 : decode cX3_heightAtRank 42 = .ok (.invokevirtual 100, 3) := by decide +kernel
theorem dX3_heightAtRank_45 : decode cX3_heightAtRank 45 = .ok (.if_icmp .ge 10, 3) := by decide +kernel
theorem dX3_heightAtRank_48 : decode cX3_heightAtRank 48 = .ok (.aload_n 0, 1) := by decide +kernel
theorem dX3_heightAtRank_49 : decode cX3_heightAtRank 49 = .ok (.getfield 19, 3) := by decide +kernel
theorem dX3_heightAtRank_52 : decode cX3_heightAtRank 52 = .ok (.iload_n 2, 1) := by decide +kernel
theorem dX3_heightAtRank_53 : decode cX3_heightAtRank 53 = .ok (.iaload, 1) := by decide +kernel
theorem dX3_heightAtRank_54 : decode cX3_heightAtRank 54 = .ok (.ireturn, 1) := by decide +kernel
theorem dX3_heightAtRank_55 : decode cX3_heightAtRank 55 = .ok (.iinc 2 1, 3) := by decide +kernel
theorem dX3_heightAtRank_58 : decode cX3_heightAtRank 58 = .ok (.goto (-56), 3) := by decide +kernel
theorem dX3_heightAtRank_61 : decode cX3_heightAtRank 61 = .ok (.ldc 103, 2) := by decide +kernel
theorem dX3_heightAtRank_63 : decode cX3_heightAtRank 63 = .ok (.ireturn, 1) := by decide +kernel
set_option maxRecDepth 20000 in
theorem ggX3_lower_X3_isPoint : GoodIn wsX3_lower wsX3_isPoint := goodIn_r _ [7, 8, 9, 10, 11, 6, 12, 1, 13, 14, 15, 16, 17, 18, 19, 20, 21, 22, 23] (by decide +kernel) (by decide +kernel)
set_option maxRecDepth 20000 in
theorem gX3_lower_X3_isPoint : GoodIn wsX3_lower (wsV RX3 65 RX3 yX3_isPoint wsX3_isPoint) := goodIn_app (goodIn_of _ (by decide +kernel)) ggX3_lower_X3_isPoint
theorem dX3_lower_0 : decode cX3_lower 0 = .ok (.iconst 0, 1) := by decide +kernel
theorem dX3_lower_1 : decode cX3_lower 1 = .ok (.istore_n 2, 1) := by decide +kernel
theorem dX3_lower_2 : decode cX3_lower 2 = .ok (.iconst 0, 1) := by decide +kernel
theorem dX3_lower_3 : decode cX3_lower 3 = .ok (.istore_n 3, 1) := by decide +kernel
theorem dX3_lower_4 : decode cX3_lower 4 = .ok (.iload_n 3, 1) := by decide +kernel
theorem dX3_lower_5 : decode cX3_lower 5 = .ok (.aload_n 0, 1) := by decide +kernel
theorem dX3_lower_6 : decode cX3_lower 6 = .ok (.getfield 52, 3) := by decide +kernel
theorem dX3_lower_9 : decode cX3_lower 9 = .ok (.if_icmp .ge 30, 3) := by decide +kernel
theorem dX3_lower_12 : decode cX3_lower 12 = .ok (.aload_n 0, 1) := by decide +kernel
theorem dX3_lower_13 : decode cX3_lower 13 = .ok (.iload_n 3, 1) := by decide +kernel
theorem dX3_lower_14 : decode cX3_lower 14 = .ok (.invokevirtual 65, 3) := by decide +kernel
theorem dX3_lower_17 : decode cX3_lower 17 = .ok (.ifCond .eq 16, 3) := by decide +kernel
theorem dX3_lower_20 : decode cX3_lower 20 = .ok (.aload_n 0, 1) := by decide +kernel
theorem dX3_lower_21 : decode cX3_lower 21 = .ok (.getfield 19, 3) := by decide +kernel
theorem dX3_lower_24 : decode cX3_lower 24 = .ok (.iload_n 3, 1) := by decide +kernel
theorem dX3_lower_25 : decode cX3_lower 25 = .ok (.iaload, 1) := by decide +kernel
theorem dX3_lower_26 : decode cX3_lower 26 = .ok (.iload_n 1, 1) := by decide +kernel
theorem dX3_lower_27 : decode cX3_lower 27 = .ok (.if_icmp .ge 6, 3) := by decide +kernel
theorem dX3_lower_30 : decode cX3_lower 30 = .ok (.iinc 2 1, 3) := by decide +kernel
theorem dX3_lower_33 : decode cX3_lower 33 = .ok (.iinc 3 1, 3) := by decide +kernel
theorem dX3_lower_36 : decode cX3_lower 36 = .ok (.goto (-32), 3) := by decide +kernel
theorem dX3_lower_39 : decode cX3_lower 39 = .ok (.iload_n 2, 1) := by decide +kernel
theorem dX3_lower_40 : decode cX3_lower 40 = .ok (.ireturn, 1) := by decide +kernel
set_option maxRecDepth 20000 in
theorem ggX3_signIn_X4_inkIn : GoodIn wsX3_signIn wsX4_inkIn := goodIn_r _ [8, 9, 21, 22, 23] (by decide +kernel) (by decide +kernel)
set_option maxRecDepth 20000 in
theorem gX3_signIn_X4_inkIn : GoodIn wsX3_signIn (wsV RX3 104 RX4 yX4_inkIn wsX4_inkIn) := goodIn_app (goodIn_of _ (by decide +kernel)) ggX3_signIn_X4_inkIn
theorem dX3_signIn_0 : decode cX3_signIn 0 = .ok (.aload_n 0, 1) := by decide +kernel
theorem dX3_signIn_1 : decode cX3_signIn 1 = .ok (.getfield 33, 3) := by decide +kernel
theorem dX3_signIn_4 : decode cX3_signIn 4 = .ok (.lookupswitch 46 #[(0, 28), (3, 33)], 28) := by decide +kernel
theorem dX3_signIn_32 : decode cX3_signIn 32 = .ok (.aload_n 0, 1) := by decide +kernel
theorem dX3_signIn_33 : decode cX3_signIn 33 = .ok (.getfield 40, 3) := by decide +kernel
theorem dX3_signIn_36 : decode cX3_signIn 36 = .ok (.ireturn, 1) := by decide +kernel
theorem dX3_signIn_37 : decode cX3_signIn 37 = .ok (.sipush 9600, 3) := by decide +kernel
theorem dX3_signIn_40 : decode cX3_signIn 40 = .ok (.aload_n 0, 1) := by decide +kernel
theorem dX3_signIn_41 : decode cX3_signIn 41 = .ok (.getfield 48, 3) := by decide +kernel
theorem dX3_signIn_44 : decode cX3_signIn 44 = .ok (.iload_n 1, 1) := by decide +kernel
theorem dX3_signIn_45 : decode cX3_signIn 45 = .ok (.invokevirtual 104, 3) := by decide +kernel
theorem dX3_signIn_48 : decode cX3_signIn 48 = .ok (.iadd, 1) := by decide +kernel
theorem dX3_signIn_49 : decode cX3_signIn 49 = .ok (.ireturn, 1) := by decide +kernel
theorem dX3_signIn_50 : decode cX3_signIn 50 = .ok (.sipush 10240, 3) := by decide +kernel
theorem dX3_signIn_53 : decode cX3_signIn 53 = .ok (.aload_n 0, 1) := by decide +kernel
theorem dX3_signIn_54 : decode cX3_signIn 54 = .ok (.getfield 48, 3) := by decide +kernel
theorem dX3_signIn_57 : decode cX3_signIn 57 = .ok (.iload_n 1, 1) := by decide +kernel
theorem dX3_signIn_58 : decode cX3_signIn 58 = .ok (.invokevirtual 104, 3) := by decide +kernel
theorem dX3_signIn_61 : decode cX3_signIn 61 = .ok (.iadd, 1) := by decide +kernel
theorem dX3_signIn_62 : decode cX3_signIn 62 = .ok (.ireturn, 1) := by decide +kernel
set_option maxRecDepth 20000 in
theorem ggX3_drawIfStale_X4_wipe : GoodIn wsX3_drawIfStale wsX4_wipe := goodIn_r _ [8, 9, 10, 11, 12, 13, 14, 133, 134, 135] (by decide +kernel) (by decide +kernel)
set_option maxRecDepth 20000 in
theorem gX3_drawIfStale_X4_wipe : GoodIn wsX3_drawIfStale (wsV RX3 107 RX4 yX4_wipe wsX4_wipe) := goodIn_app (goodIn_of _ (by decide +kernel)) ggX3_drawIfStale_X4_wipe
set_option maxRecDepth 20000 in
theorem ggX3_drawIfStale_X3_isSeen : GoodIn wsX3_drawIfStale wsX3_isSeen := goodIn_r _ [19, 20, 21, 22, 23, 24, 25, 26, 27, 18, 28, 29, 30, 31, 32, 33, 3, 34, 35, 36, 37, 38, 39, 40, 41, 42, 43, 44, 45, 46, 47, 48, 49, 50, 51, 52, 122, 123, 124, 125, 126, 127, 128, 129, 130, 131, 132, 136, 137, 138, 139, 140, 141, 142, 143, 144, 145] (by decide +kernel) (by decide +kernel)
set_option maxRecDepth 20000 in
theorem gX3_drawIfStale_X3_isSeen : GoodIn wsX3_drawIfStale (wsV RX3 83 RX3 yX3_isSeen wsX3_isSeen) := goodIn_app (goodIn_of _ (by decide +kernel)) ggX3_drawIfStale_X3_isSeen
set_option maxRecDepth 20000 in
theorem ggX3_drawIfStale_X3_drawSeen : GoodIn wsX3_drawIfStale wsX3_drawSeen := goodIn_r _ [56, 57, 2, 24, 58, 59, 60, 61, 18, 62, 20, 21, 22, 30, 31, 32, 33, 3, 34, 35, 36, 37, 38, 39, 40, 41, 42, 43, 44, 45, 46, 47, 48, 49, 50, 51, 52, 63, 64, 65, 66, 23, 15, 16, 17, 19, 25, 26, 27, 28, 29, 67, 68, 69, 7, 70, 71, 72, 73, 74, 75, 76, 77, 78, 79, 80, 81, 82, 83, 84, 85, 86, 87, 88, 89, 90, 10, 91, 92, 93, 94, 95, 96, 97, 98, 99, 100, 101, 102, 103, 104, 105, 9, 106, 107, 108, 109, 110, 111, 112, 113, 114, 115, 116, 117, 118, 119, 120, 121, 122, 123, 124, 125, 126, 127, 128, 129, 130, 131, 132, 136, 137, 138, 139, 140, 141, 142, 143, 144, 145, 133, 134, 135] (by decide +kernel) (by decide +kernel)
set_option maxRecDepth 20000 in
theorem gX3_drawIfStale_X3_drawSeen : GoodIn wsX3_drawIfStale (wsV RX3 110 RX3 yX3_drawSeen wsX3_drawSeen) := goodIn_app (goodIn_of _ (by decide +kernel)) ggX3_drawIfStale_X3_drawSeen
theorem dX3_drawIfStale_0 : decode cX3_drawIfStale 0 = .ok (.aload_n 0, 1) := by decide +kernel
theorem dX3_drawIfStale_1 : decode cX3_drawIfStale 1 = .ok (.getfield 9, 3) := by decide +kernel
theorem dX3_drawIfStale_4 : decode cX3_drawIfStale 4 = .ok (.ifCond .ne 4, 3) := by decide +kernel
theorem dX3_drawIfStale_7 : decode cX3_drawIfStale 7 = .ok (.return_, 1) := by decide +kernel
theorem dX3_drawIfStale_8 : decode cX3_drawIfStale 8 = .ok (.aload_n 0, 1) := by decide +kernel
theorem dX3_drawIfStale_9 : decode cX3_drawIfStale 9 = .ok (.getfield 48, 3) := by decide +kernel
theorem dX3_drawIfStale_12 : decode cX3_drawIfStale 12 = .ok (.invokevirtual 107, 3) := by decide +kernel
theorem dX3_drawIfStale_15 : decode cX3_drawIfStale 15 = .ok (.iconst 0, 1) := by decide +kernel
theorem dX3_drawIfStale_16 : decode cX3_drawIfStale 16 = .ok (.istore_n 1, 1) := by decide +kernel
theorem dX3_drawIfStale_17 : decode cX3_drawIfStale 17 = .ok (.iload_n 1, 1) := by decide +kernel
theorem dX3_drawIfStale_18 : decode cX3_drawIfStale 18 = .ok (.aload_n 0, 1) := by decide +kernel
theorem dX3_drawIfStale_19 : decode cX3_drawIfStale 19 = .ok (.getfield 52, 3) := by decide +kernel
theorem dX3_drawIfStale_22 : decode cX3_drawIfStale 22 = .ok (.if_icmp .ge 22, 3) := by decide +kernel
theorem dX3_drawIfStale_25 : decode cX3_drawIfStale 25 = .ok (.aload_n 0, 1) := by decide +kernel
theorem dX3_drawIfStale_26 : decode cX3_drawIfStale 26 = .ok (.iload_n 1, 1) := by decide +kernel
theorem dX3_drawIfStale_27 : decode cX3_drawIfStale 27 = .ok (.invokevirtual 83, 3) := by decide +kernel
theorem dX3_drawIfStale_30 : decode cX3_drawIfStale 30 = .ok (.ifCond .eq 8, 3) := by decide +kernel
theorem dX3_drawIfStale_33 : decode cX3_drawIfStale 33 = .ok (.aload_n 0, 1) := by decide +kernel
theorem dX3_drawIfStale_34 : decode cX3_drawIfStale 34 = .ok (.iload_n 1, 1) := by decide +kernel
theorem dX3_drawIfStale_35 : decode cX3_drawIfStale 35 = .ok (.invokevirtual 110, 3) := by decide +kernel
theorem dX3_drawIfStale_38 : decode cX3_drawIfStale 38 = .ok (.iinc 1 1, 3) := by decide +kernel
theorem dX3_drawIfStale_41 : decode cX3_drawIfStale 41 = .ok (.goto (-24), 3) := by decide +kernel
theorem dX3_drawIfStale_44 : decode cX3_drawIfStale 44 = .ok (.aload_n 0, 1) := by decide +kernel
theorem dX3_drawIfStale_45 : decode cX3_drawIfStale 45 = .ok (.iconst 0, 1) := by decide +kernel
theorem dX3_drawIfStale_46 : decode cX3_drawIfStale 46 = .ok (.putfield 9, 3) := by decide +kernel
theorem dX3_drawIfStale_49 : decode cX3_drawIfStale 49 = .ok (.return_, 1) := by decide +kernel
set_option maxRecDepth 20000 in
theorem ggX3_drawSeen_X3_dotAcross : GoodIn wsX3_drawSeen wsX3_dotAcross := goodIn_r _ [9, 10, 11, 12, 13, 14, 15, 8, 16, 17, 18, 19, 20, 21, 22, 23, 24, 25, 26, 27, 28, 29, 30, 31, 32, 33, 34, 35, 36, 109, 110, 111, 112, 113, 114, 115, 116, 117, 118, 119, 120, 121, 122, 123, 124, 125, 126, 127, 128, 129] (by decide +kernel) (by decide +kernel)
set_option maxRecDepth 20000 in
theorem gX3_drawSeen_X3_dotAcross : GoodIn wsX3_drawSeen (wsV RX3 114 RX3 yX3_dotAcross wsX3_dotAcross) := goodIn_app (goodIn_of _ (by decide +kernel)) ggX3_drawSeen_X3_dotAcross
set_option maxRecDepth 20000 in
theorem ggX3_drawSeen_X3_dotUpwards : GoodIn wsX3_drawSeen wsX3_dotUpwards := goodIn_r _ [40, 10, 41, 3, 13, 14, 15, 8, 16, 17, 18, 19, 20, 21, 22, 23, 24, 25, 26, 27, 28, 29, 30, 31, 32, 33, 34, 35, 36, 109, 110, 111, 112, 113, 114, 115, 116, 117, 118, 119, 120, 121, 122, 123, 124, 125, 126, 127, 128, 129] (by decide +kernel) (by decide +kernel)
set_option maxRecDepth 20000 in
theorem gX3_drawSeen_X3_dotUpwards : GoodIn wsX3_drawSeen (wsV RX3 117 RX3 yX3_dotUpwards wsX3_dotUpwards) := goodIn_app (goodIn_of _ (by decide +kernel)) ggX3_drawSeen_X3_dotUpwards
set_option maxRecDepth 20000 in
theorem ggX3_drawSeen_X3_isSeen : GoodIn wsX3_drawSeen wsX3_isSeen := goodIn_r _ [45, 10, 11, 12, 41, 3, 46, 47, 48, 8, 49, 50, 13, 14, 15, 16, 17, 18, 19, 20, 21, 22, 23, 24, 25, 26, 27, 28, 29, 30, 31, 32, 33, 34, 35, 36, 109, 110, 111, 112, 113, 114, 115, 116, 117, 118, 119, 120, 121, 122, 123, 124, 125, 126, 127, 128, 129] (by decide +kernel) (by decide +kernel)
set_option maxRecDepth 20000 in
theorem gX3_drawSeen_X3_isSeen : GoodIn wsX3_drawSeen (wsV RX3 83 RX3 yX3_isSeen wsX3_isSeen) := goodIn_app (goodIn_of _ (by decide +kernel)) ggX3_drawSeen_X3_isSeen
set_option maxRecDepth 20000 in
theorem ggX3_drawSeen_X4_spot : GoodIn wsX3_drawSeen wsX4_spot := goodIn_r _ [55, 56, 57, 58, 59, 60, 61, 62, 63, 64, 65, 66, 67, 68, 69, 70, 71, 72, 73, 74, 54, 75, 76, 130, 131, 132, 120, 121, 122, 123] (by decide +kernel) (by decide +kernel)
set_option maxRecDepth 20000 in
theorem gX3_drawSeen_X4_spot : GoodIn wsX3_drawSeen (wsV RX3 120 RX4 yX4_spot wsX4_spot) := goodIn_app (goodIn_of _ (by decide +kernel)) ggX3_drawSeen_X4_spot
set_option maxRecDepth 20000 in
theorem ggX3_drawSeen_X4_line : GoodIn wsX3_drawSeen wsX4_line := goodIn_r _ [80, 81, 82, 83, 84, 85, 86, 87, 88, 89, 90, 54, 91, 56, 92, 57, 58, 59, 60, 61, 62, 63, 64, 65, 66, 67, 68, 69, 70, 71, 72, 73, 74, 75, 76, 93, 94, 95, 96, 130, 131, 132, 120, 121, 122, 123] (by decide +kernel) (by decide +kernel)
set_option maxRecDepth 20000 in
theorem gX3_drawSeen_X4_line : GoodIn wsX3_drawSeen (wsV RX3 124 RX4 yX4_line wsX4_line) := goodIn_app (goodIn_of _ (by decide +kernel)) ggX3_drawSeen_X4_line
set_option maxRecDepth 20000 in
theorem ggX3_drawSeen_X4_bar : GoodIn wsX3_drawSeen wsX4_bar := goodIn_r _ [100, 56, 101, 92, 102, 103, 83, 104, 85, 86, 87, 57, 58, 59, 60, 61, 67, 68, 69, 70, 71, 72, 73, 74, 54, 75, 76, 130, 131, 132, 120, 121, 122, 123] (by decide +kernel) (by decide +kernel)
set_option maxRecDepth 20000 in
theorem gX3_drawSeen_X4_bar : GoodIn wsX3_drawSeen (wsV RX3 128 RX4 yX4_bar wsX4_bar) := goodIn_app (goodIn_of _ (by decide +kernel)) ggX3_drawSeen_X4_bar
set_option maxRecDepth 20000 in
theorem ggX3_drawSeen_X3_endOf : GoodIn wsX3_drawSeen wsX3_endOf := goodIn_r _ [108, 10, 41, 18, 19, 20, 21, 22, 23, 24, 25, 26, 27, 28, 29, 30, 31, 32, 33, 34, 35, 36, 109, 110, 111, 112, 113, 114, 115, 116, 117, 118, 119, 120, 121, 122, 123, 124, 125, 126, 127, 128, 129] (by decide +kernel) (by decide +kernel)
set_option maxRecDepth 20000 in
theorem gX3_drawSeen_X3_endOf : GoodIn wsX3_drawSeen (wsV RX3 131 RX3 yX3_endOf wsX3_endOf) := goodIn_app (goodIn_of _ (by decide +kernel)) ggX3_drawSeen_X3_endOf
theorem dX3_drawSeen_0 : decode cX3_drawSeen 0 = .ok (.aload_n 0, 1) := by decide +kernel
theorem dX3_drawSeen_1 : decode cX3_drawSeen 1 = .ok (.iload_n 1, 1) := by decide +kernel
theorem dX3_drawSeen_2 : decode cX3_drawSeen 2 = .ok (.invokevirtual 114, 3) := by decide +kernel
theorem dX3_drawSeen_5 : decode cX3_drawSeen 5 = .ok (.istore_n 2, 1) := by decide +kernel
theorem dX3_drawSeen_6 : decode cX3_drawSeen 6 = .ok (.aload_n 0, 1) := by decide +kernel
theorem dX3_drawSeen_7 : decode cX3_drawSeen 7 = .ok (.iload_n 1, 1) := by decide +kernel
theorem dX3_drawSeen_8 : decode cX3_drawSeen 8 = .ok (.invokevirtual 117, 3) := by decide +kernel
theorem dX3_drawSeen_11 : decode cX3_drawSeen 11 = .ok (.istore_n 3, 1) := by decide +kernel
theorem dX3_drawSeen_12 : decode cX3_drawSeen 12 = .ok (.aload_n 0, 1) := by decide +kernel
theorem dX3_drawSeen_13 : decode cX3_drawSeen 13 = .ok (.iload_n 1, 1) := by decide +kernel
theorem dX3_drawSeen_14 : decode cX3_drawSeen 14 = .ok (.iconst 1, 1) := by decide +kernel
theorem dX3_drawSeen_15 : decode cX3_drawSeen 15 = .ok (.isub, 1) := by decide +kernel
theorem dX3_drawSeen_16 : decode cX3_drawSeen 16 = .ok (.invokevirtual 83, 3) := by decide +kernel
theorem dX3_drawSeen_19 : decode cX3_drawSeen 19 = .ok (.istore 4, 2) := by decide +kernel
theorem dX3_drawSeen_21 : decode cX3_drawSeen 21 = .ok (.iload 4, 2) := by decide +kernel
theorem dX3_drawSeen_23 : decode cX3_drawSeen 23 = .ok (.ifCond .eq 13, 3) := by decide +kernel
theorem dX3_drawSeen_26 : decode cX3_drawSeen 26 = .ok (.aload_n 0, 1) := by decide +kernel
theorem dX3_drawSeen_27 : decode cX3_drawSeen 27 = .ok (.iload_n 1, 1) := by decide +kernel
theorem dX3_drawSeen_28 : decode cX3_drawSeen 28 = .ok (.iconst 1, 1) := by decide +kernel
theorem dX3_drawSeen_29 : decode cX3_drawSeen 29 = .ok (.isub, 1) := by decide +kernel
theorem dX3_drawSeen_30 : decode cX3_drawSeen 30 = .ok (.invokevirtual 114, 3) := by decide +kernel
theorem dX3_drawSeen_33 : decode cX3_drawSeen 33 = .ok (.goto 4, 3) := by decide +kernel
theorem dX3_drawSeen_36 : decode cX3_drawSeen 36 = .ok (.iload_n 2, 1) := by decide +kernel
theorem dX3_drawSeen_37 : decode cX3_drawSeen 37 = .ok (.istore 5, 2) := by decide +kernel
theorem dX3_drawSeen_39 : decode cX3_drawSeen 39 = .ok (.iload 4, 2) := by decide +kernel
theorem dX3_drawSeen_41 : decode cX3_drawSeen 41 = .ok (.ifCond .eq 13, 3) := by decide +kernel
theorem dX3_drawSeen_44 : decode cX3_drawSeen 44 = .ok (.aload_n 0, 1) := by decide +kernel
theorem dX3_drawSeen_45 : decode cX3_drawSeen 45 = .ok (.iload_n 1, 1) := by decide +kernel
theorem dX3_drawSeen_46 : decode cX3_drawSeen 46 = .ok (.iconst 1, 1) := by decide +kernel
theorem dX3_drawSeen_47 : decode cX3_drawSeen 47 = .ok (.isub, 1) := by decide +kernel
theorem dX3_drawSeen_48 : decode cX3_drawSeen 48 = .ok (.invokevirtual 117, 3) := by decide +kernel
theorem dX3_drawSeen_51 : decode cX3_drawSeen 51 = .ok (.goto 4, 3) := by decide +kernel
theorem dX3_drawSeen_54 : decode cX3_drawSeen 54 = .ok (.iload_n 3, 1) := by decide +kernel
theorem dX3_drawSeen_55 : decode cX3_drawSeen 55 = .ok (.istore 6, 2) := by decide +kernel
theorem dX3_drawSeen_57 : decode cX3_drawSeen 57 = .ok (.aload_n 0, 1) := by decide +kernel
theorem dX3_drawSeen_58 : decode cX3_drawSeen 58 = .ok (.getfield 33, 3) := by decide +kernel
theorem dX3_drawSeen_61 : decode cX3_drawSeen 61 = .ok (.tableswitch 105 0 3 #[31, 44, 61, 92], 31) := by decide +kernel
theorem dX3_drawSeen_92 : decode cX3_drawSeen 92 = .ok (.aload_n 0, 1) := by decide +kernel
theorem dX3_drawSeen_93 : decode cX3_drawSeen 93 = .ok (.getfield 48, 3) := by decide +kernel
theorem dX3_drawSeen_96 : decode cX3_drawSeen 96 = .ok (.iload_n 2, 1) := by decide +kernel
theorem dX3_drawSeen_97 : decode cX3_drawSeen 97 = .ok (.iload_n 3, 1) := by decide +kernel
theorem dX3_drawSeen_98 : decode cX3_drawSeen 98 = .ok (.iload_n 1, 1) := by decide +kernel
theorem dX3_drawSeen_99 : decode cX3_drawSeen 99 = .ok (.invokevirtual 120, 3) := by decide +kernel
theorem dX3_drawSeen_102 : decode cX3_drawSeen 102 = .ok (.goto 110, 3) := by decide +kernel
theorem dX3_drawSeen_105 : decode cX3_drawSeen 105 = .ok (.aload_n 0, 1) := by decide +kernel
theorem dX3_drawSeen_106 : decode cX3_drawSeen 106 = .ok (.getfield 48, 3) := by decide +kernel
theorem dX3_drawSeen_109 : decode cX3_drawSeen 109 = .ok (.iload 5, 2) := by decide +kernel
theorem dX3_drawSeen_111 : decode cX3_drawSeen 111 = .ok (.iload 6, 2) := by decide +kernel
theorem dX3_drawSeen_113 : decode cX3_drawSeen 113 = .ok (.iload_n 2, 1) := by decide +kernel
theorem dX3_drawSeen_114 : decode cX3_drawSeen 114 = .ok (.iload_n 3, 1) := by decide +kernel
theorem dX3_drawSeen_115 : decode cX3_drawSeen 115 = .ok (.iload_n 1, 1) := by decide +kernel
theorem dX3_drawSeen_116 : decode cX3_drawSeen 116 = .ok (.invokevirtual 124, 3) := by decide +kernel
theorem dX3_drawSeen_119 : decode cX3_drawSeen 119 = .ok (.goto 93, 3) := by decide +kernel
theorem dX3_drawSeen_122 : decode cX3_drawSeen 122 = .ok (.aload_n 0, 1) := by decide +kernel
theorem dX3_drawSeen_123 : decode cX3_drawSeen 123 = .ok (.getfield 48, 3) := by decide +kernel
theorem dX3_drawSeen_126 : decode cX3_drawSeen 126 = .ok (.iload 5, 2) := by decide +kernel
theorem dX3_drawSeen_128 : decode cX3_drawSeen 128 = .ok (.iload 6, 2) := by decide +kernel
theorem dX3_drawSeen_130 : decode cX3_drawSeen 130 = .ok (.iload_n 2, 1) := by decide +kernel
theorem dX3_drawSeen_131 : decode cX3_drawSeen 131 = .ok (.iload 6, 2) := by decide +kernel
theorem dX3_drawSeen_133 : decode cX3_drawSeen 133 = .ok (.iload_n 1, 1) := by decide +kernel
theorem dX3_drawSeen_134 : decode cX3_drawSeen 134 = .ok (.invokevirtual 124, 3) := by decide +kernel
theorem dX3_drawSeen_137 : decode cX3_drawSeen 137 = .ok (.aload_n 0, 1) := by decide +kernel
theorem dX3_drawSeen_138 : decode cX3_drawSeen 138 = .ok (.getfield 48, 3) := by decide +kernel
theorem dX3_drawSeen_141 : decode cX3_drawSeen 141 = .ok (.iload_n 2, 1) := by decide +kernel
theorem dX3_drawSeen_142 : decode cX3_drawSeen 142 = .ok (.iload 6, 2) := by decide +kernel
theorem dX3_drawSeen_144 : decode cX3_drawSeen 144 = .ok (.iload_n 2, 1) := by decide +kernel
theorem dX3_drawSeen_145 : decode cX3_drawSeen 145 = .ok (.iload_n 3, 1) := by decide +kernel
theorem dX3_drawSeen_146 : decode cX3_drawSeen 146 = .ok (.iload_n 1, 1) := by decide +kernel
theorem dX3_drawSeen_147 : decode cX3_drawSeen 147 = .ok (.invokevirtual 124, 3) := by decide +kernel
theorem dX3_drawSeen_150 : decode cX3_drawSeen 150 = .ok (.goto 62, 3) := by decide +kernel
theorem dX3_drawSeen_153 : decode cX3_drawSeen 153 = .ok (.aload_n 0, 1) := by decide +kernel
theorem dX3_drawSeen_154 : decode cX3_drawSeen 154 = .ok (.getfield 48, 3) := by decide +kernel
theorem dX3_drawSeen_157 : decode cX3_drawSeen 157 = .ok (.iload_n 2, 1) := by decide +kernel
theorem dX3_drawSeen_158 : decode cX3_drawSeen 158 = .ok (.iload_n 3, 1) := by decide +kernel
theorem dX3_drawSeen_159 : decode cX3_drawSeen 159 = .ok (.iload_n 1, 1) := by decide +kernel
theorem dX3_drawSeen_160 : decode cX3_drawSeen 160 = .ok (.invokevirtual 128, 3) := by decide +kernel
theorem dX3_drawSeen_163 : decode cX3_drawSeen 163 = .ok (.goto 49, 3) := by decide +kernel
theorem dX3_drawSeen_166 : decode cX3_drawSeen 166 = .ok (.aload_n 0, 1) := by decide +kernel
theorem dX3_drawSeen_167 : decode cX3_drawSeen 167 = .ok (.getfield 48, 3) := by decide +kernel
theorem dX3_drawSeen_170 : decode cX3_drawSeen 170 = .ok (.iload_n 2, 1) := by decide +kernel
theorem dX3_drawSeen_171 : decode cX3_drawSeen 171 = .ok (.aload_n 0, 1) := by decide +kernel
theorem dX3_drawSeen_172 : decode cX3_drawSeen 172 = .ok (.aload_n 0, 1) := by decide +kernel
theorem dX3_drawSeen_173 : decode cX3_drawSeen 173 = .ok (.getfield 19, 3) := by decide +kernel
theorem dX3_drawSeen_176 : decode cX3_drawSeen 176 = .ok (.iload_n 1, 1) := by decide +kernel
theorem dX3_drawSeen_177 : decode cX3_drawSeen 177 = .ok (.iaload, 1) := by decide +kernel
theorem dX3_drawSeen_178 : decode cX3_drawSeen 178 = .ok (.aload_n 0, 1) := by decide +kernel
theorem dX3_drawSeen_179 : decode cX3_drawSeen 179 = .ok (.getfield 22, 3) := by decide +kernel
theorem dX3_drawSeen_182 : decode cX3_drawSeen 182 = .ok (.iload_n 1, 1) := by decide +kernel
theorem dX3_drawSeen_183 : decode cX3_drawSeen 183 = .ok (.iaload, 1) := by decide +kernel
theorem dX3_drawSeen_184 : decode cX3_drawSeen 184 = .ok (.isub, 1) := by decide +kernel
theorem dX3_drawSeen_185 : decode cX3_drawSeen 185 = .ok (.iload_n 3, 1) := by decide +kernel
theorem dX3_drawSeen_186 : decode cX3_drawSeen 186 = .ok (.invokevirtual 131, 3) := by decide +kernel
theorem dX3_drawSeen_189 : decode cX3_drawSeen 189 = .ok (.iload_n 2, 1) := by decide +kernel
theorem dX3_drawSeen_190 : decode cX3_drawSeen 190 = .ok (.aload_n 0, 1) := by decide +kernel
theorem dX3_drawSeen_191 : decode cX3_drawSeen 191 = .ok (.aload_n 0, 1) := by decide +kernel
theorem dX3_drawSeen_192 : decode cX3_drawSeen 192 = .ok (.getfield 19, 3) := by decide +kernel
theorem dX3_drawSeen_195 : decode cX3_drawSeen 195 = .ok (.iload_n 1, 1) := by decide +kernel
theorem dX3_drawSeen_196 : decode cX3_drawSeen 196 = .ok (.iaload, 1) := by decide +kernel
theorem dX3_drawSeen_197 : decode cX3_drawSeen 197 = .ok (.aload_n 0, 1) := by decide +kernel
theorem dX3_drawSeen_198 : decode cX3_drawSeen 198 = .ok (.getfield 22, 3) := by decide +kernel
theorem dX3_drawSeen_201 : decode cX3_drawSeen 201 = .ok (.iload_n 1, 1) := by decide +kernel
theorem dX3_drawSeen_202 : decode cX3_drawSeen 202 = .ok (.iaload, 1) := by decide +kernel
theorem dX3_drawSeen_203 : decode cX3_drawSeen 203 = .ok (.iadd, 1) := by decide +kernel
theorem dX3_drawSeen_204 : decode cX3_drawSeen 204 = .ok (.iload_n 3, 1) := by decide +kernel
theorem dX3_drawSeen_205 : decode cX3_drawSeen 205 = .ok (.invokevirtual 131, 3) := by decide +kernel
theorem dX3_drawSeen_208 : decode cX3_drawSeen 208 = .ok (.iload_n 1, 1) := by decide +kernel
theorem dX3_drawSeen_209 : decode cX3_drawSeen 209 = .ok (.invokevirtual 124, 3) := by decide +kernel
theorem dX3_drawSeen_212 : decode cX3_drawSeen 212 = .ok (.return_, 1) := by decide +kernel
set_option maxRecDepth 20000 in
theorem ggX3_endOf_X2_placeOf : GoodIn wsX3_endOf wsX2_placeOf := goodIn_r _ [7, 8, 9, 10, 11, 12, 13, 14, 15, 6, 16, 17, 18, 19, 20, 21, 37, 38, 39, 40, 41, 42] (by decide +kernel) (by decide +kernel)
set_option maxRecDepth 20000 in
theorem gX3_endOf_X2_placeOf : GoodIn wsX3_endOf (wsV RX3 74 RX2 yX2_placeOf wsX2_placeOf) := goodIn_app (goodIn_of _ (by decide +kernel)) ggX3_endOf_X2_placeOf
theorem dX3_endOf_0 : decode cX3_endOf 0 = .ok (.aload_n 0, 1) := by decide +kernel
theorem dX3_endOf_1 : decode cX3_endOf 1 = .ok (.getfield 29, 3) := by decide +kernel
theorem dX3_endOf_4 : decode cX3_endOf 4 = .ok (.getfield 80, 3) := by decide +kernel
theorem dX3_endOf_7 : decode cX3_endOf 7 = .ok (.iload_n 1, 1) := by decide +kernel
theorem dX3_endOf_8 : decode cX3_endOf 8 = .ok (.invokevirtual 74, 3) := by decide +kernel
theorem dX3_endOf_11 : decode cX3_endOf 11 = .ok (.istore_n 3, 1) := by decide +kernel
theorem dX3_endOf_12 : decode cX3_endOf 12 = .ok (.iload_n 3, 1) := by decide +kernel
theorem dX3_endOf_13 : decode cX3_endOf 13 = .ok (.bipush (-9), 2) := by decide +kernel
theorem dX3_endOf_15 : decode cX3_endOf 15 = .ok (.if_icmp .ne 7, 3) := by decide +kernel
theorem dX3_endOf_18 : decode cX3_endOf 18 = .ok (.iload_n 2, 1) := by decide +kernel
theorem dX3_endOf_19 : decode cX3_endOf 19 = .ok (.goto 4, 3) := by decide +kernel
theorem dX3_endOf_22 : decode cX3_endOf 22 = .ok (.iload_n 3, 1) := by decide +kernel
theorem dX3_endOf_23 : decode cX3_endOf 23 = .ok (.ireturn, 1) := by decide +kernel
theorem dX4_init_0 : decode cX4_init 0 = .ok (.aload_n 0, 1) := by decide +kernel
theorem dX4_init_1 : decode cX4_init 1 = .ok (.invokespecial 3, 3) := by decide +kernel
theorem dX4_init_4 : decode cX4_init 4 = .ok (.aload_n 0, 1) := by decide +kernel
theorem dX4_init_5 : decode cX4_init 5 = .ok (.sipush 640, 3) := by decide +kernel
theorem dX4_init_8 : decode cX4_init 8 = .ok (.newarray .int, 2) := by decide +kernel
theorem dX4_init_10 : decode cX4_init 10 = .ok (.putfield 9, 3) := by decide +kernel
theorem dX4_init_13 : decode cX4_init 13 = .ok (.aload_n 0, 1) := by decide +kernel
theorem dX4_init_14 : decode cX4_init 14 = .ok (.sipush 640, 3) := by decide +kernel
theorem dX4_init_17 : decode cX4_init 17 = .ok (.newarray .int, 2) := by decide +kernel
theorem dX4_init_19 : decode cX4_init 19 = .ok (.putfield 15, 3) := by decide +kernel
theorem dX4_init_22 : decode cX4_init 22 = .ok (.aload_n 0, 1) := by decide +kernel
theorem dX4_init_23 : decode cX4_init 23 = .ok (.aload_n 1, 1) := by decide +kernel
theorem dX4_init_24 : decode cX4_init 24 = .ok (.putfield 18, 3) := by decide +kernel
theorem dX4_init_27 : decode cX4_init 27 = .ok (.return_, 1) := by decide +kernel
set_option maxRecDepth 20000 in
theorem ggX4_wipe_J7_fill_53178 : GoodIn wsX4_wipe wsJ7_fill_53178 := goodIn_r _ [6] (by decide +kernel) (by decide +kernel)
set_option maxRecDepth 20000 in
theorem gX4_wipe_J7_fill_53178 : GoodIn wsX4_wipe (va_wsS RX4 22 yJ7_fill_53178 wsJ7_fill_53178) := goodIn_app (goodIn_of _ (by decide +kernel)) ggX4_wipe_J7_fill_53178
theorem dX4_wipe_0 : decode cX4_wipe 0 = .ok (.aload_n 0, 1) := by decide +kernel
theorem dX4_wipe_1 : decode cX4_wipe 1 = .ok (.getfield 9, 3) := by decide +kernel
theorem dX4_wipe_4 : decode cX4_wipe 4 = .ok (.iconst 0, 1) := by decide +kernel
theorem dX4_wipe_5 : decode cX4_wipe 5 = .ok (.invokestatic 22, 3) := by decide +kernel
theorem dX4_wipe_8 : decode cX4_wipe 8 = .ok (.aload_n 0, 1) := by decide +kernel
theorem dX4_wipe_9 : decode cX4_wipe 9 = .ok (.getfield 15, 3) := by decide +kernel
theorem dX4_wipe_12 : decode cX4_wipe 12 = .ok (.iconst 0, 1) := by decide +kernel
theorem dX4_wipe_13 : decode cX4_wipe 13 = .ok (.invokestatic 22, 3) := by decide +kernel
theorem dX4_wipe_16 : decode cX4_wipe 16 = .ok (.return_, 1) := by decide +kernel
theorem dX4_inkIn_0 : decode cX4_inkIn 0 = .ok (.iload_n 1, 1) := by decide +kernel
theorem dX4_inkIn_1 : decode cX4_inkIn 1 = .ok (.ifCond .lt 21, 3) := by decide +kernel
theorem dX4_inkIn_4 : decode cX4_inkIn 4 = .ok (.iload_n 1, 1) := by decide +kernel
theorem dX4_inkIn_5 : decode cX4_inkIn 5 = .ok (.aload_n 0, 1) := by decide +kernel
theorem dX4_inkIn_6 : decode cX4_inkIn 6 = .ok (.getfield 9, 3) := by decide +kernel
theorem dX4_inkIn_9 : decode cX4_inkIn 9 = .ok (.arraylength, 1) := by decide +kernel
theorem dX4_inkIn_10 : decode cX4_inkIn 10 = .ok (.if_icmp .ge 12, 3) := by decide +kernel
theorem dX4_inkIn_13 : decode cX4_inkIn 13 = .ok (.aload_n 0, 1) := by decide +kernel
theorem dX4_inkIn_14 : decode cX4_inkIn 14 = .ok (.getfield 9, 3) := by decide +kernel
theorem dX4_inkIn_17 : decode cX4_inkIn 17 = .ok (.iload_n 1, 1) := by decide +kernel
theorem dX4_inkIn_18 : decode cX4_inkIn 18 = .ok (.iaload, 1) := by decide +kernel
theorem dX4_inkIn_19 : decode cX4_inkIn 19 = .ok (.goto 4, 3) := by decide +kernel
theorem dX4_inkIn_22 : decode cX4_inkIn 22 = .ok (.iconst 0, 1) := by decide +kernel
theorem dX4_inkIn_23 : decode cX4_inkIn 23 = .ok (.ireturn, 1) := by decide +kernel
theorem dX4_hitsIn_0 : decode cX4_hitsIn 0 = .ok (.iload_n 1, 1) := by decide +kernel
theorem dX4_hitsIn_1 : decode cX4_hitsIn 1 = .ok (.ifCond .lt 21, 3) := by decide +kernel
theorem dX4_hitsIn_4 : decode cX4_hitsIn 4 = .ok (.iload_n 1, 1) := by decide +kernel
theorem dX4_hitsIn_5 : decode cX4_hitsIn 5 = .ok (.aload_n 0, 1) := by decide +kernel
theorem dX4_hitsIn_6 : decode cX4_hitsIn 6 = .ok (.getfield 15, 3) := by decide +kernel
theorem dX4_hitsIn_9 : decode cX4_hitsIn 9 = .ok (.arraylength, 1) := by decide +kernel
theorem dX4_hitsIn_10 : decode cX4_hitsIn 10 = .ok (.if_icmp .ge 12, 3) := by decide +kernel
theorem dX4_hitsIn_13 : decode cX4_hitsIn 13 = .ok (.aload_n 0, 1) := by decide +kernel
theorem dX4_hitsIn_14 : decode cX4_hitsIn 14 = .ok (.getfield 15, 3) := by decide +kernel
theorem dX4_hitsIn_17 : decode cX4_hitsIn 17 = .ok (.iload_n 1, 1) := by decide +kernel
theorem dX4_hitsIn_18 : decode cX4_hitsIn 18 = .ok (.iaload, 1) := by decide +kernel
theorem dX4_hitsIn_19 : decode cX4_hitsIn 19 = .ok (.goto 4, 3) := by decide +kernel
theorem dX4_hitsIn_22 : decode cX4_hitsIn 22 = .ok (.iconst 0, 1) := by decide +kernel
theorem dX4_hitsIn_23 : decode cX4_hitsIn 23 = .ok (.ireturn, 1) := by decide +kernel
theorem dX4_cellsHit_0 : decode cX4_cellsHit 0 = .ok (.iconst 0, 1) := by decide +kernel
theorem dX4_cellsHit_1 : decode cX4_cellsHit 1 = .ok (.istore_n 1, 1) := by decide +kernel
theorem dX4_cellsHit_2 : decode cX4_cellsHit 2 = .ok (.aload_n 0, 1) := by decide +kernel
theorem dX4_cellsHit_3 : decode cX4_cellsHit 3 = .ok (.getfield 15, 3) := by decide +kernel
theorem dX4_cellsHit_6 : decode cX4_cellsHit 6 = .ok (.astore_n 2, 1) := by decide +kernel
theorem dX4_cellsHit_7 : decode cX4_cellsHit 7 = .ok (.aload_n 2, 1) := by decide +kernel
theorem dX4_cellsHit_8 : decode cX4_cellsHit 8 = .ok (.arraylength, 1) := by decide +kernel
theorem dX4_cellsHit_9 : decode cX4_cellsHit 9 = .ok (.istore_n 3, 1) := by decide +kernel
theorem dX4_cellsHit_10 : decode cX4_cellsHit 10 = .ok (.iconst 0, 1) := by decide +kernel
theorem dX4_cellsHit_11 : decode cX4_cellsHit 11 = .ok (.istore 4, 2) := by decide +kernel
theorem dX4_cellsHit_13 : decode cX4_cellsHit 13 = .ok (.iload 4, 2) := by decide +kernel
theorem dX4_cellsHit_15 : decode cX4_cellsHit 15 = .ok (.iload_n 3, 1) := by decide +kernel
theorem dX4_cellsHit_16 : decode cX4_cellsHit 16 = .ok (.if_icmp .ge 23, 3) := by decide +kernel
theorem dX4_cellsHit_19 : decode cX4_cellsHit 19 = .ok (.aload_n 2, 1) := by decide +kernel
theorem dX4_cellsHit_20 : decode cX4_cellsHit 20 = .ok (.iload 4, 2) := by decide +kernel
theorem dX4_cellsHit_22 : decode cX4_cellsHit 22 = .ok (.iaload, 1) := by decide +kernel
theorem dX4_cellsHit_23 : decode cX4_cellsHit 23 = .ok (.istore 5, 2) := by decide +kernel
theorem dX4_cellsHit_25 : decode cX4_cellsHit 25 = .ok (.iload 5, 2) := by decide +kernel
theorem dX4_cellsHit_27 : decode cX4_cellsHit 27 = .ok (.ifCond .eq 6, 3) := by decide +kernel
theorem dX4_cellsHit_30 : decode cX4_cellsHit 30 = .ok (.iinc 1 1, 3) := by decide +kernel
theorem dX4_cellsHit_33 : decode cX4_cellsHit 33 = .ok (.iinc 4 1, 3) := by decide +kernel
theorem dX4_cellsHit_36 : decode cX4_cellsHit 36 = .ok (.goto (-23), 3) := by decide +kernel
theorem dX4_cellsHit_39 : decode cX4_cellsHit 39 = .ok (.iload_n 1, 1) := by decide +kernel
theorem dX4_cellsHit_40 : decode cX4_cellsHit 40 = .ok (.ireturn, 1) := by decide +kernel
set_option maxRecDepth 20000 in
theorem ggX4_spot_X1_columnOf : GoodIn wsX4_spot wsX1_columnOf := goodIn_r _ [6] (by decide +kernel) (by decide +kernel)
set_option maxRecDepth 20000 in
theorem gX4_spot_X1_columnOf : GoodIn wsX4_spot (wsV RX4 28 RX1 yX1_columnOf wsX1_columnOf) := goodIn_app (goodIn_of _ (by decide +kernel)) ggX4_spot_X1_columnOf
set_option maxRecDepth 20000 in
theorem ggX4_spot_X1_rowOf : GoodIn wsX4_spot wsX1_rowOf := goodIn_r _ [10, 11, 26, 27, 28, 29] (by decide +kernel) (by decide +kernel)
set_option maxRecDepth 20000 in
theorem gX4_spot_X1_rowOf : GoodIn wsX4_spot (wsV RX4 34 RX1 yX1_rowOf wsX1_rowOf) := goodIn_app (goodIn_of _ (by decide +kernel)) ggX4_spot_X1_rowOf
set_option maxRecDepth 20000 in
theorem ggX4_spot_X1_cellAt : GoodIn wsX4_spot wsX1_cellAt := goodIn_r _ [15, 16, 26, 27, 28, 29] (by decide +kernel) (by decide +kernel)
set_option maxRecDepth 20000 in
theorem gX4_spot_X1_cellAt : GoodIn wsX4_spot (wsV RX4 37 RX1 yX1_cellAt wsX1_cellAt) := goodIn_app (goodIn_of _ (by decide +kernel)) ggX4_spot_X1_cellAt
set_option maxRecDepth 20000 in
theorem ggX4_spot_X4_touch : GoodIn wsX4_spot wsX4_touch := goodIn_r _ [21, 22, 23, 24, 25] (by decide +kernel) (by decide +kernel)
set_option maxRecDepth 20000 in
theorem gX4_spot_X4_touch : GoodIn wsX4_spot (wsV RX4 41 RX4 yX4_touch wsX4_touch) := goodIn_app (goodIn_of _ (by decide +kernel)) ggX4_spot_X4_touch
theorem dX4_spot_0 : decode cX4_spot 0 = .ok (.aload_n 0, 1) := by decide +kernel
theorem dX4_spot_1 : decode cX4_spot 1 = .ok (.aload_n 0, 1) := by decide +kernel
theorem dX4_spot_2 : decode cX4_spot 2 = .ok (.getfield 18, 3) := by decide +kernel
theorem dX4_spot_5 : decode cX4_spot 5 = .ok (.aload_n 0, 1) := by decide +kernel
theorem dX4_spot_6 : decode cX4_spot 6 = .ok (.getfield 18, 3) := by decide +kernel
theorem dX4_spot_9 : decode cX4_spot 9 = .ok (.iload_n 1, 1) := by decide +kernel
theorem dX4_spot_10 : decode cX4_spot 10 = .ok (.invokevirtual 28, 3) := by decide +kernel
theorem dX4_spot_13 : decode cX4_spot 13 = .ok (.aload_n 0, 1) := by decide +kernel
theorem dX4_spot_14 : decode cX4_spot 14 = .ok (.getfield 18, 3) := by decide +kernel
theorem dX4_spot_17 : decode cX4_spot 17 = .ok (.iload_n 2, 1) := by decide +kernel
theorem dX4_spot_18 : decode cX4_spot 18 = .ok (.invokevirtual 34, 3) := by decide +kernel
theorem dX4_spot_21 : decode cX4_spot 21 = .ok (.invokevirtual 37, 3) := by decide +kernel
theorem dX4_spot_24 : decode cX4_spot 24 = .ok (.iload_n 3, 1) := by decide +kernel
theorem dX4_spot_25 : decode cX4_spot 25 = .ok (.invokevirtual 41, 3) := by decide +kernel
theorem dX4_spot_28 : decode cX4_spot 28 = .ok (.pop, 1) := by decide +kernel
theorem dX4_spot_29 : decode cX4_spot 29 = .ok (.return_, 1) := by decide +kernel
set_option maxRecDepth 20000 in
theorem ggX4_line_X4_dot : GoodIn wsX4_line wsX4_dot := goodIn_r _ [12, 13, 14, 15, 16, 17, 18, 19, 20, 21, 22, 23, 24, 25, 26, 27, 28, 29, 30, 31, 32, 11, 33, 34, 39, 40, 41, 42, 43, 44, 45] (by decide +kernel) (by decide +kernel)
set_option maxRecDepth 20000 in
theorem gX4_line_X4_dot : GoodIn wsX4_line (wsV RX4 53 RX4 yX4_dot wsX4_dot) := goodIn_app (goodIn_of _ (by decide +kernel)) ggX4_line_X4_dot
set_option maxRecDepth 20000 in
theorem ggX4_line_J9_floorDiv_7cf53 : GoodIn wsX4_line wsJ9_floorDiv_7cf53 := goodIn_r _ [38] (by decide +kernel) (by decide +kernel)
set_option maxRecDepth 20000 in
theorem gX4_line_J9_floorDiv_7cf53 : GoodIn wsX4_line (va_wsS RX4 57 yJ9_floorDiv_7cf53 wsJ9_floorDiv_7cf53) := goodIn_app (goodIn_of _ (by decide +kernel)) ggX4_line_J9_floorDiv_7cf53
theorem dX4_line_0 : decode cX4_line 0 = .ok (.iload_n 3, 1) := by decide +kernel
theorem dX4_line_1 : decode cX4_line 1 = .ok (.iload_n 1, 1) := by decide +kernel
theorem dX4_line_2 : decode cX4_line 2 = .ok (.isub, 1) := by decide +kernel
theorem dX4_line_3 : decode cX4_line 3 = .ok (.invokestatic 45, 3) := by decide +kernel
theorem dX4_line_6 : decode cX4_line 6 = .ok (.iload 4, 2) := by decide +kernel
theorem dX4_line_8 : decode cX4_line 8 = .ok (.iload_n 2, 1) := by decide +kernel
theorem dX4_line_9 : decode cX4_line 9 = .ok (.isub, 1) := by decide +kernel
theorem dX4_line_10 : decode cX4_line 10 = .ok (.invokestatic 45, 3) := by decide +kernel
theorem dX4_line_13 : decode cX4_line 13 = .ok (.invokestatic 50, 3) := by decide +kernel
theorem dX4_line_16 : decode cX4_line 16 = .ok (.istore 6, 2) := by decide +kernel
theorem dX4_line_18 : decode cX4_line 18 = .ok (.iload 6, 2) := by decide +kernel
theorem dX4_line_20 : decode cX4_line 20 = .ok (.ifCond .ne 13, 3) := by decide +kernel
theorem dX4_line_23 : decode cX4_line 23 = .ok (.aload_n 0, 1) := by decide +kernel
theorem dX4_line_24 : decode cX4_line 24 = .ok (.iload_n 3, 1) := by decide +kernel
theorem dX4_line_25 : decode cX4_line 25 = .ok (.iload 4, 2) := by decide +kernel
theorem dX4_line_27 : decode cX4_line 27 = .ok (.iload 5, 2) := by decide +kernel
theorem dX4_line_29 : decode cX4_line 29 = .ok (.invokevirtual 53, 3) := by decide +kernel
theorem dX4_line_32 : decode cX4_line 32 = .ok (.return_, 1) := by decide +kernel
theorem dX4_line_33 : decode cX4_line 33 = .ok (.iconst 0, 1) := by decide +kernel
theorem dX4_line_34 : decode cX4_line 34 = .ok (.istore 7, 2) := by decide +kernel
theorem dX4_line_36 : decode cX4_line 36 = .ok (.iload 7, 2) := by decide +kernel
theorem dX4_line_38 : decode cX4_line 38 = .ok (.iload 6, 2) := by decide +kernel
theorem dX4_line_40 : decode cX4_line 40 = .ok (.if_icmp .gt 64, 3) := by decide +kernel
theorem dX4_line_43 : decode cX4_line 43 = .ok (.iload_n 1, 1) := by decide +kernel
theorem dX4_line_44 : decode cX4_line 44 = .ok (.iconst 2, 1) := by decide +kernel
theorem dX4_line_45 : decode cX4_line 45 = .ok (.iload 7, 2) := by decide +kernel
theorem dX4_line_47 : decode cX4_line 47 = .ok (.imul, 1) := by decide +kernel
theorem dX4_line_48 : decode cX4_line 48 = .ok (.iload_n 3, 1) := by decide +kernel
theorem dX4_line_49 : decode cX4_line 49 = .ok (.iload_n 1, 1) := by decide +kernel
theorem dX4_line_50 : decode cX4_line 50 = .ok (.isub, 1) := by decide +kernel
theorem dX4_line_51 : decode cX4_line 51 = .ok (.imul, 1) := by decide +kernel
theorem dX4_line_52 : decode cX4_line 52 = .ok (.iload 6, 2) := by decide +kernel
theorem dX4_line_54 : decode cX4_line 54 = .ok (.iadd, 1) := by decide +kernel
theorem dX4_line_55 : decode cX4_line 55 = .ok (.iconst 2, 1) := by decide +kernel
theorem dX4_line_56 : decode cX4_line 56 = .ok (.iload 6, 2) := by decide +kernel
theorem dX4_line_58 : decode cX4_line 58 = .ok (.imul, 1) := by decide +kernel
theorem dX4_line_59 : decode cX4_line 59 = .ok (.invokestatic 57, 3) := by decide +kernel
theorem dX4_line_62 : decode cX4_line 62 = .ok (.iadd, 1) := by decide +kernel
theorem dX4_line_63 : decode cX4_line 63 = .ok (.istore 8, 2) := by decide +kernel
theorem dX4_line_65 : decode cX4_line 65 = .ok (.iload_n 2, 1) := by decide +kernel
theorem dX4_line_66 : decode cX4_line 66 = .ok (.iconst 2, 1) := by decide +kernel
theorem dX4_line_67 : decode cX4_line 67 = .ok (.iload 7, 2) := by decide +kernel
theorem dX4_line_69 : decode cX4_line 69 = .ok (.imul, 1) := by decide +kernel
theorem dX4_line_70 : decode cX4_line 70 = .ok (.iload 4, 2) := by decide +kernel
theorem dX4_line_72 : decode cX4_line 72 = .ok (.iload_n 2, 1) := by decide +kernel
theorem dX4_line_73 : decode cX4_line 73 = .ok (.isub, 1) := by decide +kernel
theorem dX4_line_74 : decode cX4_line 74 = .ok (.imul, 1) := by decide +kernel
theorem dX4_line_75 : decode cX4_line 75 = .ok (.iload 6, 2) := by decide +kernel
theorem dX4_line_77 : decode cX4_line 77 = .ok (.iadd, 1) := by decide +kernel
theorem dX4_line_78 : decode cX4_line 78 = .ok (.iconst 2, 1) := by decide +kernel
theorem dX4_line_79 : decode cX4_line 79 = .ok (.iload 6, 2) := by decide +kernel
theorem dX4_line_81 : decode cX4_line 81 = .ok (.imul, 1) := by decide +kernel
theorem dX4_line_82 : decode cX4_line 82 = .ok (.invokestatic 57, 3) := by decide +kernel
theorem dX4_line_85 : decode cX4_line 85 = .ok (.iadd, 1) := by decide +kernel
theorem dX4_line_86 : decode cX4_line 86 = .ok (.istore 9, 2) := by decide +kernel
theorem dX4_line_88 : decode cX4_line 88 = .ok (.aload_n 0, 1) := by decide +kernel
theorem dX4_line_89 : decode cX4_line 89 = .ok (.iload 8, 2) := by decide +kernel
theorem dX4_line_91 : decode cX4_line 91 = .ok (.iload 9, 2) := by decide +kernel
theorem dX4_line_93 : decode cX4_line 93 = .ok (.iload 5, 2) := by decide +kernel
theorem dX4_line_95 : decode cX4_line 95 = .ok (.invokevirtual 53, 3) := by decide +kernel
theorem dX4_line_98 : decode cX4_line 98 = .ok (.iinc 7 1, 3) := by decide +kernel
theorem dX4_line_101 : decode cX4_line 101 = .ok (.goto (-65), 3) := by decide +kernel
theorem dX4_line_104 : decode cX4_line 104 = .ok (.return_, 1) := by decide +kernel
set_option maxRecDepth 20000 in
theorem ggX4_bar_X1_columnOf : GoodIn wsX4_bar wsX1_columnOf := goodIn_r _ [15] (by decide +kernel) (by decide +kernel)
set_option maxRecDepth 20000 in
theorem gX4_bar_X1_columnOf : GoodIn wsX4_bar (wsV RX4 28 RX1 yX1_columnOf wsX1_columnOf) := goodIn_app (goodIn_of _ (by decide +kernel)) ggX4_bar_X1_columnOf
set_option maxRecDepth 20000 in
theorem ggX4_bar_X1_cellAt : GoodIn wsX4_bar wsX1_cellAt := goodIn_r _ [19, 20, 30, 31, 32, 33] (by decide +kernel) (by decide +kernel)
set_option maxRecDepth 20000 in
theorem gX4_bar_X1_cellAt : GoodIn wsX4_bar (wsV RX4 37 RX1 yX1_cellAt wsX1_cellAt) := goodIn_app (goodIn_of _ (by decide +kernel)) ggX4_bar_X1_cellAt
set_option maxRecDepth 20000 in
theorem ggX4_bar_X4_touch : GoodIn wsX4_bar wsX4_touch := goodIn_r _ [25, 26, 27, 28, 29] (by decide +kernel) (by decide +kernel)
set_option maxRecDepth 20000 in
theorem gX4_bar_X4_touch : GoodIn wsX4_bar (wsV RX4 41 RX4 yX4_touch wsX4_touch) := goodIn_app (goodIn_of _ (by decide +kernel)) ggX4_bar_X4_touch
theorem dX4_bar_0 : decode cX4_bar 0 = .ok (.aload_n 0, 1) := by decide +kernel
theorem dX4_bar_1 : decode cX4_bar 1 = .ok (.getfield 18, 3) := by decide +kernel
theorem dX4_bar_4 : decode cX4_bar 4 = .ok (.iload_n 1, 1) := by decide +kernel
theorem dX4_bar_5 : decode cX4_bar 5 = .ok (.invokevirtual 28, 3) := by decide +kernel
theorem dX4_bar_8 : decode cX4_bar 8 = .ok (.istore 4, 2) := by decide +kernel
theorem dX4_bar_10 : decode cX4_bar 10 = .ok (.iconst 2, 1) := by decide +kernel
theorem dX4_bar_11 : decode cX4_bar 11 = .ok (.iload_n 2, 1) := by decide +kernel
theorem dX4_bar_12 : decode cX4_bar 12 = .ok (.iconst 1, 1) := by decide +kernel
theorem dX4_bar_13 : decode cX4_bar 13 = .ok (.iadd, 1) := by decide +kernel
theorem dX4_bar_14 : decode cX4_bar 14 = .ok (.imul, 1) := by decide +kernel
theorem dX4_bar_15 : decode cX4_bar 15 = .ok (.istore 5, 2) := by decide +kernel
theorem dX4_bar_17 : decode cX4_bar 17 = .ok (.aload_n 0, 1) := by decide +kernel
theorem dX4_bar_18 : decode cX4_bar 18 = .ok (.getfield 18, 3) := by decide +kernel
theorem dX4_bar_21 : decode cX4_bar 21 = .ok (.getfield 60, 3) := by decide +kernel
theorem dX4_bar_24 : decode cX4_bar 24 = .ok (.iconst 1, 1) := by decide +kernel
theorem dX4_bar_25 : decode cX4_bar 25 = .ok (.isub, 1) := by decide +kernel
theorem dX4_bar_26 : decode cX4_bar 26 = .ok (.istore 6, 2) := by decide +kernel
theorem dX4_bar_28 : decode cX4_bar 28 = .ok (.iload 6, 2) := by decide +kernel
theorem dX4_bar_30 : decode cX4_bar 30 = .ok (.ifCond .lt 64, 3) := by decide +kernel
theorem dX4_bar_33 : decode cX4_bar 33 = .ok (.iload 5, 2) := by decide +kernel
theorem dX4_bar_35 : decode cX4_bar 35 = .ok (.ifCond .le 59, 3) := by decide +kernel
theorem dX4_bar_38 : decode cX4_bar 38 = .ok (.aload_n 0, 1) := by decide +kernel
theorem dX4_bar_39 : decode cX4_bar 39 = .ok (.getfield 18, 3) := by decide +kernel
theorem dX4_bar_42 : decode cX4_bar 42 = .ok (.iload 4, 2) := by decide +kernel
theorem dX4_bar_44 : decode cX4_bar 44 = .ok (.iload 6, 2) := by decide +kernel
theorem dX4_bar_46 : decode cX4_bar 46 = .ok (.invokevirtual 37, 3) := by decide +kernel
theorem dX4_bar_49 : decode cX4_bar 49 = .ok (.istore 7, 2) := by decide +kernel
theorem dX4_bar_51 : decode cX4_bar 51 = .ok (.aload_n 0, 1) := by decide +kernel
theorem dX4_bar_52 : decode cX4_bar 52 = .ok (.iload 7, 2) := by decide +kernel
theorem dX4_bar_54 : decode cX4_bar 54 = .ok (.iload_n 3, 1) := by decide +kernel
theorem dX4_bar_55 : decode cX4_bar 55 = .ok (.invokevirtual 41, 3) := by decide +kernel
theorem dX4_bar_58 : decode cX4_bar 58 = .ok (.ifCond .eq 27, 3) := by decide +kernel
theorem dX4_bar_61 : decode cX4_bar 61 = .ok (.aload_n 0, 1) := by decide +kernel
theorem dX4_bar_62 : decode cX4_bar 62 = .ok (.getfield 9, 3) := by decide +kernel
theorem dX4_bar_65 : decode cX4_bar 65 = .ok (.iload 7, 2) := by decide +kernel
theorem dX4_bar_67 : decode cX4_bar 67 = .ok (.aload_n 0, 1) := by decide +kernel
theorem dX4_bar_68 : decode cX4_bar 68 = .ok (.getfield 9, 3) := by decide +kernel
theorem dX4_bar_71 : decode cX4_bar 71 = .ok (.iload 7, 2) := by decide +kernel
theorem dX4_bar_73 : decode cX4_bar 73 = .ok (.iaload, 1) := by decide +kernel
theorem dX4_bar_74 : decode cX4_bar 74 = .ok (.iload 5, 2) := by decide +kernel
theorem dX4_bar_76 : decode cX4_bar 76 = .ok (.bipush 8, 2) := by decide +kernel
theorem dX4_bar_78 : decode cX4_bar 78 = .ok (.invokestatic 64, 3) := by decide +kernel
theorem dX4_bar_81 : decode cX4_bar 81 = .ok (.invokestatic 50, 3) := by decide +kernel
theorem dX4_bar_84 : decode cX4_bar 84 = .ok (.iastore, 1) := by decide +kernel
theorem dX4_bar_85 : decode cX4_bar 85 = .ok (.iinc 5 (-8), 3) := by decide +kernel
theorem dX4_bar_88 : decode cX4_bar 88 = .ok (.iinc 6 (-1), 3) := by decide +kernel
theorem dX4_bar_91 : decode cX4_bar 91 = .ok (.goto (-63), 3) := by decide +kernel
theorem dX4_bar_94 : decode cX4_bar 94 = .ok (.return_, 1) := by decide +kernel
set_option maxRecDepth 20000 in
theorem ggX4_dot_X1_columnOf : GoodIn wsX4_dot wsX1_columnOf := goodIn_r _ [7] (by decide +kernel) (by decide +kernel)
set_option maxRecDepth 20000 in
theorem gX4_dot_X1_columnOf : GoodIn wsX4_dot (wsV RX4 28 RX1 yX1_columnOf wsX1_columnOf) := goodIn_app (goodIn_of _ (by decide +kernel)) ggX4_dot_X1_columnOf
set_option maxRecDepth 20000 in
theorem ggX4_dot_X1_rowOf : GoodIn wsX4_dot wsX1_rowOf := goodIn_r _ [11, 12, 27, 28, 29, 30] (by decide +kernel) (by decide +kernel)
set_option maxRecDepth 20000 in
theorem gX4_dot_X1_rowOf : GoodIn wsX4_dot (wsV RX4 34 RX1 yX1_rowOf wsX1_rowOf) := goodIn_app (goodIn_of _ (by decide +kernel)) ggX4_dot_X1_rowOf
set_option maxRecDepth 20000 in
theorem ggX4_dot_X1_cellAt : GoodIn wsX4_dot wsX1_cellAt := goodIn_r _ [16, 17, 27, 28, 29, 30] (by decide +kernel) (by decide +kernel)
set_option maxRecDepth 20000 in
theorem gX4_dot_X1_cellAt : GoodIn wsX4_dot (wsV RX4 37 RX1 yX1_cellAt wsX1_cellAt) := goodIn_app (goodIn_of _ (by decide +kernel)) ggX4_dot_X1_cellAt
set_option maxRecDepth 20000 in
theorem ggX4_dot_X4_touch : GoodIn wsX4_dot wsX4_touch := goodIn_r _ [22, 23, 24, 25, 26] (by decide +kernel) (by decide +kernel)
set_option maxRecDepth 20000 in
theorem gX4_dot_X4_touch : GoodIn wsX4_dot (wsV RX4 41 RX4 yX4_touch wsX4_touch) := goodIn_app (goodIn_of _ (by decide +kernel)) ggX4_dot_X4_touch
theorem dX4_dot_0 : decode cX4_dot 0 = .ok (.aload_n 0, 1) := by decide +kernel
theorem dX4_dot_1 : decode cX4_dot 1 = .ok (.getfield 18, 3) := by decide +kernel
theorem dX4_dot_4 : decode cX4_dot 4 = .ok (.aload_n 0, 1) := by decide +kernel
theorem dX4_dot_5 : decode cX4_dot 5 = .ok (.getfield 18, 3) := by decide +kernel
theorem dX4_dot_8 : decode cX4_dot 8 = .ok (.iload_n 1, 1) := by decide +kernel
theorem dX4_dot_9 : decode cX4_dot 9 = .ok (.invokevirtual 28, 3) := by decide +kernel
theorem dX4_dot_12 : decode cX4_dot 12 = .ok (.aload_n 0, 1) := by decide +kernel
theorem dX4_dot_13 : decode cX4_dot 13 = .ok (.getfield 18, 3) := by decide +kernel
theorem dX4_dot_16 : decode cX4_dot 16 = .ok (.iload_n 2, 1) := by decide +kernel
theorem dX4_dot_17 : decode cX4_dot 17 = .ok (.invokevirtual 34, 3) := by decide +kernel
theorem dX4_dot_20 : decode cX4_dot 20 = .ok (.invokevirtual 37, 3) := by decide +kernel
theorem dX4_dot_23 : decode cX4_dot 23 = .ok (.istore 4, 2) := by decide +kernel
theorem dX4_dot_25 : decode cX4_dot 25 = .ok (.aload_n 0, 1) := by decide +kernel
theorem dX4_dot_26 : decode cX4_dot 26 = .ok (.iload 4, 2) := by decide +kernel
theorem dX4_dot_28 : decode cX4_dot 28 = .ok (.iload_n 3, 1) := by decide +kernel
theorem dX4_dot_29 : decode cX4_dot 29 = .ok (.invokevirtual 41, 3) := by decide +kernel
theorem dX4_dot_32 : decode cX4_dot 32 = .ok (.ifCond .eq 28, 3) := by decide +kernel
theorem dX4_dot_35 : decode cX4_dot 35 = .ok (.aload_n 0, 1) := by decide +kernel
theorem dX4_dot_36 : decode cX4_dot 36 = .ok (.getfield 9, 3) := by decide +kernel
theorem dX4_dot_39 : decode cX4_dot 39 = .ok (.iload 4, 2) := by decide +kernel
theorem dX4_dot_41 : decode cX4_dot 41 = .ok (.dup2, 1) := by decide +kernel
theorem dX4_dot_42 : decode cX4_dot 42 = .ok (.iaload, 1) := by decide +kernel
theorem dX4_dot_43 : decode cX4_dot 43 = .ok (.getstatic 67, 3) := by decide +kernel
theorem dX4_dot_46 : decode cX4_dot 46 = .ok (.iconst 4, 1) := by decide +kernel
theorem dX4_dot_47 : decode cX4_dot 47 = .ok (.iload_n 1, 1) := by decide +kernel
theorem dX4_dot_48 : decode cX4_dot 48 = .ok (.iconst 1, 1) := by decide +kernel
theorem dX4_dot_49 : decode cX4_dot 49 = .ok (.iand, 1) := by decide +kernel
theorem dX4_dot_50 : decode cX4_dot 50 = .ok (.imul, 1) := by decide +kernel
theorem dX4_dot_51 : decode cX4_dot 51 = .ok (.iconst 3, 1) := by decide +kernel
theorem dX4_dot_52 : decode cX4_dot 52 = .ok (.iadd, 1) := by decide +kernel
theorem dX4_dot_53 : decode cX4_dot 53 = .ok (.iload_n 2, 1) := by decide +kernel
theorem dX4_dot_54 : decode cX4_dot 54 = .ok (.iconst 3, 1) := by decide +kernel
theorem dX4_dot_55 : decode cX4_dot 55 = .ok (.iand, 1) := by decide +kernel
theorem dX4_dot_56 : decode cX4_dot 56 = .ok (.isub, 1) := by decide +kernel
theorem dX4_dot_57 : decode cX4_dot 57 = .ok (.iaload, 1) := by decide +kernel
theorem dX4_dot_58 : decode cX4_dot 58 = .ok (.ior, 1) := by decide +kernel
theorem dX4_dot_59 : decode cX4_dot 59 = .ok (.iastore, 1) := by decide +kernel
theorem dX4_dot_60 : decode cX4_dot 60 = .ok (.return_, 1) := by decide +kernel
theorem dX4_touch_0 : decode cX4_touch 0 = .ok (.iload_n 1, 1) := by decide +kernel
theorem dX4_touch_1 : decode cX4_touch 1 = .ok (.ifCond .lt 12, 3) := by decide +kernel
theorem dX4_touch_4 : decode cX4_touch 4 = .ok (.iload_n 1, 1) := by decide +kernel
theorem dX4_touch_5 : decode cX4_touch 5 = .ok (.aload_n 0, 1) := by decide +kernel
theorem dX4_touch_6 : decode cX4_touch 6 = .ok (.getfield 15, 3) := by decide +kernel
theorem dX4_touch_9 : decode cX4_touch 9 = .ok (.arraylength, 1) := by decide +kernel
theorem dX4_touch_10 : decode cX4_touch 10 = .ok (.if_icmp .lt 5, 3) := by decide +kernel
theorem dX4_touch_13 : decode cX4_touch 13 = .ok (.iconst 0, 1) := by decide +kernel
theorem dX4_touch_14 : decode cX4_touch 14 = .ok (.ireturn, 1) := by decide +kernel
theorem dX4_touch_15 : decode cX4_touch 15 = .ok (.aload_n 0, 1) := by decide +kernel
theorem dX4_touch_16 : decode cX4_touch 16 = .ok (.getfield 15, 3) := by decide +kernel
theorem dX4_touch_19 : decode cX4_touch 19 = .ok (.iload_n 1, 1) := by decide +kernel
theorem dX4_touch_20 : decode cX4_touch 20 = .ok (.dup2, 1) := by decide +kernel
theorem dX4_touch_21 : decode cX4_touch 21 = .ok (.iaload, 1) := by decide +kernel
theorem dX4_touch_22 : decode cX4_touch 22 = .ok (.iconst 1, 1) := by decide +kernel
theorem dX4_touch_23 : decode cX4_touch 23 = .ok (.iload_n 2, 1) := by decide +kernel
theorem dX4_touch_24 : decode cX4_touch 24 = .ok (.ishl, 1) := by decide +kernel
theorem dX4_touch_25 : decode cX4_touch 25 = .ok (.ior, 1) := by decide +kernel
theorem dX4_touch_26 : decode cX4_touch 26 = .ok (.iastore, 1) := by decide +kernel
theorem dX4_touch_27 : decode cX4_touch 27 = .ok (.iconst 1, 1) := by decide +kernel
theorem dX4_touch_28 : decode cX4_touch 28 = .ok (.ireturn, 1) := by decide +kernel
set_option maxRecDepth 20000 in
theorem ggX5_init_X1_init : GoodIn wsX5_init wsX1_init := goodIn_r _ [17, 18, 2, 3, 19, 20, 21, 22, 23, 24, 25, 26, 27, 28, 29, 30, 31, 32, 33, 58, 59, 60, 61, 74, 75, 76, 77, 78, 79] (by decide +kernel) (by decide +kernel)
set_option maxRecDepth 20000 in
theorem gX5_init_X1_init_n11 : GoodIn wsX5_init (wsX1_init) := ggX5_init_X1_init
set_option maxRecDepth 20000 in
theorem ggX5_init_Jx4a65c_init_da8c8 : GoodIn wsX5_init wsJx4a65c_init_da8c8 := goodIn_r _ [36, 37, 38, 39, 40, 41, 42, 43, 44, 45, 46, 47, 48, 2, 3, 65, 66, 67] (by decide +kernel) (by decide +kernel)
set_option maxRecDepth 20000 in
theorem gX5_init_Jx4a65c_init_da8c8 : GoodIn wsX5_init (wsJx4a65c_init_da8c8) := ggX5_init_Jx4a65c_init_da8c8
set_option maxRecDepth 20000 in
theorem ggX5_init_X0_init : GoodIn wsX5_init wsX0_init := goodIn_r _ [50, 51, 2, 3, 52, 53, 54, 55, 56, 57, 68, 69, 70, 71, 72, 73] (by decide +kernel) (by decide +kernel)
set_option maxRecDepth 20000 in
theorem gX5_init_X0_init_n25 : GoodIn wsX5_init (wsX0_init) := ggX5_init_X0_init
theorem dX5_init_0 : decode cX5_init 0 = .ok (.aload_n 0, 1) := by decide +kernel
theorem dX5_init_1 : decode cX5_init 1 = .ok (.invokespecial 3, 3) := by decide +kernel
theorem dX5_init_4 : decode cX5_init 4 = .ok (.aload_n 0, 1) := by decide +kernel
theorem dX5_init_5 : decode cX5_init 5 = .ok (.new 9, 3) := by decide +kernel
theorem dX5_init_8 : decode cX5_init 8 = .ok (.dup, 1) := by decide +kernel
theorem dX5_init_9 : decode cX5_init 9 = .ok (.invokespecial 11, 3) := by decide +kernel
theorem dX5_init_12 : decode cX5_init 12 = .ok (.putfield 12, 3) := by decide +kernel
theorem dX5_init_15 : decode cX5_init 15 = .ok (.aload_n 0, 1) := by decide +kernel
theorem dX5_init_16 : decode cX5_init 16 = .ok (.new 16, 3) := by decide +kernel
theorem dX5_init_19 : decode cX5_init 19 = .ok (.dup, 1) := by decide +kernel
theorem dX5_init_20 : decode cX5_init 20 = .ok (.invokespecial 18, 3) := by decide +kernel
theorem dX5_init_23 : decode cX5_init 23 = .ok (.putfield 19, 3) := by decide +kernel
theorem dX5_init_26 : decode cX5_init 26 = .ok (.aload_n 0, 1) := by decide +kernel
theorem dX5_init_27 : decode cX5_init 27 = .ok (.new 23, 3) := by decide +kernel
theorem dX5_init_30 : decode cX5_init 30 = .ok (.dup, 1) := by decide +kernel
theorem dX5_init_31 : decode cX5_init 31 = .ok (.invokespecial 25, 3) := by decide +kernel
theorem dX5_init_34 : decode cX5_init 34 = .ok (.putfield 26, 3) := by decide +kernel
theorem dX5_init_37 : decode cX5_init 37 = .ok (.return_, 1) := by decide +kernel
set_option maxRecDepth 20000 in
theorem ggX5_canvas_X5_within : GoodIn wsX5_canvas wsX5_within := goodIn_r _ [7] (by decide +kernel) (by decide +kernel)
set_option maxRecDepth 20000 in
theorem gX5_canvas_X5_within : GoodIn wsX5_canvas (va_wsS RX5 30 yX5_within wsX5_within) := goodIn_app (goodIn_of _ (by decide +kernel)) ggX5_canvas_X5_within
set_option maxRecDepth 20000 in
theorem ggX5_canvas_X1_resize : GoodIn wsX5_canvas wsX1_resize := goodIn_r _ [12, 13, 14, 15, 16, 17, 57, 58, 59, 60, 61, 62, 63, 64, 65, 66] (by decide +kernel) (by decide +kernel)
set_option maxRecDepth 20000 in
theorem gX5_canvas_X1_resize : GoodIn wsX5_canvas (wsV RX5 34 RX1 yX1_resize wsX1_resize) := goodIn_app (goodIn_of _ (by decide +kernel)) ggX5_canvas_X1_resize
set_option maxRecDepth 20000 in
theorem ggX5_canvas_X5_markAllStale : GoodIn wsX5_canvas wsX5_markAllStale := goodIn_r _ [21, 22, 23, 24, 25, 26, 27, 28, 29, 30, 31, 32, 33, 34, 35, 36, 37, 38, 39, 40, 41, 42, 43, 44, 45, 46, 47, 48, 49, 50, 67, 68, 69, 70, 71, 72, 73, 74, 75, 76, 77, 78, 79, 80] (by decide +kernel) (by decide +kernel)
set_option maxRecDepth 20000 in
theorem gX5_canvas_X5_markAllStale : GoodIn wsX5_canvas (wsV RX5 42 RX5 yX5_markAllStale wsX5_markAllStale) := goodIn_app (goodIn_of _ (by decide +kernel)) ggX5_canvas_X5_markAllStale
theorem dX5_canvas_0 : decode cX5_canvas 0 = .ok (.iload_n 1, 1) := by decide +kernel
theorem dX5_canvas_1 : decode cX5_canvas 1 = .ok (.iconst 4, 1) := by decide +kernel
theorem dX5_canvas_2 : decode cX5_canvas 2 = .ok (.bipush 40, 2) := by decide +kernel
theorem dX5_canvas_4 : decode cX5_canvas 4 = .ok (.invokestatic 30, 3) := by decide +kernel
theorem dX5_canvas_7 : decode cX5_canvas 7 = .ok (.ifCond .eq 13, 3) := by decide +kernel
theorem dX5_canvas_10 : decode cX5_canvas 10 = .ok (.iload_n 2, 1) := by decide +kernel
theorem dX5_canvas_11 : decode cX5_canvas 11 = .ok (.iconst 2, 1) := by decide +kernel
theorem dX5_canvas_12 : decode cX5_canvas 12 = .ok (.bipush 16, 2) := by decide +kernel
theorem dX5_canvas_14 : decode cX5_canvas 14 = .ok (.invokestatic 30, 3) := by decide +kernel
theorem dX5_canvas_17 : decode cX5_canvas 17 = .ok (.ifCond .ne 5, 3) := by decide +kernel
theorem dX5_canvas_20 : decode cX5_canvas 20 = .ok (.iconst (-1), 1) := by decide +kernel
