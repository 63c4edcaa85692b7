theorem dX5_inked_0 : decode cX5_inked 0 = .ok (.aload_n 0, 1) := by decide +kernel
theorem dX5_inked_1 : decode cX5_inked 1 = .ok (.invokevirtual 178, 3) := by decide +kernel
theorem dX5_inked_4 : decode cX5_inked 4 = .ok (.aload_n 0, 1) := by decide +kernel
theorem dX5_inked_5 : decode cX5_inked 5 = .ok (.iconst 0, 1) := by decide +kernel
theorem dX5_inked_6 : decode cX5_inked 6 = .ok (.iconst 0, 1) := by decide +kernel
theorem dX5_inked_7 : decode cX5_inked 7 = .ok (.aload_n 0, 1) := by decide +kernel
theorem dX5_inked_8 : decode cX5_inked 8 = .ok (.getfield 12, 3) := by decide +kernel
theorem dX5_inked_11 : decode cX5_inked 11 = .ok (.getfield 213, 3) := by decide +kernel
theorem dX5_inked_14 : decode cX5_inked 14 = .ok (.aload_n 0, 1) := by decide +kernel
theorem dX5_inked_15 : decode cX5_inked 15 = .ok (.getfield 12, 3) := by decide +kernel
theorem dX5_inked_18 : decode cX5_inked 18 = .ok (.getfield 216, 3) := by decide +kernel
theorem dX5_inked_21 : decode cX5_inked 21 = .ok (.invokevirtual 219, 3) := by decide +kernel
theorem dX5_inked_24 : decode cX5_inked 24 = .ok (.ireturn, 1) := by decide +kernel
set_option maxRecDepth 20000 in
theorem ggX5_digest_X5_drawStale : GoodIn wsX5_digest wsX5_drawStale := goodIn_r _ [10, 11, 12, 13, 14, 15, 16, 17, 18, 19, 20, 21, 22, 23, 24, 25, 26, 27, 28, 29, 30, 31, 32, 33, 34, 35, 36, 37, 38, 39, 40, 41, 42, 43, 44, 45, 46, 47, 48, 49, 50, 51, 52, 53, 54, 55, 56, 57, 58, 59, 60, 61, 62, 63, 64, 65, 66, 67, 68, 69, 70, 71, 72, 73, 74, 75, 76, 77, 78, 79, 80, 81, 82, 83, 84, 85, 86, 87, 88, 89, 90, 91, 92, 93, 94, 95, 96, 97, 98, 99, 100, 101, 102, 103, 104, 105, 106, 107, 108, 109, 110, 111, 112, 113, 114, 115, 116, 117, 118, 119, 120, 121, 122, 123, 124, 125, 126, 127, 128, 129, 130, 131, 132, 133, 134, 135, 136, 137, 138, 139, 140, 141, 142, 143, 144, 145, 146, 147, 148, 149, 150, 151, 152, 153, 154, 155, 156, 157, 158, 159, 160, 199, 200, 201, 206, 207, 208, 209, 210, 211, 212, 213, 214, 215, 216, 217, 218, 219, 220, 221, 222, 202, 203, 204, 205, 223, 224, 225, 226, 227, 228] (by decide +kernel) (by decide +kernel)
set_option maxRecDepth 20000 in
theorem gX5_digest_X5_drawStale : GoodIn wsX5_digest (wsV RX5 178 RX5 yX5_drawStale wsX5_drawStale) := goodIn_app (goodIn_of _ (by decide +kernel)) ggX5_digest_X5_drawStale
set_option maxRecDepth 20000 in
theorem ggX5_digest_X5_signOf : GoodIn wsX5_digest wsX5_signOf := goodIn_r _ [164, 165, 2, 166, 167, 168, 169, 170, 171, 172, 173, 174, 175, 122, 123, 114, 124, 125, 176, 177, 178, 9, 179, 11, 12, 180, 181, 13, 14, 15, 16, 17, 18, 19, 20, 21, 22, 23, 24, 25, 26, 27, 28, 29, 30, 31, 32, 33, 34, 35, 182, 183, 184, 47, 185, 50, 186, 187, 188, 189, 190, 191, 192, 39, 193, 96, 194, 42, 195, 196, 197, 198, 49, 199, 200, 201, 229, 230, 231, 232, 233, 234, 202, 203, 204, 205, 209, 210, 211, 212, 213, 214, 215, 216, 217, 218, 219, 206, 207, 208, 220, 221, 222] (by decide +kernel) (by decide +kernel)
set_option maxRecDepth 20000 in
theorem gX5_digest_X5_signOf : GoodIn wsX5_digest (wsV RX5 181 RX5 yX5_signOf wsX5_signOf) := goodIn_app (goodIn_of _ (by decide +kernel)) ggX5_digest_X5_signOf
theorem dX5_digest_0 : decode cX5_digest 0 = .ok (.aload_n 0, 1) := by decide +kernel
theorem dX5_digest_1 : decode cX5_digest 1 = .ok (.invokevirtual 178, 3) := by decide +kernel
theorem dX5_digest_4 : decode cX5_digest 4 = .ok (.ldc2_w 223, 3) := by decide +kernel
theorem dX5_digest_7 : decode cX5_digest 7 = .ok (.lstore_n 1, 1) := by decide +kernel
theorem dX5_digest_8 : decode cX5_digest 8 = .ok (.iconst 0, 1) := by decide +kernel
theorem dX5_digest_9 : decode cX5_digest 9 = .ok (.istore_n 3, 1) := by decide +kernel
theorem dX5_digest_10 : decode cX5_digest 10 = .ok (.iload_n 3, 1) := by decide +kernel
theorem dX5_digest_11 : decode cX5_digest 11 = .ok (.aload_n 0, 1) := by decide +kernel
theorem dX5_digest_12 : decode cX5_digest 12 = .ok (.getfield 12, 3) := by decide +kernel
theorem dX5_digest_15 : decode cX5_digest 15 = .ok (.getfield 216, 3) := by decide +kernel
theorem dX5_digest_18 : decode cX5_digest 18 = .ok (.if_icmp .ge 45, 3) := by decide +kernel
theorem dX5_digest_21 : decode cX5_digest 21 = .ok (.iconst 0, 1) := by decide +kernel
theorem dX5_digest_22 : decode cX5_digest 22 = .ok (.istore 4, 2) := by decide +kernel
theorem dX5_digest_24 : decode cX5_digest 24 = .ok (.iload 4, 2) := by decide +kernel
theorem dX5_digest_26 : decode cX5_digest 26 = .ok (.aload_n 0, 1) := by decide +kernel
theorem dX5_digest_27 : decode cX5_digest 27 = .ok (.getfield 12, 3) := by decide +kernel
theorem dX5_digest_30 : decode cX5_digest 30 = .ok (.getfield 213, 3) := by decide +kernel
theorem dX5_digest_33 : decode cX5_digest 33 = .ok (.if_icmp .ge 24, 3) := by decide +kernel
theorem dX5_digest_36 : decode cX5_digest 36 = .ok (.ldc2_w 225, 3) := by decide +kernel
theorem dX5_digest_39 : decode cX5_digest 39 = .ok (.lload_n 1, 1) := by decide +kernel
theorem dX5_digest_40 : decode cX5_digest 40 = .ok (.lmul, 1) := by decide +kernel
theorem dX5_digest_41 : decode cX5_digest 41 = .ok (.aload_n 0, 1) := by decide +kernel
theorem dX5_digest_42 : decode cX5_digest 42 = .ok (.iload 4, 2) := by decide +kernel
theorem dX5_digest_44 : decode cX5_digest 44 = .ok (.iload_n 3, 1) := by decide +kernel
theorem dX5_digest_45 : decode cX5_digest 45 = .ok (.invokevirtual 181, 3) := by decide +kernel
theorem dX5_digest_48 : decode cX5_digest 48 = .ok (.i2l, 1) := by decide +kernel
theorem dX5_digest_49 : decode cX5_digest 49 = .ok (.ladd, 1) := by decide +kernel
theorem dX5_digest_50 : decode cX5_digest 50 = .ok (.lstore_n 1, 1) := by decide +kernel
theorem dX5_digest_51 : decode cX5_digest 51 = .ok (.iinc 4 1, 3) := by decide +kernel
theorem dX5_digest_54 : decode cX5_digest 54 = .ok (.goto (-30), 3) := by decide +kernel
theorem dX5_digest_57 : decode cX5_digest 57 = .ok (.iinc 3 1, 3) := by decide +kernel
theorem dX5_digest_60 : decode cX5_digest 60 = .ok (.goto (-50), 3) := by decide +kernel
theorem dX5_digest_63 : decode cX5_digest 63 = .ok (.lload_n 1, 1) := by decide +kernel
theorem dX5_digest_64 : decode cX5_digest 64 = .ok (.lreturn, 1) := by decide +kernel
set_option maxRecDepth 20000 in
theorem ggX5_label_X5_seriesOf : GoodIn wsX5_label wsX5_seriesOf := goodIn_r _ [8, 9, 10, 11, 12, 13, 14, 15, 16, 17, 18, 19, 20, 21, 22, 23, 24, 25, 26, 27, 28, 29, 30, 31, 32, 33, 220, 221, 222, 229, 230, 231] (by decide +kernel) (by decide +kernel)
set_option maxRecDepth 20000 in
theorem gX5_label_X5_seriesOf : GoodIn wsX5_label (wsV RX5 120 RX5 yX5_seriesOf wsX5_seriesOf) := goodIn_app (goodIn_of _ (by decide +kernel)) ggX5_label_X5_seriesOf
set_option maxRecDepth 20000 in
theorem ggX5_label_X3_has : GoodIn wsX5_label wsX3_has := goodIn_r _ [38, 39, 232, 233, 234, 235, 236, 237, 238, 239, 240, 241, 242] (by decide +kernel) (by decide +kernel)
set_option maxRecDepth 20000 in
theorem gX5_label_X3_has : GoodIn wsX5_label (wsV RX5 227 RX3 yX3_has wsX3_has) := goodIn_app (goodIn_of _ (by decide +kernel)) ggX5_label_X3_has
set_option maxRecDepth 20000 in
theorem ggX5_label_X5_within : GoodIn wsX5_label wsX5_within := goodIn_r _ [42] (by decide +kernel) (by decide +kernel)
set_option maxRecDepth 20000 in
theorem gX5_label_X5_within : GoodIn wsX5_label (va_wsS RX5 30 yX5_within wsX5_within) := goodIn_app (goodIn_of _ (by decide +kernel)) ggX5_label_X5_within
set_option maxRecDepth 20000 in
theorem ggX5_label_X3_isSeen : GoodIn wsX5_label wsX3_isSeen := goodIn_r _ [46, 47, 48, 49, 50, 51, 52, 53, 54, 37, 55, 56, 57, 35, 36, 38, 39, 58, 59, 60, 61, 62, 63, 64, 65, 66, 67, 68, 69, 70, 71, 72, 73, 74, 75, 76, 232, 233, 234, 235, 236, 237, 238, 239, 240, 241, 242, 243, 244, 245, 246, 247, 248, 249, 250, 251, 252] (by decide +kernel) (by decide +kernel)
set_option maxRecDepth 20000 in
theorem gX5_label_X3_isSeen : GoodIn wsX5_label (wsV RX5 151 RX3 yX3_isSeen wsX3_isSeen) := goodIn_app (goodIn_of _ (by decide +kernel)) ggX5_label_X3_isSeen
set_option maxRecDepth 20000 in
theorem ggX5_label_X5_drawStale : GoodIn wsX5_label wsX5_drawStale := goodIn_r _ [80, 9, 10, 11, 12, 13, 14, 15, 16, 17, 18, 19, 20, 21, 22, 23, 24, 25, 26, 27, 28, 29, 30, 31, 32, 33, 81, 82, 83, 37, 84, 85, 86, 39, 87, 88, 89, 90, 91, 92, 93, 94, 95, 96, 97, 98, 44, 45, 46, 47, 48, 49, 50, 51, 52, 53, 54, 55, 56, 57, 35, 36, 38, 58, 59, 60, 61, 62, 63, 64, 65, 66, 67, 68, 69, 70, 71, 72, 73, 74, 75, 76, 99, 100, 101, 102, 103, 104, 105, 106, 107, 108, 109, 110, 111, 112, 113, 114, 115, 116, 117, 118, 119, 120, 121, 122, 123, 124, 125, 126, 127, 128, 129, 130, 131, 132, 133, 134, 135, 136, 137, 138, 139, 140, 141, 142, 143, 144, 145, 146, 147, 148, 149, 150, 151, 152, 153, 154, 155, 156, 157, 158, 159, 160, 161, 162, 163, 164, 165, 166, 167, 220, 221, 222, 229, 230, 231, 232, 233, 234, 235, 236, 237, 238, 239, 240, 241, 242, 253, 254, 255, 243, 244, 245, 246, 247, 248, 249, 250, 251, 252] (by decide +kernel) (by decide +kernel)
set_option maxRecDepth 20000 in
theorem gX5_label_X5_drawStale : GoodIn wsX5_label (wsV RX5 178 RX5 yX5_drawStale wsX5_drawStale) := goodIn_app (goodIn_of _ (by decide +kernel)) ggX5_label_X5_drawStale
set_option maxRecDepth 20000 in
theorem ggX5_label_X3_dotAcross : GoodIn wsX5_label wsX3_dotAcross := goodIn_r _ [108, 47, 48, 49, 57, 35, 36, 37, 38, 39, 58, 59, 60, 61, 62, 63, 64, 65, 66, 67, 68, 69, 70, 71, 72, 73, 74, 75, 76, 232, 233, 234, 235, 236, 237, 238, 239, 240, 241, 242, 243, 244, 245, 246, 247, 248, 249, 250, 251, 252] (by decide +kernel) (by decide +kernel)
set_option maxRecDepth 20000 in
theorem gX5_label_X3_dotAcross : GoodIn wsX5_label (wsV RX5 154 RX3 yX3_dotAcross wsX3_dotAcross) := goodIn_app (goodIn_of _ (by decide +kernel)) ggX5_label_X3_dotAcross
set_option maxRecDepth 20000 in
theorem ggX5_label_X1_columnOf : GoodIn wsX5_label wsX1_columnOf := goodIn_r _ [122] (by decide +kernel) (by decide +kernel)
set_option maxRecDepth 20000 in
theorem gX5_label_X1_columnOf : GoodIn wsX5_label (wsV RX5 229 RX1 yX1_columnOf wsX1_columnOf) := goodIn_app (goodIn_of _ (by decide +kernel)) ggX5_label_X1_columnOf
set_option maxRecDepth 20000 in
theorem ggX5_label_X3_dotUpwards : GoodIn wsX5_label wsX3_dotUpwards := goodIn_r _ [112, 47, 50, 51, 57, 35, 36, 37, 38, 39, 58, 59, 60, 61, 62, 63, 64, 65, 66, 67, 68, 69, 70, 71, 72, 73, 74, 75, 76, 232, 233, 234, 235, 236, 237, 238, 239, 240, 241, 242, 243, 244, 245, 246, 247, 248, 249, 250, 251, 252] (by decide +kernel) (by decide +kernel)
set_option maxRecDepth 20000 in
theorem gX5_label_X3_dotUpwards : GoodIn wsX5_label (wsV RX5 157 RX3 yX3_dotUpwards wsX3_dotUpwards) := goodIn_app (goodIn_of _ (by decide +kernel)) ggX5_label_X3_dotUpwards
set_option maxRecDepth 20000 in
theorem ggX5_label_X1_rowOf : GoodIn wsX5_label wsX1_rowOf := goodIn_r _ [126, 127, 243, 244, 245, 246] (by decide +kernel) (by decide +kernel)
set_option maxRecDepth 20000 in
theorem gX5_label_X1_rowOf : GoodIn wsX5_label (wsV RX5 232 RX1 yX1_rowOf wsX1_rowOf) := goodIn_app (goodIn_of _ (by decide +kernel)) ggX5_label_X1_rowOf
set_option maxRecDepth 20000 in
theorem ggX5_label_X5_firstColumn : GoodIn wsX5_label wsX5_firstColumn := goodIn_r _ [174] (by decide +kernel) (by decide +kernel)
set_option maxRecDepth 20000 in
theorem gX5_label_X5_firstColumn : GoodIn wsX5_label (va_wsS RX5 235 yX5_firstColumn wsX5_firstColumn) := goodIn_app (goodIn_of _ (by decide +kernel)) ggX5_label_X5_firstColumn
set_option maxRecDepth 20000 in
theorem ggX5_label_X5_labelRow : GoodIn wsX5_label wsX5_labelRow := goodIn_r _ [177] (by decide +kernel) (by decide +kernel)
set_option maxRecDepth 20000 in
theorem gX5_label_X5_labelRow : GoodIn wsX5_label (va_wsS RX5 239 yX5_labelRow wsX5_labelRow) := goodIn_app (goodIn_of _ (by decide +kernel)) ggX5_label_X5_labelRow
set_option maxRecDepth 20000 in
theorem ggX5_label_X5_isFree : GoodIn wsX5_label wsX5_isFree := goodIn_r _ [181, 3, 182, 183, 184, 121, 185, 132, 127, 186, 187, 188, 7, 189, 190, 191, 192, 193, 1, 194, 195, 196, 197, 198, 199, 200, 201, 202, 203, 129, 130, 131, 204, 205, 206, 207, 9, 10, 208, 209, 11, 12, 13, 14, 15, 16, 17, 18, 19, 20, 21, 22, 23, 24, 25, 26, 27, 28, 29, 30, 31, 32, 33, 210, 211, 212, 90, 213, 93, 220, 221, 222, 243, 244, 245, 246, 223, 224, 225, 226, 227, 228, 232, 233, 234, 235, 236, 237, 238, 239, 240, 241, 242, 229, 230, 231, 253, 254, 255] (by decide +kernel) (by decide +kernel)
set_option maxRecDepth 20000 in
theorem gX5_label_X5_isFree : GoodIn wsX5_label (wsV RX5 242 RX5 yX5_isFree wsX5_isFree) := goodIn_app (goodIn_of _ (by decide +kernel)) ggX5_label_X5_isFree
set_option maxRecDepth 20000 in
theorem ggX5_label_X0_add : GoodIn wsX5_label wsX0_add := goodIn_r _ [217, 199, 201, 200, 202, 218, 219, 223, 224, 225, 226, 227, 228] (by decide +kernel) (by decide +kernel)
set_option maxRecDepth 20000 in
theorem gX5_label_X0_add : GoodIn wsX5_label (wsV RX5 245 RX0 yX0_add wsX0_add) := goodIn_app (goodIn_of _ (by decide +kernel)) ggX5_label_X0_add
theorem dX5_label_0 : decode cX5_label 0 = .ok (.aload_n 0, 1) := by decide +kernel
theorem dX5_label_1 : decode cX5_label 1 = .ok (.iload_n 1, 1) := by decide +kernel
theorem dX5_label_2 : decode cX5_label 2 = .ok (.invokevirtual 120, 3) := by decide +kernel
theorem dX5_label_5 : decode cX5_label 5 = .ok (.astore 4, 2) := by decide +kernel
theorem dX5_label_7 : decode cX5_label 7 = .ok (.aload 4, 2) := by decide +kernel
theorem dX5_label_9 : decode cX5_label 9 = .ok (.ifnull 22, 3) := by decide +kernel
theorem dX5_label_12 : decode cX5_label 12 = .ok (.aload 4, 2) := by decide +kernel
theorem dX5_label_14 : decode cX5_label 14 = .ok (.iload_n 2, 1) := by decide +kernel
theorem dX5_label_15 : decode cX5_label 15 = .ok (.invokevirtual 227, 3) := by decide +kernel
theorem dX5_label_18 : decode cX5_label 18 = .ok (.ifCond .eq 13, 3) := by decide +kernel
theorem dX5_label_21 : decode cX5_label 21 = .ok (.iload_n 3, 1) := by decide +kernel
theorem dX5_label_22 : decode cX5_label 22 = .ok (.iconst 1, 1) := by decide +kernel
theorem dX5_label_23 : decode cX5_label 23 = .ok (.bipush 10, 2) := by decide +kernel
theorem dX5_label_25 : decode cX5_label 25 = .ok (.invokestatic 30, 3) := by decide +kernel
theorem dX5_label_28 : decode cX5_label 28 = .ok (.ifCond .ne 5, 3) := by decide +kernel
theorem dX5_label_31 : decode cX5_label 31 = .ok (.iconst (-1), 1) := by decide +kernel
theorem dX5_label_32 : decode cX5_label 32 = .ok (.ireturn, 1) := by decide +kernel
theorem dX5_label_33 : decode cX5_label 33 = .ok (.aload 4, 2) := by decide +kernel
theorem dX5_label_35 : decode cX5_label 35 = .ok (.iload_n 2, 1) := by decide +kernel
theorem dX5_label_36 : decode cX5_label 36 = .ok (.invokevirtual 151, 3) := by decide +kernel
theorem dX5_label_39 : decode cX5_label 39 = .ok (.ifCond .ne 6, 3) := by decide +kernel
theorem dX5_label_42 : decode cX5_label 42 = .ok (.bipush (-2), 2) := by decide +kernel
theorem dX5_label_44 : decode cX5_label 44 = .ok (.ireturn, 1) := by decide +kernel
theorem dX5_label_45 : decode cX5_label 45 = .ok (.aload_n 0, 1) := by decide +kernel
theorem dX5_label_46 : decode cX5_label 46 = .ok (.getfield 26, 3) := by decide +kernel
theorem dX5_label_49 : decode cX5_label 49 = .ok (.getfield 38, 3) := by decide +kernel
theorem dX5_label_52 : decode cX5_label 52 = .ok (.bipush 20, 2) := by decide +kernel
theorem dX5_label_54 : decode cX5_label 54 = .ok (.if_icmp .lt 6, 3) := by decide +kernel
theorem dX5_label_57 : decode cX5_label 57 = .ok (.bipush (-3), 2) := by decide +kernel
theorem dX5_label_59 : decode cX5_label 59 = .ok (.ireturn, 1) := by decide +kernel
theorem dX5_label_60 : decode cX5_label 60 = .ok (.aload_n 0, 1) := by decide +kernel
theorem dX5_label_61 : decode cX5_label 61 = .ok (.invokevirtual 178, 3) := by decide +kernel
theorem dX5_label_64 : decode cX5_label 64 = .ok (.aload_n 0, 1) := by decide +kernel
theorem dX5_label_65 : decode cX5_label 65 = .ok (.getfield 12, 3) := by decide +kernel
theorem dX5_label_68 : decode cX5_label 68 = .ok (.aload 4, 2) := by decide +kernel
theorem dX5_label_70 : decode cX5_label 70 = .ok (.iload_n 2, 1) := by decide +kernel
theorem dX5_label_71 : decode cX5_label 71 = .ok (.invokevirtual 154, 3) := by decide +kernel
theorem dX5_label_74 : decode cX5_label 74 = .ok (.invokevirtual 229, 3) := by decide +kernel
theorem dX5_label_77 : decode cX5_label 77 = .ok (.istore 5, 2) := by decide +kernel
theorem dX5_label_79 : decode cX5_label 79 = .ok (.aload_n 0, 1) := by decide +kernel
theorem dX5_label_80 : decode cX5_label 80 = .ok (.getfield 12, 3) := by decide +kernel
theorem dX5_label_83 : decode cX5_label 83 = .ok (.aload 4, 2) := by decide +kernel
theorem dX5_label_85 : decode cX5_label 85 = .ok (.iload_n 2, 1) := by decide +kernel
theorem dX5_label_86 : decode cX5_label 86 = .ok (.invokevirtual 157, 3) := by decide +kernel
theorem dX5_label_89 : decode cX5_label 89 = .ok (.invokevirtual 232, 3) := by decide +kernel
theorem dX5_label_92 : decode cX5_label 92 = .ok (.istore 6, 2) := by decide +kernel
theorem dX5_label_94 : decode cX5_label 94 = .ok (.iconst 0, 1) := by decide +kernel
theorem dX5_label_95 : decode cX5_label 95 = .ok (.istore 7, 2) := by decide +kernel
theorem dX5_label_97 : decode cX5_label 97 = .ok (.iload 7, 2) := by decide +kernel
theorem dX5_label_99 : decode cX5_label 99 = .ok (.iconst 3, 1) := by decide +kernel
theorem dX5_label_100 : decode cX5_label 100 = .ok (.if_icmp .gt 57, 3) := by decide +kernel
theorem dX5_label_103 : decode cX5_label 103 = .ok (.iload 7, 2) := by decide +kernel
theorem dX5_label_105 : decode cX5_label 105 = .ok (.iload 5, 2) := by decide +kernel
theorem dX5_label_107 : decode cX5_label 107 = .ok (.iload_n 3, 1) := by decide +kernel
theorem dX5_label_108 : decode cX5_label 108 = .ok (.invokestatic 235, 3) := by decide +kernel
theorem dX5_label_111 : decode cX5_label 111 = .ok (.istore 8, 2) := by decide +kernel
theorem dX5_label_113 : decode cX5_label 113 = .ok (.iload 7, 2) := by decide +kernel
theorem dX5_label_115 : decode cX5_label 115 = .ok (.iload 6, 2) := by decide +kernel
theorem dX5_label_117 : decode cX5_label 117 = .ok (.invokestatic 239, 3) := by decide +kernel
theorem dX5_label_120 : decode cX5_label 120 = .ok (.istore 9, 2) := by decide +kernel
theorem dX5_label_122 : decode cX5_label 122 = .ok (.aload_n 0, 1) := by decide +kernel
theorem dX5_label_123 : decode cX5_label 123 = .ok (.iload 8, 2) := by decide +kernel
theorem dX5_label_125 : decode cX5_label 125 = .ok (.iload 9, 2) := by decide +kernel
theorem dX5_label_127 : decode cX5_label 127 = .ok (.iload_n 3, 1) := by decide +kernel
theorem dX5_label_128 : decode cX5_label 128 = .ok (.invokevirtual 242, 3) := by decide +kernel
theorem dX5_label_131 : decode cX5_label 131 = .ok (.ifCond .eq 20, 3) := by decide +kernel
theorem dX5_label_134 : decode cX5_label 134 = .ok (.aload_n 0, 1) := by decide +kernel
theorem dX5_label_135 : decode cX5_label 135 = .ok (.getfield 26, 3) := by decide +kernel
theorem dX5_label_138 : decode cX5_label 138 = .ok (.iload 8, 2) := by decide +kernel
theorem dX5_label_140 : decode cX5_label 140 = .ok (.iload 9, 2) := by decide +kernel
theorem dX5_label_142 : decode cX5_label 142 = .ok (.iload_n 3, 1) := by decide +kernel
theorem dX5_label_143 : decode cX5_label 143 = .ok (.iload_n 1, 1) := by decide +kernel
theorem dX5_label_144 : decode cX5_label 144 = .ok (.iload_n 2, 1) := by decide +kernel
theorem dX5_label_145 : decode cX5_label 145 = .ok (.invokevirtual 245, 3) := by decide +kernel
theorem dX5_label_148 : decode cX5_label 148 = .ok (.iload 7, 2) := by decide +kernel
theorem dX5_label_150 : decode cX5_label 150 = .ok (.ireturn, 1) := by decide +kernel
theorem dX5_label_151 : decode cX5_label 151 = .ok (.iinc 7 1, 3) := by decide +kernel
theorem dX5_label_154 : decode cX5_label 154 = .ok (.goto (-57), 3) := by decide +kernel
theorem dX5_label_157 : decode cX5_label 157 = .ok (.bipush (-9), 2) := by decide +kernel
theorem dX5_label_159 : decode cX5_label 159 = .ok (.ireturn, 1) := by decide +kernel
set_option maxRecDepth 20000 in
theorem ggX5_labelled_X5_within : GoodIn wsX5_labelled wsX5_within := goodIn_r _ [11] (by decide +kernel) (by decide +kernel)
set_option maxRecDepth 20000 in
theorem gX5_labelled_X5_within : GoodIn wsX5_labelled (va_wsS RX5 30 yX5_within wsX5_within) := goodIn_app (goodIn_of _ (by decide +kernel)) ggX5_labelled_X5_within
theorem dX5_labelled_0 : decode cX5_labelled 0 = .ok (.iload_n 1, 1) := by decide +kernel
theorem dX5_labelled_1 : decode cX5_labelled 1 = .ok (.iconst 0, 1) := by decide +kernel
theorem dX5_labelled_2 : decode cX5_labelled 2 = .ok (.aload_n 0, 1) := by decide +kernel
theorem dX5_labelled_3 : decode cX5_labelled 3 = .ok (.getfield 26, 3) := by decide +kernel
theorem dX5_labelled_6 : decode cX5_labelled 6 = .ok (.getfield 38, 3) := by decide +kernel
theorem dX5_labelled_9 : decode cX5_labelled 9 = .ok (.iconst 1, 1) := by decide +kernel
theorem dX5_labelled_10 : decode cX5_labelled 10 = .ok (.isub, 1) := by decide +kernel
theorem dX5_labelled_11 : decode cX5_labelled 11 = .ok (.invokestatic 30, 3) := by decide +kernel
theorem dX5_labelled_14 : decode cX5_labelled 14 = .ok (.ifCond .ne 5, 3) := by decide +kernel
theorem dX5_labelled_17 : decode cX5_labelled 17 = .ok (.iconst (-1), 1) := by decide +kernel
theorem dX5_labelled_18 : decode cX5_labelled 18 = .ok (.ireturn, 1) := by decide +kernel
theorem dX5_labelled_19 : decode cX5_labelled 19 = .ok (.iload_n 2, 1) := by decide +kernel
theorem dX5_labelled_20 : decode cX5_labelled 20 = .ok (.tableswitch 86 0 4 #[36, 46, 56, 66, 76], 36) := by decide +kernel
theorem dX5_labelled_56 : decode cX5_labelled 56 = .ok (.aload_n 0, 1) := by decide +kernel
theorem dX5_labelled_57 : decode cX5_labelled 57 = .ok (.getfield 26, 3) := by decide +kernel
theorem dX5_labelled_60 : decode cX5_labelled 60 = .ok (.getfield 248, 3) := by decide +kernel
theorem dX5_labelled_63 : decode cX5_labelled 63 = .ok (.iload_n 1, 1) := by decide +kernel
theorem dX5_labelled_64 : decode cX5_labelled 64 = .ok (.iaload, 1) := by decide +kernel
theorem dX5_labelled_65 : decode cX5_labelled 65 = .ok (.ireturn, 1) := by decide +kernel
theorem dX5_labelled_66 : decode cX5_labelled 66 = .ok (.aload_n 0, 1) := by decide +kernel
theorem dX5_labelled_67 : decode cX5_labelled 67 = .ok (.getfield 26, 3) := by decide +kernel
theorem dX5_labelled_70 : decode cX5_labelled 70 = .ok (.getfield 251, 3) := by decide +kernel
theorem dX5_labelled_73 : decode cX5_labelled 73 = .ok (.iload_n 1, 1) := by decide +kernel
theorem dX5_labelled_74 : decode cX5_labelled 74 = .ok (.iaload, 1) := by decide +kernel
theorem dX5_labelled_75 : decode cX5_labelled 75 = .ok (.ireturn, 1) := by decide +kernel
theorem dX5_labelled_76 : decode cX5_labelled 76 = .ok (.aload_n 0, 1) := by decide +kernel
theorem dX5_labelled_77 : decode cX5_labelled 77 = .ok (.getfield 26, 3) := by decide +kernel
theorem dX5_labelled_80 : decode cX5_labelled 80 = .ok (.getfield 254, 3) := by decide +kernel
theorem dX5_labelled_83 : decode cX5_labelled 83 = .ok (.iload_n 1, 1) := by decide +kernel
theorem dX5_labelled_84 : decode cX5_labelled 84 = .ok (.iaload, 1) := by decide +kernel
theorem dX5_labelled_85 : decode cX5_labelled 85 = .ok (.ireturn, 1) := by decide +kernel
theorem dX5_labelled_86 : decode cX5_labelled 86 = .ok (.aload_n 0, 1) := by decide +kernel
theorem dX5_labelled_87 : decode cX5_labelled 87 = .ok (.getfield 26, 3) := by decide +kernel
theorem dX5_labelled_90 : decode cX5_labelled 90 = .ok (.getfield 257, 3) := by decide +kernel
theorem dX5_labelled_93 : decode cX5_labelled 93 = .ok (.iload_n 1, 1) := by decide +kernel
theorem dX5_labelled_94 : decode cX5_labelled 94 = .ok (.iaload, 1) := by decide +kernel
theorem dX5_labelled_95 : decode cX5_labelled 95 = .ok (.ireturn, 1) := by decide +kernel
theorem dX5_labelled_96 : decode cX5_labelled 96 = .ok (.aload_n 0, 1) := by decide +kernel
theorem dX5_labelled_97 : decode cX5_labelled 97 = .ok (.getfield 26, 3) := by decide +kernel
theorem dX5_labelled_100 : decode cX5_labelled 100 = .ok (.getfield 260, 3) := by decide +kernel
theorem dX5_labelled_103 : decode cX5_labelled 103 = .ok (.iload_n 1, 1) := by decide +kernel
theorem dX5_labelled_104 : decode cX5_labelled 104 = .ok (.iaload, 1) := by decide +kernel
theorem dX5_labelled_105 : decode cX5_labelled 105 = .ok (.ireturn, 1) := by decide +kernel
theorem dX5_labelled_106 : decode cX5_labelled 106 = .ok (.iconst (-1), 1) := by decide +kernel
theorem dX5_labelled_107 : decode cX5_labelled 107 = .ok (.ireturn, 1) := by decide +kernel
set_option maxRecDepth 20000 in
theorem ggX5_legend_X5_within : GoodIn wsX5_legend wsX5_within := goodIn_r _ [7] (by decide +kernel) (by decide +kernel)
set_option maxRecDepth 20000 in
theorem gX5_legend_X5_within : GoodIn wsX5_legend (va_wsS RX5 30 yX5_within wsX5_within) := goodIn_app (goodIn_of _ (by decide +kernel)) ggX5_legend_X5_within
set_option maxRecDepth 20000 in
theorem ggX5_legend_X5_drawStale : GoodIn wsX5_legend wsX5_drawStale := goodIn_r _ [11, 12, 13, 14, 15, 16, 17, 18, 19, 20, 21, 22, 23, 24, 25, 26, 27, 28, 29, 30, 31, 32, 33, 34, 35, 36, 37, 38, 39, 40, 41, 42, 43, 44, 45, 46, 47, 48, 49, 50, 51, 52, 53, 54, 55, 56, 57, 58, 59, 60, 61, 62, 63, 64, 65, 66, 67, 68, 69, 70, 71, 72, 73, 74, 75, 76, 77, 78, 79, 80, 81, 82, 83, 84, 85, 86, 87, 88, 89, 90, 91, 92, 93, 94, 95, 96, 97, 98, 99, 100, 101, 102, 103, 104, 105, 106, 107, 108, 109, 110, 111, 112, 113, 114, 115, 116, 117, 118, 119, 120, 121, 122, 123, 124, 125, 126, 127, 128, 129, 130, 131, 132, 133, 134, 135, 136, 137, 138, 139, 140, 141, 142, 143, 144, 145, 146, 147, 148, 149, 150, 151, 152, 153, 154, 155, 156, 157, 158, 159, 160, 161, 191, 192, 193, 198, 199, 200, 201, 202, 203, 204, 205, 206, 207, 208, 209, 210, 211, 212, 213, 214, 194, 195, 196, 197, 215, 216, 217, 218, 219, 220] (by decide +kernel) (by decide +kernel)
set_option maxRecDepth 20000 in
theorem gX5_legend_X5_drawStale : GoodIn wsX5_legend (wsV RX5 178 RX5 yX5_drawStale wsX5_drawStale) := goodIn_app (goodIn_of _ (by decide +kernel)) ggX5_legend_X5_drawStale
set_option maxRecDepth 20000 in
theorem ggX5_legend_X5_coveredWithin : GoodIn wsX5_legend wsX5_coveredWithin := goodIn_r _ [165, 166, 167, 168, 6, 169, 170, 1, 171, 172, 173, 174, 175, 176, 177, 178, 179, 180, 123, 124, 115, 125, 126, 181, 182, 183, 184, 12, 13, 185, 186, 14, 15, 16, 17, 18, 19, 20, 21, 22, 23, 24, 25, 26, 27, 28, 29, 30, 31, 32, 33, 34, 35, 36, 187, 188, 189, 48, 190, 51, 191, 192, 193, 221, 222, 223, 224, 225, 226, 194, 195, 196, 197, 201, 202, 203, 204, 205, 206, 207, 208, 209, 210, 211, 198, 199, 200, 212, 213, 214] (by decide +kernel) (by decide +kernel)
set_option maxRecDepth 20000 in
theorem gX5_legend_X5_coveredWithin : GoodIn wsX5_legend (wsV RX5 219 RX5 yX5_coveredWithin wsX5_coveredWithin) := goodIn_app (goodIn_of _ (by decide +kernel)) ggX5_legend_X5_coveredWithin
theorem dX5_legend_0 : decode cX5_legend 0 = .ok (.iload_n 1, 1) := by decide +kernel
theorem dX5_legend_1 : decode cX5_legend 1 = .ok (.iconst 1, 1) := by decide +kernel
theorem dX5_legend_2 : decode cX5_legend 2 = .ok (.aload_n 0, 1) := by decide +kernel
theorem dX5_legend_3 : decode cX5_legend 3 = .ok (.getfield 12, 3) := by decide +kernel
theorem dX5_legend_6 : decode cX5_legend 6 = .ok (.getfield 213, 3) := by decide +kernel
theorem dX5_legend_9 : decode cX5_legend 9 = .ok (.invokestatic 30, 3) := by decide +kernel
theorem dX5_legend_12 : decode cX5_legend 12 = .ok (.ifCond .eq 18, 3) := by decide +kernel
theorem dX5_legend_15 : decode cX5_legend 15 = .ok (.iload_n 2, 1) := by decide +kernel
theorem dX5_legend_16 : decode cX5_legend 16 = .ok (.iconst 1, 1) := by decide +kernel
theorem dX5_legend_17 : decode cX5_legend 17 = .ok (.aload_n 0, 1) := by decide +kernel
theorem dX5_legend_18 : decode cX5_legend 18 = .ok (.getfield 12, 3) := by decide +kernel
theorem dX5_legend_21 : decode cX5_legend 21 = .ok (.getfield 216, 3) := by decide +kernel
theorem dX5_legend_24 : decode cX5_legend 24 = .ok (.invokestatic 30, 3) := by decide +kernel
theorem dX5_legend_27 : decode cX5_legend 27 = .ok (.ifCond .ne 5, 3) := by decide +kernel
theorem dX5_legend_30 : decode cX5_legend 30 = .ok (.iconst (-1), 1) := by decide +kernel
theorem dX5_legend_31 : decode cX5_legend 31 = .ok (.ireturn, 1) := by decide +kernel
theorem dX5_legend_32 : decode cX5_legend 32 = .ok (.aload_n 0, 1) := by decide +kernel
theorem dX5_legend_33 : decode cX5_legend 33 = .ok (.invokevirtual 178, 3) := by decide +kernel
theorem dX5_legend_36 : decode cX5_legend 36 = .ok (.iconst 0, 1) := by decide +kernel
theorem dX5_legend_37 : decode cX5_legend 37 = .ok (.istore_n 3, 1) := by decide +kernel
theorem dX5_legend_38 : decode cX5_legend 38 = .ok (.sipush 641, 3) := by decide +kernel
theorem dX5_legend_41 : decode cX5_legend 41 = .ok (.istore 4, 2) := by decide +kernel
theorem dX5_legend_43 : decode cX5_legend 43 = .ok (.iconst 0, 1) := by decide +kernel
theorem dX5_legend_44 : decode cX5_legend 44 = .ok (.istore 5, 2) := by decide +kernel
theorem dX5_legend_46 : decode cX5_legend 46 = .ok (.iload 5, 2) := by decide +kernel
theorem dX5_legend_48 : decode cX5_legend 48 = .ok (.iconst 4, 1) := by decide +kernel
theorem dX5_legend_49 : decode cX5_legend 49 = .ok (.if_icmp .ge 78, 3) := by decide +kernel
theorem dX5_legend_52 : decode cX5_legend 52 = .ok (.iload 5, 2) := by decide +kernel
theorem dX5_legend_54 : decode cX5_legend 54 = .ok (.iconst 2, 1) := by decide +kernel
theorem dX5_legend_55 : decode cX5_legend 55 = .ok (.irem, 1) := by decide +kernel
theorem dX5_legend_56 : decode cX5_legend 56 = .ok (.ifCond .ne 7, 3) := by decide +kernel
theorem dX5_legend_59 : decode cX5_legend 59 = .ok (.iconst 0, 1) := by decide +kernel
theorem dX5_legend_60 : decode cX5_legend 60 = .ok (.goto 12, 3) := by decide +kernel
theorem dX5_legend_63 : decode cX5_legend 63 = .ok (.aload_n 0, 1) := by decide +kernel
theorem dX5_legend_64 : decode cX5_legend 64 = .ok (.getfield 12, 3) := by decide +kernel
theorem dX5_legend_67 : decode cX5_legend 67 = .ok (.getfield 213, 3) := by decide +kernel
theorem dX5_legend_70 : decode cX5_legend 70 = .ok (.iload_n 1, 1) := by decide +kernel
theorem dX5_legend_71 : decode cX5_legend 71 = .ok (.isub, 1) := by decide +kernel
theorem dX5_legend_72 : decode cX5_legend 72 = .ok (.istore 6, 2) := by decide +kernel
theorem dX5_legend_74 : decode cX5_legend 74 = .ok (.iload 5, 2) := by decide +kernel
theorem dX5_legend_76 : decode cX5_legend 76 = .ok (.iconst 2, 1) := by decide +kernel
theorem dX5_legend_77 : decode cX5_legend 77 = .ok (.if_icmp .ge 7, 3) := by decide +kernel
theorem dX5_legend_80 : decode cX5_legend 80 = .ok (.iconst 0, 1) := by decide +kernel
theorem dX5_legend_81 : decode cX5_legend 81 = .ok (.goto 12, 3) := by decide +kernel
theorem dX5_legend_84 : decode cX5_legend 84 = .ok (.aload_n 0, 1) := by decide +kernel
theorem dX5_legend_85 : decode cX5_legend 85 = .ok (.getfield 12, 3) := by decide +kernel
theorem dX5_legend_88 : decode cX5_legend 88 = .ok (.getfield 216, 3) := by decide +kernel
theorem dX5_legend_91 : decode cX5_legend 91 = .ok (.iload_n 2, 1) := by decide +kernel
theorem dX5_legend_92 : decode cX5_legend 92 = .ok (.isub, 1) := by decide +kernel
theorem dX5_legend_93 : decode cX5_legend 93 = .ok (.istore 7, 2) := by decide +kernel
theorem dX5_legend_95 : decode cX5_legend 95 = .ok (.aload_n 0, 1) := by decide +kernel
theorem dX5_legend_96 : decode cX5_legend 96 = .ok (.iload 6, 2) := by decide +kernel
theorem dX5_legend_98 : decode cX5_legend 98 = .ok (.iload 7, 2) := by decide +kernel
theorem dX5_legend_100 : decode cX5_legend 100 = .ok (.iload_n 1, 1) := by decide +kernel
theorem dX5_legend_101 : decode cX5_legend 101 = .ok (.iload_n 2, 1) := by decide +kernel
theorem dX5_legend_102 : decode cX5_legend 102 = .ok (.invokevirtual 219, 3) := by decide +kernel
theorem dX5_legend_105 : decode cX5_legend 105 = .ok (.istore 8, 2) := by decide +kernel
theorem dX5_legend_107 : decode cX5_legend 107 = .ok (.iload 8, 2) := by decide +kernel
theorem dX5_legend_109 : decode cX5_legend 109 = .ok (.iload 4, 2) := by decide +kernel
theorem dX5_legend_111 : decode cX5_legend 111 = .ok (.if_icmp .ge 10, 3) := by decide +kernel
theorem dX5_legend_114 : decode cX5_legend 114 = .ok (.iload 8, 2) := by decide +kernel
theorem dX5_legend_116 : decode cX5_legend 116 = .ok (.istore 4, 2) := by decide +kernel
theorem dX5_legend_118 : decode cX5_legend 118 = .ok (.iload 5, 2) := by decide +kernel
theorem dX5_legend_120 : decode cX5_legend 120 = .ok (.istore_n 3, 1) := by decide +kernel
theorem dX5_legend_121 : decode cX5_legend 121 = .ok (.iinc 5 1, 3) := by decide +kernel
theorem dX5_legend_124 : decode cX5_legend 124 = .ok (.goto (-78), 3) := by decide +kernel
theorem dX5_legend_127 : decode cX5_legend 127 = .ok (.iload_n 3, 1) := by decide +kernel
theorem dX5_legend_128 : decode cX5_legend 128 = .ok (.ireturn, 1) := by decide +kernel
set_option maxRecDepth 20000 in
theorem ggX5_told_Jx4a65c_size_8abf5 : GoodIn wsX5_told wsJx4a65c_size_8abf5 := goodIn_r _ [17, 18, 38, 39, 40] (by decide +kernel) (by decide +kernel)
set_option maxRecDepth 20000 in
theorem gX5_told_Jx4a65c_size_8abf5 : GoodIn wsX5_told (wsV RX5 71 RJx4a65c yJx4a65c_size_8abf5 wsJx4a65c_size_8abf5) := goodIn_app (goodIn_of _ (by decide +kernel)) ggX5_told_Jx4a65c_size_8abf5
theorem dX5_told_0 : decode cX5_told 0 = .ok (.iload_n 1, 1) := by decide +kernel
theorem dX5_told_1 : decode cX5_told 1 = .ok (.tableswitch 153 0 9 #[55, 63, 71, 79, 87, 98, 109, 120, 131, 142], 55) := by decide +kernel
theorem dX5_told_56 : decode cX5_told 56 = .ok (.aload_n 0, 1) := by decide +kernel
theorem dX5_told_57 : decode cX5_told 57 = .ok (.getfield 19, 3) := by decide +kernel
theorem dX5_told_60 : decode cX5_told 60 = .ok (.invokevirtual 71, 3) := by decide +kernel
theorem dX5_told_63 : decode cX5_told 63 = .ok (.ireturn, 1) := by decide +kernel
theorem dX5_told_64 : decode cX5_told 64 = .ok (.aload_n 0, 1) := by decide +kernel
theorem dX5_told_65 : decode cX5_told 65 = .ok (.getfield 26, 3) := by decide +kernel
theorem dX5_told_68 : decode cX5_told 68 = .ok (.getfield 38, 3) := by decide +kernel
theorem dX5_told_71 : decode cX5_told 71 = .ok (.ireturn, 1) := by decide +kernel
theorem dX5_told_72 : decode cX5_told 72 = .ok (.aload_n 0, 1) := by decide +kernel
theorem dX5_told_73 : decode cX5_told 73 = .ok (.getfield 12, 3) := by decide +kernel
theorem dX5_told_76 : decode cX5_told 76 = .ok (.getfield 213, 3) := by decide +kernel
theorem dX5_told_79 : decode cX5_told 79 = .ok (.ireturn, 1) := by decide +kernel
theorem dX5_told_80 : decode cX5_told 80 = .ok (.aload_n 0, 1) := by decide +kernel
theorem dX5_told_81 : decode cX5_told 81 = .ok (.getfield 12, 3) := by decide +kernel
theorem dX5_told_84 : decode cX5_told 84 = .ok (.getfield 216, 3) := by decide +kernel
theorem dX5_told_87 : decode cX5_told 87 = .ok (.ireturn, 1) := by decide +kernel
theorem dX5_told_88 : decode cX5_told 88 = .ok (.aload_n 0, 1) := by decide +kernel
theorem dX5_told_89 : decode cX5_told 89 = .ok (.getfield 12, 3) := by decide +kernel
theorem dX5_told_92 : decode cX5_told 92 = .ok (.getfield 263, 3) := by decide +kernel
theorem dX5_told_95 : decode cX5_told 95 = .ok (.getfield 51, 3) := by decide +kernel
theorem dX5_told_98 : decode cX5_told 98 = .ok (.ireturn, 1) := by decide +kernel
theorem dX5_told_99 : decode cX5_told 99 = .ok (.aload_n 0, 1) := by decide +kernel
theorem dX5_told_100 : decode cX5_told 100 = .ok (.getfield 12, 3) := by decide +kernel
theorem dX5_told_103 : decode cX5_told 103 = .ok (.getfield 267, 3) := by decide +kernel
theorem dX5_told_106 : decode cX5_told 106 = .ok (.getfield 51, 3) := by decide +kernel
theorem dX5_told_109 : decode cX5_told 109 = .ok (.ireturn, 1) := by decide +kernel
theorem dX5_told_110 : decode cX5_told 110 = .ok (.aload_n 0, 1) := by decide +kernel
theorem dX5_told_111 : decode cX5_told 111 = .ok (.getfield 12, 3) := by decide +kernel
theorem dX5_told_114 : decode cX5_told 114 = .ok (.getfield 263, 3) := by decide +kernel
theorem dX5_told_117 : decode cX5_told 117 = .ok (.getfield 60, 3) := by decide +kernel
theorem dX5_told_120 : decode cX5_told 120 = .ok (.ireturn, 1) := by decide +kernel
theorem dX5_told_121 : decode cX5_told 121 = .ok (.aload_n 0, 1) := by decide +kernel
theorem dX5_told_122 : decode cX5_told 122 = .ok (.getfield 12, 3) := by decide +kernel
theorem dX5_told_125 : decode cX5_told 125 = .ok (.getfield 267, 3) := by decide +kernel
theorem dX5_told_128 : decode cX5_told 128 = .ok (.getfield 60, 3) := by decide +kernel
theorem dX5_told_131 : decode cX5_told 131 = .ok (.ireturn, 1) := by decide +kernel
theorem dX5_told_132 : decode cX5_told 132 = .ok (.aload_n 0, 1) := by decide +kernel
theorem dX5_told_133 : decode cX5_told 133 = .ok (.getfield 12, 3) := by decide +kernel
theorem dX5_told_136 : decode cX5_told 136 = .ok (.getfield 263, 3) := by decide +kernel
theorem dX5_told_139 : decode cX5_told 139 = .ok (.getfield 63, 3) := by decide +kernel
theorem dX5_told_142 : decode cX5_told 142 = .ok (.ireturn, 1) := by decide +kernel
theorem dX5_told_143 : decode cX5_told 143 = .ok (.aload_n 0, 1) := by decide +kernel
theorem dX5_told_144 : decode cX5_told 144 = .ok (.getfield 12, 3) := by decide +kernel
theorem dX5_told_147 : decode cX5_told 147 = .ok (.getfield 267, 3) := by decide +kernel
theorem dX5_told_150 : decode cX5_told 150 = .ok (.getfield 63, 3) := by decide +kernel
theorem dX5_told_153 : decode cX5_told 153 = .ok (.ireturn, 1) := by decide +kernel
theorem dX5_told_154 : decode cX5_told 154 = .ok (.ldc 99, 2) := by decide +kernel
theorem dX5_told_156 : decode cX5_told 156 = .ok (.ireturn, 1) := by decide +kernel
theorem dX5_within_0 : decode cX5_within 0 = .ok (.iload_n 0, 1) := by decide +kernel
theorem dX5_within_1 : decode cX5_within 1 = .ok (.iload_n 1, 1) := by decide +kernel
theorem dX5_within_2 : decode cX5_within 2 = .ok (.if_icmp .lt 12, 3) := by decide +kernel
theorem dX5_within_5 : decode cX5_within 5 = .ok (.iload_n 0, 1) := by decide +kernel
theorem dX5_within_6 : decode cX5_within 6 = .ok (.iload_n 2, 1) := by decide +kernel
theorem dX5_within_7 : decode cX5_within 7 = .ok (.if_icmp .gt 7, 3) := by decide +kernel
theorem dX5_within_10 : decode cX5_within 10 = .ok (.iconst 1, 1) := by decide +kernel
theorem dX5_within_11 : decode cX5_within 11 = .ok (.goto 4, 3) := by decide +kernel
theorem dX5_within_14 : decode cX5_within 14 = .ok (.iconst 0, 1) := by decide +kernel
theorem dX5_within_15 : decode cX5_within 15 = .ok (.ireturn, 1) := by decide +kernel
set_option maxRecDepth 20000 in
theorem ggX5_isStyle_X5_within : GoodIn wsX5_isStyle wsX5_within := goodIn_r _ [4] (by decide +kernel) (by decide +kernel)
set_option maxRecDepth 20000 in
theorem gX5_isStyle_X5_within : GoodIn wsX5_isStyle (va_wsS RX5 30 yX5_within wsX5_within) := goodIn_app (goodIn_of _ (by decide +kernel)) ggX5_isStyle_X5_within
theorem dX5_isStyle_0 : decode cX5_isStyle 0 = .ok (.iload_n 0, 1) := by decide +kernel
theorem dX5_isStyle_1 : decode cX5_isStyle 1 = .ok (.tableswitch 51 0 2 #[27, 34, 42], 27) := by decide +kernel
theorem dX5_isStyle_28 : decode cX5_isStyle 28 = .ok (.iload_n 1, 1) := by decide +kernel
theorem dX5_isStyle_29 : decode cX5_isStyle 29 = .ok (.iconst 0, 1) := by decide +kernel
theorem dX5_isStyle_30 : decode cX5_isStyle 30 = .ok (.iconst 4, 1) := by decide +kernel
theorem dX5_isStyle_31 : decode cX5_isStyle 31 = .ok (.invokestatic 30, 3) := by decide +kernel
theorem dX5_isStyle_34 : decode cX5_isStyle 34 = .ok (.ireturn, 1) := by decide +kernel
theorem dX5_isStyle_35 : decode cX5_isStyle 35 = .ok (.iload_n 1, 1) := by decide +kernel
theorem dX5_isStyle_36 : decode cX5_isStyle 36 = .ok (.iconst 0, 1) := by decide +kernel
theorem dX5_isStyle_37 : decode cX5_isStyle 37 = .ok (.bipush 9, 2) := by decide +kernel
theorem dX5_isStyle_39 : decode cX5_isStyle 39 = .ok (.invokestatic 30, 3) := by decide +kernel
theorem dX5_isStyle_42 : decode cX5_isStyle 42 = .ok (.ireturn, 1) := by decide +kernel
theorem dX5_isStyle_43 : decode cX5_isStyle 43 = .ok (.iload_n 1, 1) := by decide +kernel
theorem dX5_isStyle_44 : decode cX5_isStyle 44 = .ok (.bipush 33, 2) := by decide +kernel
theorem dX5_isStyle_46 : decode cX5_isStyle 46 = .ok (.bipush 126, 2) := by decide +kernel
theorem dX5_isStyle_48 : decode cX5_isStyle 48 = .ok (.invokestatic 30, 3) := by decide +kernel
theorem dX5_isStyle_51 : decode cX5_isStyle 51 = .ok (.ireturn, 1) := by decide +kernel
theorem dX5_isStyle_52 : decode cX5_isStyle 52 = .ok (.iconst 0, 1) := by decide +kernel
theorem dX5_isStyle_53 : decode cX5_isStyle 53 = .ok (.ireturn, 1) := by decide +kernel
set_option maxRecDepth 20000 in
theorem ggX5_seriesOf_Jx4a65c_size_8abf5 : GoodIn wsX5_seriesOf wsJx4a65c_size_8abf5 := goodIn_r _ [7, 8, 29, 30, 31] (by decide +kernel) (by decide +kernel)
set_option maxRecDepth 20000 in
theorem gX5_seriesOf_Jx4a65c_size_8abf5 : GoodIn wsX5_seriesOf (wsV RX5 71 RJx4a65c yJx4a65c_size_8abf5 wsJx4a65c_size_8abf5) := goodIn_app (goodIn_of _ (by decide +kernel)) ggX5_seriesOf_Jx4a65c_size_8abf5
set_option maxRecDepth 20000 in
theorem ggX5_seriesOf_Jx4a65c_get_915e3 : GoodIn wsX5_seriesOf wsJx4a65c_get_915e3 := goodIn_r _ [12, 8, 13, 14, 15, 16, 17, 18, 19, 20, 21, 22, 23, 6, 24, 25, 29, 30, 31] (by decide +kernel) (by decide +kernel)
set_option maxRecDepth 20000 in
theorem gX5_seriesOf_Jx4a65c_get_915e3 : GoodIn wsX5_seriesOf (wsV RX5 74 RJx4a65c yJx4a65c_get_915e3 wsJx4a65c_get_915e3) := goodIn_app (goodIn_of _ (by decide +kernel)) ggX5_seriesOf_Jx4a65c_get_915e3
theorem dX5_seriesOf_0 : decode cX5_seriesOf 0 = .ok (.iload_n 1, 1) := by decide +kernel
theorem dX5_seriesOf_1 : decode cX5_seriesOf 1 = .ok (.ifCond .lt 28, 3) := by decide +kernel
theorem dX5_seriesOf_4 : decode cX5_seriesOf 4 = .ok (.iload_n 1, 1) := by decide +kernel
theorem dX5_seriesOf_5 : decode cX5_seriesOf 5 = .ok (.aload_n 0, 1) := by decide +kernel
theorem dX5_seriesOf_6 : decode cX5_seriesOf 6 = .ok (.getfield 19, 3) := by decide +kernel
theorem dX5_seriesOf_9 : decode cX5_seriesOf 9 = .ok (.invokevirtual 71, 3) := by decide +kernel
theorem dX5_seriesOf_12 : decode cX5_seriesOf 12 = .ok (.if_icmp .ge 17, 3) := by decide +kernel
theorem dX5_seriesOf_15 : decode cX5_seriesOf 15 = .ok (.aload_n 0, 1) := by decide +kernel
theorem dX5_seriesOf_16 : decode cX5_seriesOf 16 = .ok (.getfield 19, 3) := by decide +kernel
theorem dX5_seriesOf_19 : decode cX5_seriesOf 19 = .ok (.iload_n 1, 1) := by decide +kernel
theorem dX5_seriesOf_20 : decode cX5_seriesOf 20 = .ok (.invokevirtual 74, 3) := by decide +kernel
theorem dX5_seriesOf_23 : decode cX5_seriesOf 23 = .ok (.checkcast 78, 3) := by decide +kernel
theorem dX5_seriesOf_26 : decode cX5_seriesOf 26 = .ok (.goto 4, 3) := by decide +kernel
theorem dX5_seriesOf_29 : decode cX5_seriesOf 29 = .ok (.aconst_null, 1) := by decide +kernel
theorem dX5_seriesOf_30 : decode cX5_seriesOf 30 = .ok (.areturn, 1) := by decide +kernel
set_option maxRecDepth 20000 in
theorem ggX5_markAllStale_Jx4a65c_size_8abf5 : GoodIn wsX5_markAllStale wsJx4a65c_size_8abf5 := goodIn_r _ [8, 9, 41, 42, 43] (by decide +kernel) (by decide +kernel)
set_option maxRecDepth 20000 in
theorem gX5_markAllStale_Jx4a65c_size_8abf5 : GoodIn wsX5_markAllStale (wsV RX5 71 RJx4a65c yJx4a65c_size_8abf5 wsJx4a65c_size_8abf5) := goodIn_app (goodIn_of _ (by decide +kernel)) ggX5_markAllStale_Jx4a65c_size_8abf5
set_option maxRecDepth 20000 in
theorem ggX5_markAllStale_Jx4a65c_get_915e3 : GoodIn wsX5_markAllStale wsJx4a65c_get_915e3 := goodIn_r _ [13, 9, 14, 15, 16, 17, 18, 19, 20, 21, 22, 23, 24, 7, 25, 26, 41, 42, 43] (by decide +kernel) (by decide +kernel)
set_option maxRecDepth 20000 in
theorem gX5_markAllStale_Jx4a65c_get_915e3 : GoodIn wsX5_markAllStale (wsV RX5 74 RJx4a65c yJx4a65c_get_915e3 wsJx4a65c_get_915e3) := goodIn_app (goodIn_of _ (by decide +kernel)) ggX5_markAllStale_Jx4a65c_get_915e3
theorem dX5_markAllStale_0 : decode cX5_markAllStale 0 = .ok (.iconst 0, 1) := by decide +kernel
theorem dX5_markAllStale_1 : decode cX5_markAllStale 1 = .ok (.istore_n 1, 1) := by decide +kernel
theorem dX5_markAllStale_2 : decode cX5_markAllStale 2 = .ok (.iload_n 1, 1) := by decide +kernel
theorem dX5_markAllStale_3 : decode cX5_markAllStale 3 = .ok (.aload_n 0, 1) := by decide +kernel
theorem dX5_markAllStale_4 : decode cX5_markAllStale 4 = .ok (.getfield 19, 3) := by decide +kernel
theorem dX5_markAllStale_7 : decode cX5_markAllStale 7 = .ok (.invokevirtual 71, 3) := by decide +kernel
theorem dX5_markAllStale_10 : decode cX5_markAllStale 10 = .ok (.if_icmp .ge 24, 3) := by decide +kernel
theorem dX5_markAllStale_13 : decode cX5_markAllStale 13 = .ok (.aload_n 0, 1) := by decide +kernel
theorem dX5_markAllStale_14 : decode cX5_markAllStale 14 = .ok (.getfield 19, 3) := by decide +kernel
theorem dX5_markAllStale_17 : decode cX5_markAllStale 17 = .ok (.iload_n 1, 1) := by decide +kernel
theorem dX5_markAllStale_18 : decode cX5_markAllStale 18 = .ok (.invokevirtual 74, 3) := by decide +kernel
theorem dX5_markAllStale_21 : decode cX5_markAllStale 21 = .ok (.checkcast 78, 3) := by decide +kernel
theorem dX5_markAllStale_24 : decode cX5_markAllStale 24 = .ok (.iconst 1, 1) := by decide +kernel
theorem dX5_markAllStale_25 : decode cX5_markAllStale 25 = .ok (.putfield 270, 3) := by decide +kernel
theorem dX5_markAllStale_28 : decode cX5_markAllStale 28 = .ok (.iinc 1 1, 3) := by decide +kernel
theorem dX5_markAllStale_31 : decode cX5_markAllStale 31 = .ok (.goto (-29), 3) := by decide +kernel
theorem dX5_markAllStale_34 : decode cX5_markAllStale 34 = .ok (.return_, 1) := by decide +kernel
set_option maxRecDepth 20000 in
theorem ggX5_drawStale_Jx4a65c_size_8abf5 : GoodIn wsX5_drawStale wsJx4a65c_size_8abf5 := goodIn_r _ [7, 8, 154, 155, 156] (by decide +kernel) (by decide +kernel)
set_option maxRecDepth 20000 in
theorem gX5_drawStale_Jx4a65c_size_8abf5 : GoodIn wsX5_drawStale (wsV RX5 71 RJx4a65c yJx4a65c_size_8abf5 wsJx4a65c_size_8abf5) := goodIn_app (goodIn_of _ (by decide +kernel)) ggX5_drawStale_Jx4a65c_size_8abf5
set_option maxRecDepth 20000 in
theorem ggX5_drawStale_Jx4a65c_get_915e3 : GoodIn wsX5_drawStale wsJx4a65c_get_915e3 := goodIn_r _ [12, 8, 13, 14, 15, 16, 17, 18, 19, 20, 21, 22, 23, 6, 24, 25, 154, 155, 156] (by decide +kernel) (by decide +kernel)
set_option maxRecDepth 20000 in
theorem gX5_drawStale_Jx4a65c_get_915e3 : GoodIn wsX5_drawStale (wsV RX5 74 RJx4a65c yJx4a65c_get_915e3 wsJx4a65c_get_915e3) := goodIn_app (goodIn_of _ (by decide +kernel)) ggX5_drawStale_Jx4a65c_get_915e3
set_option maxRecDepth 20000 in
theorem ggX5_drawStale_X3_drawIfStale : GoodIn wsX5_drawStale wsX3_drawIfStale := goodIn_r _ [30, 31, 32, 33, 34, 35, 36, 37, 38, 39, 40, 41, 42, 43, 44, 45, 46, 47, 29, 48, 49, 50, 51, 52, 53, 54, 55, 56, 57, 58, 59, 60, 61, 62, 63, 64, 65, 66, 67, 68, 69, 70, 71, 72, 73, 74, 75, 76, 77, 78, 79, 80, 81, 82, 83, 84, 85, 86, 87, 88, 89, 90, 91, 92, 93, 94, 95, 96, 97, 98, 99, 100, 101, 102, 103, 104, 105, 106, 107, 108, 109, 110, 111, 112, 113, 114, 115, 116, 117, 118, 119, 120, 121, 122, 123, 124, 125, 126, 127, 128, 129, 130, 131, 132, 133, 134, 135, 136, 137, 138, 139, 140, 141, 142, 143, 144, 145, 146, 147, 148, 149, 150, 157, 158, 159, 160, 161, 162, 163, 164, 165, 166, 167, 168, 169, 170, 171, 172, 173, 174, 175, 176, 177, 178, 179, 180] (by decide +kernel) (by decide +kernel)
set_option maxRecDepth 20000 in
theorem gX5_drawStale_X3_drawIfStale : GoodIn wsX5_drawStale (wsV RX5 274 RX3 yX3_drawIfStale wsX3_drawIfStale) := goodIn_app (goodIn_of _ (by decide +kernel)) ggX5_drawStale_X3_drawIfStale
theorem dX5_drawStale_0 : decode cX5_drawStale 0 = .ok (.iconst 0, 1) := by decide +kernel
theorem dX5_drawStale_1 : decode cX5_drawStale 1 = .ok (.istore_n 1, 1) := by decide +kernel
theorem dX5_drawStale_2 : decode cX5_drawStale 2 = .ok (.iload_n 1, 1) := by decide +kernel
theorem dX5_drawStale_3 : decode cX5_drawStale 3 = .ok (.aload_n 0, 1) := by decide +kernel
theorem dX5_drawStale_4 : decode cX5_drawStale 4 = .ok (.getfield 19, 3) := by decide +kernel
theorem dX5_drawStale_7 : decode cX5_drawStale 7 = .ok (.invokevirtual 71, 3) := by decide +kernel
theorem dX5_drawStale_10 : decode cX5_drawStale 10 = .ok (.if_icmp .ge 23, 3) := by decide +kernel
theorem dX5_drawStale_13 : decode cX5_drawStale 13 = .ok (.aload_n 0, 1) := by decide +kernel
theorem dX5_drawStale_14 : decode cX5_drawStale 14 = .ok (.getfield 19, 3) := by decide +kernel
theorem dX5_drawStale_17 : decode cX5_drawStale 17 = .ok (.iload_n 1, 1) := by decide +kernel
theorem dX5_drawStale_18 : decode cX5_drawStale 18 = .ok (.invokevirtual 74, 3) := by decide +kernel
theorem dX5_drawStale_21 : decode cX5_drawStale 21 = .ok (.checkcast 78, 3) := by decide +kernel
theorem dX5_drawStale_24 : decode cX5_drawStale 24 = .ok (.invokevirtual 274, 3) := by decide +kernel
theorem dX5_drawStale_27 : decode cX5_drawStale 27 = .ok (.iinc 1 1, 3) := by decide +kernel
theorem dX5_drawStale_30 : decode cX5_drawStale 30 = .ok (.goto (-28), 3) := by decide +kernel
theorem dX5_drawStale_33 : decode cX5_drawStale 33 = .ok (.return_, 1) := by decide +kernel
set_option maxRecDepth 20000 in
theorem ggX5_latestIn_Jx4a65c_size_8abf5 : GoodIn wsX5_latestIn wsJx4a65c_size_8abf5 := goodIn_r _ [9, 10, 48, 49, 50] (by decide +kernel) (by decide +kernel)
set_option maxRecDepth 20000 in
theorem gX5_latestIn_Jx4a65c_size_8abf5 : GoodIn wsX5_latestIn (wsV RX5 71 RJx4a65c yJx4a65c_size_8abf5 wsJx4a65c_size_8abf5) := goodIn_app (goodIn_of _ (by decide +kernel)) ggX5_latestIn_Jx4a65c_size_8abf5
set_option maxRecDepth 20000 in
theorem ggX5_latestIn_Jx4a65c_get_915e3 : GoodIn wsX5_latestIn wsJx4a65c_get_915e3 := goodIn_r _ [14, 10, 15, 16, 17, 18, 19, 20, 21, 22, 23, 24, 25, 8, 26, 27, 48, 49, 50] (by decide +kernel) (by decide +kernel)
set_option maxRecDepth 20000 in
theorem gX5_latestIn_Jx4a65c_get_915e3 : GoodIn wsX5_latestIn (wsV RX5 74 RJx4a65c yJx4a65c_get_915e3 wsJx4a65c_get_915e3) := goodIn_app (goodIn_of _ (by decide +kernel)) ggX5_latestIn_Jx4a65c_get_915e3
set_option maxRecDepth 20000 in
theorem ggX5_latestIn_X4_hitsIn : GoodIn wsX5_latestIn wsX4_hitsIn := goodIn_r _ [32, 33, 51, 52, 53] (by decide +kernel) (by decide +kernel)
set_option maxRecDepth 20000 in
theorem gX5_latestIn_X4_hitsIn : GoodIn wsX5_latestIn (wsV RX5 200 RX4 yX4_hitsIn wsX4_hitsIn) := goodIn_app (goodIn_of _ (by decide +kernel)) ggX5_latestIn_X4_hitsIn
theorem dX5_latestIn_0 : decode cX5_latestIn 0 = .ok (.bipush (-9), 2) := by decide +kernel
theorem dX5_latestIn_2 : decode cX5_latestIn 2 = .ok (.istore_n 2, 1) := by decide +kernel
theorem dX5_latestIn_3 : decode cX5_latestIn 3 = .ok (.iconst 0, 1) := by decide +kernel
theorem dX5_latestIn_4 : decode cX5_latestIn 4 = .ok (.istore_n 3, 1) := by decide +kernel
theorem dX5_latestIn_5 : decode cX5_latestIn 5 = .ok (.iconst 0, 1) := by decide +kernel
theorem dX5_latestIn_6 : decode cX5_latestIn 6 = .ok (.istore 4, 2) := by decide +kernel
theorem dX5_latestIn_8 : decode cX5_latestIn 8 = .ok (.iload 4, 2) := by decide +kernel
theorem dX5_latestIn_10 : decode cX5_latestIn 10 = .ok (.aload_n 0, 1) := by decide +kernel
theorem dX5_latestIn_11 : decode cX5_latestIn 11 = .ok (.getfield 19, 3) := by decide +kernel
theorem dX5_latestIn_14 : decode cX5_latestIn 14 = .ok (.invokevirtual 71, 3) := by decide +kernel
theorem dX5_latestIn_17 : decode cX5_latestIn 17 = .ok (.if_icmp .ge 53, 3) := by decide +kernel
theorem dX5_latestIn_20 : decode cX5_latestIn 20 = .ok (.aload_n 0, 1) := by decide +kernel
theorem dX5_latestIn_21 : decode cX5_latestIn 21 = .ok (.getfield 19, 3) := by decide +kernel
theorem dX5_latestIn_24 : decode cX5_latestIn 24 = .ok (.iload 4, 2) := by decide +kernel
theorem dX5_latestIn_26 : decode cX5_latestIn 26 = .ok (.invokevirtual 74, 3) := by decide +kernel
theorem dX5_latestIn_29 : decode cX5_latestIn 29 = .ok (.checkcast 78, 3) := by decide +kernel
theorem dX5_latestIn_32 : decode cX5_latestIn 32 = .ok (.astore 5, 2) := by decide +kernel
theorem dX5_latestIn_34 : decode cX5_latestIn 34 = .ok (.aload 5, 2) := by decide +kernel
theorem dX5_latestIn_36 : decode cX5_latestIn 36 = .ok (.getfield 193, 3) := by decide +kernel
theorem dX5_latestIn_39 : decode cX5_latestIn 39 = .ok (.iload_n 3, 1) := by decide +kernel
theorem dX5_latestIn_40 : decode cX5_latestIn 40 = .ok (.if_icmp .lt 24, 3) := by decide +kernel
theorem dX5_latestIn_43 : decode cX5_latestIn 43 = .ok (.aload 5, 2) := by decide +kernel
theorem dX5_latestIn_45 : decode cX5_latestIn 45 = .ok (.getfield 196, 3) := by decide +kernel
theorem dX5_latestIn_48 : decode cX5_latestIn 48 = .ok (.iload_n 1, 1) := by decide +kernel
theorem dX5_latestIn_49 : decode cX5_latestIn 49 = .ok (.invokevirtual 200, 3) := by decide +kernel
theorem dX5_latestIn_52 : decode cX5_latestIn 52 = .ok (.ifCond .eq 12, 3) := by decide +kernel
theorem dX5_latestIn_55 : decode cX5_latestIn 55 = .ok (.iload 4, 2) := by decide +kernel
theorem dX5_latestIn_57 : decode cX5_latestIn 57 = .ok (.istore_n 2, 1) := by decide +kernel
theorem dX5_latestIn_58 : decode cX5_latestIn 58 = .ok (.aload 5, 2) := by decide +kernel
theorem dX5_latestIn_60 : decode cX5_latestIn 60 = .ok (.getfield 193, 3) := by decide +kernel
theorem dX5_latestIn_63 : decode cX5_latestIn 63 = .ok (.istore_n 3, 1) := by decide +kernel
theorem dX5_latestIn_64 : decode cX5_latestIn 64 = .ok (.iinc 4 1, 3) := by decide +kernel
theorem dX5_latestIn_67 : decode cX5_latestIn 67 = .ok (.goto (-59), 3) := by decide +kernel
theorem dX5_latestIn_70 : decode cX5_latestIn 70 = .ok (.iload_n 2, 1) := by decide +kernel
theorem dX5_latestIn_71 : decode cX5_latestIn 71 = .ok (.ireturn, 1) := by decide +kernel
set_option maxRecDepth 20000 in
theorem ggX5_signOf_X0_covering : GoodIn wsX5_signOf wsX0_covering := goodIn_r _ [7, 8, 9, 10, 11, 76, 77, 78, 79, 80, 81] (by decide +kernel) (by decide +kernel)
set_option maxRecDepth 20000 in
theorem gX5_signOf_X0_covering : GoodIn wsX5_signOf (wsV RX5 184 RX0 yX0_covering wsX0_covering) := goodIn_app (goodIn_of _ (by decide +kernel)) ggX5_signOf_X0_covering
set_option maxRecDepth 20000 in
theorem ggX5_signOf_X1_cellAt : GoodIn wsX5_signOf wsX1_cellAt := goodIn_r _ [16, 17, 82, 83, 84, 85] (by decide +kernel) (by decide +kernel)
set_option maxRecDepth 20000 in
theorem gX5_signOf_X1_cellAt : GoodIn wsX5_signOf (wsV RX5 187 RX1 yX1_cellAt wsX1_cellAt) := goodIn_app (goodIn_of _ (by decide +kernel)) ggX5_signOf_X1_cellAt
set_option maxRecDepth 20000 in
theorem ggX5_signOf_X5_latestIn : GoodIn wsX5_signOf wsX5_latestIn := goodIn_r _ [22, 23, 24, 25, 26, 27, 28, 29, 30, 31, 32, 33, 34, 35, 36, 37, 38, 39, 40, 41, 42, 43, 44, 45, 46, 47, 48, 49, 50, 51, 52, 53, 54, 55, 73, 74, 75, 86, 87, 88, 89, 90, 91, 92, 93, 94, 95, 96, 97, 98, 99, 100, 101, 102] (by decide +kernel) (by decide +kernel)
set_option maxRecDepth 20000 in
theorem gX5_signOf_X5_latestIn : GoodIn wsX5_signOf (wsV RX5 190 RX5 yX5_latestIn wsX5_latestIn) := goodIn_app (goodIn_of _ (by decide +kernel)) ggX5_signOf_X5_latestIn
set_option maxRecDepth 20000 in
theorem ggX5_signOf_X5_seriesOf : GoodIn wsX5_signOf wsX5_seriesOf := goodIn_r _ [59, 23, 24, 27, 28, 29, 30, 31, 32, 33, 34, 35, 36, 37, 38, 39, 40, 41, 42, 43, 44, 45, 46, 47, 48, 49, 73, 74, 75, 97, 98, 99] (by decide +kernel) (by decide +kernel)
set_option maxRecDepth 20000 in
theorem gX5_signOf_X5_seriesOf : GoodIn wsX5_signOf (wsV RX5 120 RX5 yX5_seriesOf wsX5_seriesOf) := goodIn_app (goodIn_of _ (by decide +kernel)) ggX5_signOf_X5_seriesOf
set_option maxRecDepth 20000 in
theorem ggX5_signOf_X3_signIn : GoodIn wsX5_signOf wsX3_signIn := goodIn_r _ [64, 65, 66, 67, 68, 69, 70, 53, 71, 72, 86, 87, 88, 89, 90, 91, 92, 93, 94, 95, 96, 100, 101, 102] (by decide +kernel) (by decide +kernel)
set_option maxRecDepth 20000 in
theorem gX5_signOf_X3_signIn : GoodIn wsX5_signOf (wsV RX5 277 RX3 yX3_signIn wsX3_signIn) := goodIn_app (goodIn_of _ (by decide +kernel)) ggX5_signOf_X3_signIn
theorem dX5_signOf_0 : decode cX5_signOf 0 = .ok (.aload_n 0, 1) := by decide +kernel
theorem dX5_signOf_1 : decode cX5_signOf 1 = .ok (.getfield 26, 3) := by decide +kernel
theorem dX5_signOf_4 : decode cX5_signOf 4 = .ok (.iload_n 1, 1) := by decide +kernel
theorem dX5_signOf_5 : decode cX5_signOf 5 = .ok (.iload_n 2, 1) := by decide +kernel
theorem dX5_signOf_6 : decode cX5_signOf 6 = .ok (.invokevirtual 184, 3) := by decide +kernel
theorem dX5_signOf_9 : decode cX5_signOf 9 = .ok (.istore_n 3, 1) := by decide +kernel
theorem dX5_signOf_10 : decode cX5_signOf 10 = .ok (.iload_n 3, 1) := by decide +kernel
theorem dX5_signOf_11 : decode cX5_signOf 11 = .ok (.bipush (-9), 2) := by decide +kernel
theorem dX5_signOf_13 : decode cX5_signOf 13 = .ok (.if_icmp .eq 9, 3) := by decide +kernel
theorem dX5_signOf_16 : decode cX5_signOf 16 = .ok (.sipush 8192, 3) := by decide +kernel
theorem dX5_signOf_19 : decode cX5_signOf 19 = .ok (.iload_n 3, 1) := by decide +kernel
theorem dX5_signOf_20 : decode cX5_signOf 20 = .ok (.iadd, 1) := by decide +kernel
theorem dX5_signOf_21 : decode cX5_signOf 21 = .ok (.ireturn, 1) := by decide +kernel
theorem dX5_signOf_22 : decode cX5_signOf 22 = .ok (.aload_n 0, 1) := by decide +kernel
theorem dX5_signOf_23 : decode cX5_signOf 23 = .ok (.getfield 12, 3) := by decide +kernel
theorem dX5_signOf_26 : decode cX5_signOf 26 = .ok (.iload_n 1, 1) := by decide +kernel
theorem dX5_signOf_27 : decode cX5_signOf 27 = .ok (.iload_n 2, 1) := by decide +kernel
theorem dX5_signOf_28 : decode cX5_signOf 28 = .ok (.invokevirtual 187, 3) := by decide +kernel
theorem dX5_signOf_31 : decode cX5_signOf 31 = .ok (.istore 4, 2) := by decide +kernel
theorem dX5_signOf_33 : decode cX5_signOf 33 = .ok (.aload_n 0, 1) := by decide +kernel
theorem dX5_signOf_34 : decode cX5_signOf 34 = .ok (.aload_n 0, 1) := by decide +kernel
theorem dX5_signOf_35 : decode cX5_signOf 35 = .ok (.iload 4, 2) := by decide +kernel
theorem dX5_signOf_37 : decode cX5_signOf 37 = .ok (.invokevirtual 190, 3) := by decide +kernel
theorem dX5_signOf_40 : decode cX5_signOf 40 = .ok (.invokevirtual 120, 3) := by decide +kernel
theorem dX5_signOf_43 : decode cX5_signOf 43 = .ok (.astore 5, 2) := by decide +kernel
theorem dX5_signOf_45 : decode cX5_signOf 45 = .ok (.aload 5, 2) := by decide +kernel
theorem dX5_signOf_47 : decode cX5_signOf 47 = .ok (.ifnonnull 8, 3) := by decide +kernel
theorem dX5_signOf_50 : decode cX5_signOf 50 = .ok (.bipush 32, 2) := by decide +kernel
theorem dX5_signOf_52 : decode cX5_signOf 52 = .ok (.goto 10, 3) := by decide +kernel
theorem dX5_signOf_55 : decode cX5_signOf 55 = .ok (.aload 5, 2) := by decide +kernel
theorem dX5_signOf_57 : decode cX5_signOf 57 = .ok (.iload 4, 2) := by decide +kernel
theorem dX5_signOf_59 : decode cX5_signOf 59 = .ok (.invokevirtual 277, 3) := by decide +kernel
theorem dX5_signOf_62 : decode cX5_signOf 62 = .ok (.ireturn, 1) := by decide +kernel
set_option maxRecDepth 20000 in
theorem ggX5_isCovered_X0_covering : GoodIn wsX5_isCovered wsX0_covering := goodIn_r _ [7, 8, 9, 10, 11, 59, 60, 61, 62, 63, 64] (by decide +kernel) (by decide +kernel)
set_option maxRecDepth 20000 in
theorem gX5_isCovered_X0_covering : GoodIn wsX5_isCovered (wsV RX5 184 RX0 yX0_covering wsX0_covering) := goodIn_app (goodIn_of _ (by decide +kernel)) ggX5_isCovered_X0_covering
set_option maxRecDepth 20000 in
theorem ggX5_isCovered_X1_cellAt : GoodIn wsX5_isCovered wsX1_cellAt := goodIn_r _ [16, 17, 65, 66, 67, 68] (by decide +kernel) (by decide +kernel)
set_option maxRecDepth 20000 in
theorem gX5_isCovered_X1_cellAt : GoodIn wsX5_isCovered (wsV RX5 187 RX1 yX1_cellAt wsX1_cellAt) := goodIn_app (goodIn_of _ (by decide +kernel)) ggX5_isCovered_X1_cellAt
set_option maxRecDepth 20000 in
theorem ggX5_isCovered_X5_latestIn : GoodIn wsX5_isCovered wsX5_latestIn := goodIn_r _ [22, 23, 24, 25, 26, 27, 28, 29, 30, 31, 32, 33, 34, 35, 36, 37, 38, 39, 40, 41, 42, 43, 44, 45, 46, 47, 48, 49, 50, 51, 52, 53, 54, 55, 56, 57, 58, 69, 70, 71, 72, 73, 74, 75, 76, 77, 78, 79, 80, 81, 82, 83, 84, 85] (by decide +kernel) (by decide +kernel)
set_option maxRecDepth 20000 in
theorem gX5_isCovered_X5_latestIn : GoodIn wsX5_isCovered (wsV RX5 190 RX5 yX5_latestIn wsX5_latestIn) := goodIn_app (goodIn_of _ (by decide +kernel)) ggX5_isCovered_X5_latestIn
theorem dX5_isCovered_0 : decode cX5_isCovered 0 = .ok (.aload_n 0, 1) := by decide +kernel
theorem dX5_isCovered_1 : decode cX5_isCovered 1 = .ok (.getfield 26, 3) := by decide +kernel
theorem dX5_isCovered_4 : decode cX5_isCovered 4 = .ok (.iload_n 1, 1) := by decide +kernel
theorem dX5_isCovered_5 : decode cX5_isCovered 5 = .ok (.iload_n 2, 1) := by decide +kernel
theorem dX5_isCovered_6 : decode cX5_isCovered 6 = .ok (.invokevirtual 184, 3) := by decide +kernel
theorem dX5_isCovered_9 : decode cX5_isCovered 9 = .ok (.bipush (-9), 2) := by decide +kernel
theorem dX5_isCovered_11 : decode cX5_isCovered 11 = .ok (.if_icmp .ne 21, 3) := by decide +kernel
theorem dX5_isCovered_14 : decode cX5_isCovered 14 = .ok (.aload_n 0, 1) := by decide +kernel
theorem dX5_isCovered_15 : decode cX5_isCovered 15 = .ok (.aload_n 0, 1) := by decide +kernel
theorem dX5_isCovered_16 : decode cX5_isCovered 16 = .ok (.getfield 12, 3) := by decide +kernel
theorem dX5_isCovered_19 : decode cX5_isCovered 19 = .ok (.iload_n 1, 1) := by decide +kernel
theorem dX5_isCovered_20 : decode cX5_isCovered 20 = .ok (.iload_n 2, 1) := by decide +kernel
theorem dX5_isCovered_21 : decode cX5_isCovered 21 = .ok (.invokevirtual 187, 3) := by decide +kernel
theorem dX5_isCovered_24 : decode cX5_isCovered 24 = .ok (.invokevirtual 190, 3) := by decide +kernel
theorem dX5_isCovered_27 : decode cX5_isCovered 27 = .ok (.bipush (-9), 2) := by decide +kernel
theorem dX5_isCovered_29 : decode cX5_isCovered 29 = .ok (.if_icmp .eq 7, 3) := by decide +kernel
theorem dX5_isCovered_32 : decode cX5_isCovered 32 = .ok (.iconst 1, 1) := by decide +kernel
theorem dX5_isCovered_33 : decode cX5_isCovered 33 = .ok (.goto 4, 3) := by decide +kernel
theorem dX5_isCovered_36 : decode cX5_isCovered 36 = .ok (.iconst 0, 1) := by decide +kernel
theorem dX5_isCovered_37 : decode cX5_isCovered 37 = .ok (.ireturn, 1) := by decide +kernel
set_option maxRecDepth 20000 in
theorem ggX5_coveredWithin_X5_isCovered : GoodIn wsX5_coveredWithin wsX5_isCovered := goodIn_r _ [5, 6, 7, 8, 9, 10, 11, 12, 13, 14, 15, 16, 17, 18, 19, 20, 21, 22, 23, 24, 25, 4, 26, 27, 28, 29, 30, 31, 32, 33, 34, 35, 36, 37, 38, 39, 40, 41, 42, 43, 44, 45, 46, 47, 48, 49, 50, 51, 52, 53, 54, 55, 56, 57, 58, 59, 60, 61, 62, 63, 64, 65, 66, 67, 68, 69, 70, 71, 72, 73, 74, 75, 76, 77, 78, 79, 80, 81, 82, 83, 84, 85, 86, 87, 88, 89] (by decide +kernel) (by decide +kernel)
set_option maxRecDepth 20000 in
theorem gX5_coveredWithin_X5_isCovered : GoodIn wsX5_coveredWithin (wsV RX5 280 RX5 yX5_isCovered wsX5_isCovered) := goodIn_app (goodIn_of _ (by decide +kernel)) ggX5_coveredWithin_X5_isCovered
theorem dX5_coveredWithin_0 : decode cX5_coveredWithin 0 = .ok (.iconst 0, 1) := by decide +kernel
theorem dX5_coveredWithin_1 : decode cX5_coveredWithin 1 = .ok (.istore 5, 2) := by decide +kernel
theorem dX5_coveredWithin_3 : decode cX5_coveredWithin 3 = .ok (.iload_n 2, 1) := by decide +kernel
theorem dX5_coveredWithin_4 : decode cX5_coveredWithin 4 = .ok (.istore 6, 2) := by decide +kernel
theorem dX5_coveredWithin_6 : decode cX5_coveredWithin 6 = .ok (.iload 6, 2) := by decide +kernel
theorem dX5_coveredWithin_8 : decode cX5_coveredWithin 8 = .ok (.iload_n 2, 1) := by decide +kernel
theorem dX5_coveredWithin_9 : decode cX5_coveredWithin 9 = .ok (.iload 4, 2) := by decide +kernel
theorem dX5_coveredWithin_11 : decode cX5_coveredWithin 11 = .ok (.iadd, 1) := by decide +kernel
theorem dX5_coveredWithin_12 : decode cX5_coveredWithin 12 = .ok (.if_icmp .ge 40, 3) := by decide +kernel
theorem dX5_coveredWithin_15 : decode cX5_coveredWithin 15 = .ok (.iload_n 1, 1) := by decide +kernel
theorem dX5_coveredWithin_16 : decode cX5_coveredWithin 16 = .ok (.istore 7, 2) := by decide +kernel
theorem dX5_coveredWithin_18 : decode cX5_coveredWithin 18 = .ok (.iload 7, 2) := by decide +kernel
theorem dX5_coveredWithin_20 : decode cX5_coveredWithin 20 = .ok (.iload_n 1, 1) := by decide +kernel
theorem dX5_coveredWithin_21 : decode cX5_coveredWithin 21 = .ok (.iload_n 3, 1) := by decide +kernel
theorem dX5_coveredWithin_22 : decode cX5_coveredWithin 22 = .ok (.iadd, 1) := by decide +kernel
theorem dX5_coveredWithin_23 : decode cX5_coveredWithin 23 = .ok (.if_icmp .ge 23, 3) := by decide +kernel
theorem dX5_coveredWithin_26 : decode cX5_coveredWithin 26 = .ok (.aload_n 0, 1) := by decide +kernel
theorem dX5_coveredWithin_27 : decode cX5_coveredWithin 27 = .ok (.iload 7, 2) := by decide +kernel
theorem dX5_coveredWithin_29 : decode cX5_coveredWithin 29 = .ok (.iload 6, 2) := by decide +kernel
theorem dX5_coveredWithin_31 : decode cX5_coveredWithin 31 = .ok (.invokevirtual 280, 3) := by decide +kernel
theorem dX5_coveredWithin_34 : decode cX5_coveredWithin 34 = .ok (.ifCond .eq 6, 3) := by decide +kernel
theorem dX5_coveredWithin_37 : decode cX5_coveredWithin 37 = .ok (.iinc 5 1, 3) := by decide +kernel
theorem dX5_coveredWithin_40 : decode cX5_coveredWithin 40 = .ok (.iinc 7 1, 3) := by decide +kernel
theorem dX5_coveredWithin_43 : decode cX5_coveredWithin 43 = .ok (.goto (-25), 3) := by decide +kernel
theorem dX5_coveredWithin_46 : decode cX5_coveredWithin 46 = .ok (.iinc 6 1, 3) := by decide +kernel
theorem dX5_coveredWithin_49 : decode cX5_coveredWithin 49 = .ok (.goto (-43), 3) := by decide +kernel
theorem dX5_coveredWithin_52 : decode cX5_coveredWithin 52 = .ok (.iload 5, 2) := by decide +kernel
theorem dX5_coveredWithin_54 : decode cX5_coveredWithin 54 = .ok (.ireturn, 1) := by decide +kernel
theorem dX5_firstColumn_0 : decode cX5_firstColumn 0 = .ok (.iload_n 0, 1) := by decide +kernel
theorem dX5_firstColumn_1 : decode cX5_firstColumn 1 = .ok (.lookupswitch 35 #[(0, 27), (1, 31)], 27) := by decide +kernel
theorem dX5_firstColumn_28 : decode cX5_firstColumn 28 = .ok (.iload_n 1, 1) := by decide +kernel
theorem dX5_firstColumn_29 : decode cX5_firstColumn 29 = .ok (.iconst 1, 1) := by decide +kernel
theorem dX5_firstColumn_30 : decode cX5_firstColumn 30 = .ok (.iadd, 1) := by decide +kernel
theorem dX5_firstColumn_31 : decode cX5_firstColumn 31 = .ok (.ireturn, 1) := by decide +kernel
theorem dX5_firstColumn_32 : decode cX5_firstColumn 32 = .ok (.iload_n 1, 1) := by decide +kernel
theorem dX5_firstColumn_33 : decode cX5_firstColumn 33 = .ok (.iload_n 2, 1) := by decide +kernel
theorem dX5_firstColumn_34 : decode cX5_firstColumn 34 = .ok (.isub, 1) := by decide +kernel
theorem dX5_firstColumn_35 : decode cX5_firstColumn 35 = .ok (.ireturn, 1) := by decide +kernel
theorem dX5_firstColumn_36 : decode cX5_firstColumn 36 = .ok (.iload_n 1, 1) := by decide +kernel
theorem dX5_firstColumn_37 : decode cX5_firstColumn 37 = .ok (.ireturn, 1) := by decide +kernel
theorem dX5_labelRow_0 : decode cX5_labelRow 0 = .ok (.iload_n 0, 1) := by decide +kernel
theorem dX5_labelRow_1 : decode cX5_labelRow 1 = .ok (.lookupswitch 35 #[(2, 27), (3, 31)], 27) := by decide +kernel
theorem dX5_labelRow_28 : decode cX5_labelRow 28 = .ok (.iload_n 1, 1) := by decide +kernel
theorem dX5_labelRow_29 : decode cX5_labelRow 29 = .ok (.iconst 1, 1) := by decide +kernel
theorem dX5_labelRow_30 : decode cX5_labelRow 30 = .ok (.isub, 1) := by decide +kernel
theorem dX5_labelRow_31 : decode cX5_labelRow 31 = .ok (.ireturn, 1) := by decide +kernel
theorem dX5_labelRow_32 : decode cX5_labelRow 32 = .ok (.iload_n 1, 1) := by decide +kernel
theorem dX5_labelRow_33 : decode cX5_labelRow 33 = .ok (.iconst 1, 1) := by decide +kernel
theorem dX5_labelRow_34 : decode cX5_labelRow 34 = .ok (.iadd, 1) := by decide +kernel
theorem dX5_labelRow_35 : decode cX5_labelRow 35 = .ok (.ireturn, 1) := by decide +kernel
theorem dX5_labelRow_36 : decode cX5_labelRow 36 = .ok (.iload_n 1, 1) := by decide +kernel
theorem dX5_labelRow_37 : decode cX5_labelRow 37 = .ok (.ireturn, 1) := by decide +kernel
set_option maxRecDepth 20000 in
theorem ggX5_isFree_X1_has : GoodIn wsX5_isFree wsX1_has := goodIn_r _ [6, 7, 8, 72, 73, 74, 75] (by decide +kernel) (by decide +kernel)
set_option maxRecDepth 20000 in
theorem gX5_isFree_X1_has : GoodIn wsX5_isFree (wsV RX5 175 RX1 yX1_has wsX1_has) := goodIn_app (goodIn_of _ (by decide +kernel)) ggX5_isFree_X1_has
set_option maxRecDepth 20000 in
theorem ggX5_isFree_X5_coveredWithin : GoodIn wsX5_isFree wsX5_coveredWithin := goodIn_r _ [13, 14, 15, 16, 12, 17, 18, 1, 19, 20, 21, 22, 23, 24, 25, 26, 27, 28, 29, 30, 5, 31, 7, 32, 33, 34, 35, 36, 37, 38, 39, 40, 41, 42, 43, 44, 45, 46, 47, 48, 49, 50, 51, 52, 53, 54, 55, 56, 57, 58, 59, 60, 61, 62, 63, 64, 65, 66, 67, 68, 69, 70, 71, 76, 77, 78, 79, 80, 81, 72, 73, 74, 75, 82, 83, 84, 85, 86, 87, 88, 89, 90, 91, 92, 93, 94, 95, 96, 97, 98] (by decide +kernel) (by decide +kernel)
set_option maxRecDepth 20000 in
theorem gX5_isFree_X5_coveredWithin : GoodIn wsX5_isFree (wsV RX5 219 RX5 yX5_coveredWithin wsX5_coveredWithin) := goodIn_app (goodIn_of _ (by decide +kernel)) ggX5_isFree_X5_coveredWithin
theorem dX5_isFree_0 : decode cX5_isFree 0 = .ok (.aload_n 0, 1) := by decide +kernel
theorem dX5_isFree_1 : decode cX5_isFree 1 = .ok (.getfield 12, 3) := by decide +kernel
theorem dX5_isFree_4 : decode cX5_isFree 4 = .ok (.iload_n 1, 1) := by decide +kernel
theorem dX5_isFree_5 : decode cX5_isFree 5 = .ok (.iload_n 2, 1) := by decide +kernel
theorem dX5_isFree_6 : decode cX5_isFree 6 = .ok (.invokevirtual 175, 3) := by decide +kernel
theorem dX5_isFree_9 : decode cX5_isFree 9 = .ok (.ifCond .eq 34, 3) := by decide +kernel
theorem dX5_isFree_12 : decode cX5_isFree 12 = .ok (.aload_n 0, 1) := by decide +kernel
theorem dX5_isFree_13 : decode cX5_isFree 13 = .ok (.getfield 12, 3) := by decide +kernel
theorem dX5_isFree_16 : decode cX5_isFree 16 = .ok (.iload_n 1, 1) := by decide +kernel
theorem dX5_isFree_17 : decode cX5_isFree 17 = .ok (.iload_n 3, 1) := by decide +kernel
theorem dX5_isFree_18 : decode cX5_isFree 18 = .ok (.iadd, 1) := by decide +kernel
theorem dX5_isFree_19 : decode cX5_isFree 19 = .ok (.iconst 1, 1) := by decide +kernel
theorem dX5_isFree_20 : decode cX5_isFree 20 = .ok (.isub, 1) := by decide +kernel
theorem dX5_isFree_21 : decode cX5_isFree 21 = .ok (.iload_n 2, 1) := by decide +kernel
theorem dX5_isFree_22 : decode cX5_isFree 22 = .ok (.invokevirtual 175, 3) := by decide +kernel
theorem dX5_isFree_25 : decode cX5_isFree 25 = .ok (.ifCond .eq 18, 3) := by decide +kernel
theorem dX5_isFree_28 : decode cX5_isFree 28 = .ok (.aload_n 0, 1) := by decide +kernel
theorem dX5_isFree_29 : decode cX5_isFree 29 = .ok (.iload_n 1, 1) := by decide +kernel
theorem dX5_isFree_30 : decode cX5_isFree 30 = .ok (.iload_n 2, 1) := by decide +kernel
theorem dX5_isFree_31 : decode cX5_isFree 31 = .ok (.iload_n 3, 1) := by decide +kernel
theorem dX5_isFree_32 : decode cX5_isFree 32 = .ok (.iconst 1, 1) := by decide +kernel
theorem dX5_isFree_33 : decode cX5_isFree 33 = .ok (.invokevirtual 219, 3) := by decide +kernel
theorem dX5_isFree_36 : decode cX5_isFree 36 = .ok (.ifCond .ne 7, 3) := by decide +kernel
theorem dX5_isFree_39 : decode cX5_isFree 39 = .ok (.iconst 1, 1) := by decide +kernel
theorem dX5_isFree_40 : decode cX5_isFree 40 = .ok (.goto 4, 3) := by decide +kernel
theorem dX5_isFree_43 : decode cX5_isFree 43 = .ok (.iconst 0, 1) := by decide +kernel
theorem dX5_isFree_44 : decode cX5_isFree 44 = .ok (.ireturn, 1) := by decide +kernel
theorem dX5_bitFromTop_0 : decode cX5_bitFromTop 0 = .ok (.iload_n 1, 1) := by decide +kernel
theorem dX5_bitFromTop_1 : decode cX5_bitFromTop 1 = .ok (.istore_n 2, 1) := by decide +kernel
theorem dX5_bitFromTop_2 : decode cX5_bitFromTop 2 = .ok (.bipush 23, 2) := by decide +kernel
theorem dX5_bitFromTop_4 : decode cX5_bitFromTop 4 = .ok (.istore_n 3, 1) := by decide +kernel
theorem dX5_bitFromTop_5 : decode cX5_bitFromTop 5 = .ok (.iload_n 3, 1) := by decide +kernel
theorem dX5_bitFromTop_6 : decode cX5_bitFromTop 6 = .ok (.ifCond .lt 29, 3) := by decide +kernel
theorem dX5_bitFromTop_9 : decode cX5_bitFromTop 9 = .ok (.iload_n 0, 1) := by decide +kernel
theorem dX5_bitFromTop_10 : decode cX5_bitFromTop 10 = .ok (.iload_n 3, 1) := by decide +kernel
theorem dX5_bitFromTop_11 : decode cX5_bitFromTop 11 = .ok (.ishr, 1) := by decide +kernel
theorem dX5_bitFromTop_12 : decode cX5_bitFromTop 12 = .ok (.iconst 1, 1) := by decide +kernel
theorem dX5_bitFromTop_13 : decode cX5_bitFromTop 13 = .ok (.iand, 1) := by decide +kernel
theorem dX5_bitFromTop_14 : decode cX5_bitFromTop 14 = .ok (.ifCond .ne 6, 3) := by decide +kernel
theorem dX5_bitFromTop_17 : decode cX5_bitFromTop 17 = .ok (.goto 12, 3) := by decide +kernel
theorem dX5_bitFromTop_20 : decode cX5_bitFromTop 20 = .ok (.iload_n 2, 1) := by decide +kernel
theorem dX5_bitFromTop_21 : decode cX5_bitFromTop 21 = .ok (.ifCond .ne 5, 3) := by decide +kernel
theorem dX5_bitFromTop_24 : decode cX5_bitFromTop 24 = .ok (.iload_n 3, 1) := by decide +kernel
theorem dX5_bitFromTop_25 : decode cX5_bitFromTop 25 = .ok (.ireturn, 1) := by decide +kernel
theorem dX5_bitFromTop_26 : decode cX5_bitFromTop 26 = .ok (.iinc 2 (-1), 3) := by decide +kernel
theorem dX5_bitFromTop_29 : decode cX5_bitFromTop 29 = .ok (.iinc 3 (-1), 3) := by decide +kernel
theorem dX5_bitFromTop_32 : decode cX5_bitFromTop 32 = .ok (.goto (-27), 3) := by decide +kernel
theorem dX5_bitFromTop_35 : decode cX5_bitFromTop 35 = .ok (.bipush (-9), 2) := by decide +kernel
theorem dX5_bitFromTop_37 : decode cX5_bitFromTop 37 = .ok (.ireturn, 1) := by decide +kernel
theorem dX6_init_0 : decode cX6_init 0 = .ok (.aload_n 0, 1) := by decide +kernel
theorem dX6_init_1 : decode cX6_init 1 = .ok (.invokespecial 1, 3) := by decide +kernel
theorem dX6_init_4 : decode cX6_init 4 = .ok (.aload_n 0, 1) := by decide +kernel
theorem dX6_init_5 : decode cX6_init 5 = .ok (.bipush 20, 2) := by decide +kernel
theorem dX6_init_7 : decode cX6_init 7 = .ok (.putfield 7, 3) := by decide +kernel
theorem dX6_init_10 : decode cX6_init 10 = .ok (.aload_n 0, 1) := by decide +kernel
theorem dX6_init_11 : decode cX6_init 11 = .ok (.bipush 8, 2) := by decide +kernel
theorem dX6_init_13 : decode cX6_init 13 = .ok (.putfield 13, 3) := by decide +kernel
theorem dX6_init_16 : decode cX6_init 16 = .ok (.aload_n 0, 1) := by decide +kernel
theorem dX6_init_17 : decode cX6_init 17 = .ok (.iconst 2, 1) := by decide +kernel
theorem dX6_init_18 : decode cX6_init 18 = .ok (.newarray .int, 2) := by decide +kernel
theorem dX6_init_20 : decode cX6_init 20 = .ok (.putfield 16, 3) := by decide +kernel
theorem dX6_init_23 : decode cX6_init 23 = .ok (.aload_n 0, 1) := by decide +kernel
theorem dX6_init_24 : decode cX6_init 24 = .ok (.iconst 2, 1) := by decide +kernel
theorem dX6_init_25 : decode cX6_init 25 = .ok (.newarray .int, 2) := by decide +kernel
theorem dX6_init_27 : decode cX6_init 27 = .ok (.putfield 20, 3) := by decide +kernel
theorem dX6_init_30 : decode cX6_init 30 = .ok (.aload_n 0, 1) := by decide +kernel
theorem dX6_init_31 : decode cX6_init 31 = .ok (.iconst 2, 1) := by decide +kernel
theorem dX6_init_32 : decode cX6_init 32 = .ok (.newarray .int, 2) := by decide +kernel
theorem dX6_init_34 : decode cX6_init 34 = .ok (.dup, 1) := by decide +kernel
theorem dX6_init_35 : decode cX6_init 35 = .ok (.iconst 0, 1) := by decide +kernel
theorem dX6_init_36 : decode cX6_init 36 = .ok (.bipush 10, 2) := by decide +kernel
theorem dX6_init_38 : decode cX6_init 38 = .ok (.iastore, 1) := by decide +kernel
theorem dX6_init_39 : decode cX6_init 39 = .ok (.dup, 1) := by decide +kernel
theorem dX6_init_40 : decode cX6_init 40 = .ok (.iconst 1, 1) := by decide +kernel
theorem dX6_init_41 : decode cX6_init 41 = .ok (.bipush 10, 2) := by decide +kernel
theorem dX6_init_43 : decode cX6_init 43 = .ok (.iastore, 1) := by decide +kernel
theorem dX6_init_44 : decode cX6_init 44 = .ok (.putfield 23, 3) := by decide +kernel
theorem dX6_init_47 : decode cX6_init 47 = .ok (.aload_n 0, 1) := by decide +kernel
theorem dX6_init_48 : decode cX6_init 48 = .ok (.iconst 2, 1) := by decide +kernel
theorem dX6_init_49 : decode cX6_init 49 = .ok (.newarray .int, 2) := by decide +kernel
theorem dX6_init_51 : decode cX6_init 51 = .ok (.putfield 26, 3) := by decide +kernel
theorem dX6_init_54 : decode cX6_init 54 = .ok (.aload_n 0, 1) := by decide +kernel
theorem dX6_init_55 : decode cX6_init 55 = .ok (.iconst 2, 1) := by decide +kernel
theorem dX6_init_56 : decode cX6_init 56 = .ok (.newarray .int, 2) := by decide +kernel
theorem dX6_init_58 : decode cX6_init 58 = .ok (.putfield 29, 3) := by decide +kernel
theorem dX6_init_61 : decode cX6_init 61 = .ok (.aload_n 0, 1) := by decide +kernel
theorem dX6_init_62 : decode cX6_init 62 = .ok (.bipush 6, 2) := by decide +kernel
theorem dX6_init_64 : decode cX6_init 64 = .ok (.newarray .int, 2) := by decide +kernel
theorem dX6_init_66 : decode cX6_init 66 = .ok (.putfield 32, 3) := by decide +kernel
theorem dX6_init_69 : decode cX6_init 69 = .ok (.aload_n 0, 1) := by decide +kernel
theorem dX6_init_70 : decode cX6_init 70 = .ok (.bipush 6, 2) := by decide +kernel
theorem dX6_init_72 : decode cX6_init 72 = .ok (.newarray .int, 2) := by decide +kernel
theorem dX6_init_74 : decode cX6_init 74 = .ok (.putfield 35, 3) := by decide +kernel
theorem dX6_init_77 : decode cX6_init 77 = .ok (.aload_n 0, 1) := by decide +kernel
theorem dX6_init_78 : decode cX6_init 78 = .ok (.bipush 6, 2) := by decide +kernel
theorem dX6_init_80 : decode cX6_init 80 = .ok (.newarray .int, 2) := by decide +kernel
theorem dX6_init_82 : decode cX6_init 82 = .ok (.putfield 38, 3) := by decide +kernel
theorem dX6_init_85 : decode cX6_init 85 = .ok (.aload_n 0, 1) := by decide +kernel
theorem dX6_init_86 : decode cX6_init 86 = .ok (.bipush 6, 2) := by decide +kernel
theorem dX6_init_88 : decode cX6_init 88 = .ok (.newarray .int, 2) := by decide +kernel
theorem dX6_init_90 : decode cX6_init 90 = .ok (.putfield 41, 3) := by decide +kernel
theorem dX6_init_93 : decode cX6_init 93 = .ok (.aload_n 0, 1) := by decide +kernel
theorem dX6_init_94 : decode cX6_init 94 = .ok (.sipush 144, 3) := by decide +kernel
theorem dX6_init_97 : decode cX6_init 97 = .ok (.newarray .int, 2) := by decide +kernel
theorem dX6_init_99 : decode cX6_init 99 = .ok (.putfield 44, 3) := by decide +kernel
theorem dX6_init_102 : decode cX6_init 102 = .ok (.aload_n 0, 1) := by decide +kernel
theorem dX6_init_103 : decode cX6_init 103 = .ok (.sipush 144, 3) := by decide +kernel
theorem dX6_init_106 : decode cX6_init 106 = .ok (.newarray .int, 2) := by decide +kernel
theorem dX6_init_108 : decode cX6_init 108 = .ok (.putfield 47, 3) := by decide +kernel
theorem dX6_init_111 : decode cX6_init 111 = .ok (.aload_n 0, 1) := by decide +kernel
theorem dX6_init_112 : decode cX6_init 112 = .ok (.sipush 144, 3) := by decide +kernel
theorem dX6_init_115 : decode cX6_init 115 = .ok (.newarray .int, 2) := by decide +kernel
theorem dX6_init_117 : decode cX6_init 117 = .ok (.putfield 50, 3) := by decide +kernel
theorem dX6_init_120 : decode cX6_init 120 = .ok (.aload_n 0, 1) := by decide +kernel
theorem dX6_init_121 : decode cX6_init 121 = .ok (.sipush 144, 3) := by decide +kernel
theorem dX6_init_124 : decode cX6_init 124 = .ok (.newarray .boolean, 2) := by decide +kernel
theorem dX6_init_126 : decode cX6_init 126 = .ok (.putfield 53, 3) := by decide +kernel
theorem dX6_init_129 : decode cX6_init 129 = .ok (.aload_n 0, 1) := by decide +kernel
theorem dX6_init_130 : decode cX6_init 130 = .ok (.bipush 20, 2) := by decide +kernel
theorem dX6_init_132 : decode cX6_init 132 = .ok (.newarray .int, 2) := by decide +kernel
theorem dX6_init_134 : decode cX6_init 134 = .ok (.putfield 57, 3) := by decide +kernel
theorem dX6_init_137 : decode cX6_init 137 = .ok (.aload_n 0, 1) := by decide +kernel
theorem dX6_init_138 : decode cX6_init 138 = .ok (.bipush 20, 2) := by decide +kernel
theorem dX6_init_140 : decode cX6_init 140 = .ok (.newarray .int, 2) := by decide +kernel
theorem dX6_init_142 : decode cX6_init 142 = .ok (.putfield 60, 3) := by decide +kernel
theorem dX6_init_145 : decode cX6_init 145 = .ok (.aload_n 0, 1) := by decide +kernel
theorem dX6_init_146 : decode cX6_init 146 = .ok (.bipush 20, 2) := by decide +kernel
theorem dX6_init_148 : decode cX6_init 148 = .ok (.newarray .int, 2) := by decide +kernel
theorem dX6_init_150 : decode cX6_init 150 = .ok (.putfield 63, 3) := by decide +kernel
theorem dX6_init_153 : decode cX6_init 153 = .ok (.aload_n 0, 1) := by decide +kernel
theorem dX6_init_154 : decode cX6_init 154 = .ok (.bipush 20, 2) := by decide +kernel
theorem dX6_init_156 : decode cX6_init 156 = .ok (.newarray .int, 2) := by decide +kernel
theorem dX6_init_158 : decode cX6_init 158 = .ok (.putfield 66, 3) := by decide +kernel
theorem dX6_init_161 : decode cX6_init 161 = .ok (.aload_n 0, 1) := by decide +kernel
theorem dX6_init_162 : decode cX6_init 162 = .ok (.bipush 20, 2) := by decide +kernel
theorem dX6_init_164 : decode cX6_init 164 = .ok (.newarray .int, 2) := by decide +kernel
theorem dX6_init_166 : decode cX6_init 166 = .ok (.putfield 69, 3) := by decide +kernel
theorem dX6_init_169 : decode cX6_init 169 = .ok (.aload_n 0, 1) := by decide +kernel
theorem dX6_init_170 : decode cX6_init 170 = .ok (.sipush 3840, 3) := by decide +kernel
theorem dX6_init_173 : decode cX6_init 173 = .ok (.newarray .int, 2) := by decide +kernel
theorem dX6_init_175 : decode cX6_init 175 = .ok (.putfield 72, 3) := by decide +kernel
theorem dX6_init_178 : decode cX6_init 178 = .ok (.aload_n 0, 1) := by decide +kernel
theorem dX6_init_179 : decode cX6_init 179 = .ok (.sipush 3840, 3) := by decide +kernel
theorem dX6_init_182 : decode cX6_init 182 = .ok (.newarray .int, 2) := by decide +kernel
theorem dX6_init_184 : decode cX6_init 184 = .ok (.putfield 75, 3) := by decide +kernel
theorem dX6_init_187 : decode cX6_init 187 = .ok (.aload_n 0, 1) := by decide +kernel
theorem dX6_init_188 : decode cX6_init 188 = .ok (.bipush 24, 2) := by decide +kernel
theorem dX6_init_190 : decode cX6_init 190 = .ok (.newarray .int, 2) := by decide +kernel
theorem dX6_init_192 : decode cX6_init 192 = .ok (.putfield 78, 3) := by decide +kernel
theorem dX6_init_195 : decode cX6_init 195 = .ok (.aload_n 0, 1) := by decide +kernel
theorem dX6_init_196 : decode cX6_init 196 = .ok (.iconst 0, 1) := by decide +kernel
theorem dX6_init_197 : decode cX6_init 197 = .ok (.putfield 81, 3) := by decide +kernel
theorem dX6_init_200 : decode cX6_init 200 = .ok (.return_, 1) := by decide +kernel
theorem dX6_in_0 : decode cX6_in 0 = .ok (.iload_n 0, 1) := by decide +kernel
theorem dX6_in_1 : decode cX6_in 1 = .ok (.iload_n 1, 1) := by decide +kernel
theorem dX6_in_2 : decode cX6_in 2 = .ok (.if_icmp .lt 12, 3) := by decide +kernel
theorem dX6_in_5 : decode cX6_in 5 = .ok (.iload_n 0, 1) := by decide +kernel
theorem dX6_in_6 : decode cX6_in 6 = .ok (.iload_n 2, 1) := by decide +kernel
theorem dX6_in_7 : decode cX6_in 7 = .ok (.if_icmp .gt 7, 3) := by decide +kernel
theorem dX6_in_10 : decode cX6_in 10 = .ok (.iconst 1, 1) := by decide +kernel
theorem dX6_in_11 : decode cX6_in 11 = .ok (.goto 4, 3) := by decide +kernel
theorem dX6_in_14 : decode cX6_in 14 = .ok (.iconst 0, 1) := by decide +kernel
theorem dX6_in_15 : decode cX6_in 15 = .ok (.ireturn, 1) := by decide +kernel
set_option maxRecDepth 20000 in
theorem ggX6_isValue_X6_in : GoodIn wsX6_isValue wsX6_in := goodIn_r _ [6] (by decide +kernel) (by decide +kernel)
set_option maxRecDepth 20000 in
theorem gX6_isValue_X6_in : GoodIn wsX6_isValue (va_wsS RX6 86 yX6_in wsX6_in) := goodIn_app (goodIn_of _ (by decide +kernel)) ggX6_isValue_X6_in
theorem dX6_isValue_0 : decode cX6_isValue 0 = .ok (.iload_n 0, 1) := by decide +kernel
theorem dX6_isValue_1 : decode cX6_isValue 1 = .ok (.ldc 84, 2) := by decide +kernel
theorem dX6_isValue_3 : decode cX6_isValue 3 = .ok (.ldc 85, 2) := by decide +kernel
theorem dX6_isValue_5 : decode cX6_isValue 5 = .ok (.invokestatic 86, 3) := by decide +kernel
theorem dX6_isValue_8 : decode cX6_isValue 8 = .ok (.ireturn, 1) := by decide +kernel
set_option maxRecDepth 20000 in
theorem ggX6_isAxis_X6_in : GoodIn wsX6_isAxis wsX6_in := goodIn_r _ [4] (by decide +kernel) (by decide +kernel)
set_option maxRecDepth 20000 in
theorem gX6_isAxis_X6_in : GoodIn wsX6_isAxis (va_wsS RX6 86 yX6_in wsX6_in) := goodIn_app (goodIn_of _ (by decide +kernel)) ggX6_isAxis_X6_in
theorem dX6_isAxis_0 : decode cX6_isAxis 0 = .ok (.iload_n 0, 1) := by decide +kernel
theorem dX6_isAxis_1 : decode cX6_isAxis 1 = .ok (.iconst 0, 1) := by decide +kernel
theorem dX6_isAxis_2 : decode cX6_isAxis 2 = .ok (.iconst 1, 1) := by decide +kernel
theorem dX6_isAxis_3 : decode cX6_isAxis 3 = .ok (.invokestatic 86, 3) := by decide +kernel
