theorem dX4_init_0 : decode cX4_init 0 = .ok (.aload_n 0, 1) := by decide +kernel
theorem dX4_init_1 : decode cX4_init 1 = .ok (.invokespecial 3, 3) := by decide +kernel
theorem dX4_init_4 : decode cX4_init 4 = .ok (.aload_n 0, 1) := by decide +kernel
theorem dX4_init_5 : decode cX4_init 5 = .ok (.iconst 0, 1) := by decide +kernel
theorem dX4_init_6 : decode cX4_init 6 = .ok (.newarray .byte, 2) := by decide +kernel
theorem dX4_init_8 : decode cX4_init 8 = .ok (.putfield 9, 3) := by decide +kernel
theorem dX4_init_11 : decode cX4_init 11 = .ok (.return_, 1) := by decide +kernel
set_option maxRecDepth 20000 in
theorem ggX4_begin_X4_advance : GoodIn wsX4_begin wsX4_advance := goodIn_r _ [12, 7, 13, 14, 15, 16, 17, 18, 11, 19, 6, 20, 21, 22, 23, 1, 24, 25, 26, 27, 28, 29, 30, 31, 32, 33, 34, 35, 36, 37, 38, 39, 40, 41, 42, 43, 44, 45, 46, 47, 48, 49, 50, 51, 52, 53, 54, 55, 56, 57, 58, 59, 60, 61, 62, 63, 64, 65, 66, 67, 68, 69, 4, 70, 71, 3, 5, 72, 73, 74, 75, 76, 77, 78, 79, 80, 81, 82, 83, 84, 85, 86, 87, 88, 89, 90, 91, 92, 93, 94, 95, 96, 97, 98, 99, 100, 101, 102, 103, 104, 105, 106, 107, 108, 109, 110, 111, 112, 113, 114, 115, 116, 117, 118, 119, 120, 121, 122, 123, 124, 125, 126, 127, 128, 129, 130, 131] (by decide +kernel) (by decide +kernel)
set_option maxRecDepth 20000 in
theorem gX4_begin_X4_advance : GoodIn wsX4_begin (wsV RX4 28 RX4 yX4_advance wsX4_advance) := goodIn_app (goodIn_of _ (by decide +kernel)) ggX4_begin_X4_advance
theorem dX4_begin_0 : decode cX4_begin 0 = .ok (.aload_n 0, 1) := by decide +kernel
theorem dX4_begin_1 : decode cX4_begin 1 = .ok (.aload_n 1, 1) := by decide +kernel
theorem dX4_begin_2 : decode cX4_begin 2 = .ok (.putfield 9, 3) := by decide +kernel
theorem dX4_begin_5 : decode cX4_begin 5 = .ok (.aload_n 0, 1) := by decide +kernel
theorem dX4_begin_6 : decode cX4_begin 6 = .ok (.iload_n 2, 1) := by decide +kernel
theorem dX4_begin_7 : decode cX4_begin 7 = .ok (.aload_n 1, 1) := by decide +kernel
theorem dX4_begin_8 : decode cX4_begin 8 = .ok (.arraylength, 1) := by decide +kernel
theorem dX4_begin_9 : decode cX4_begin 9 = .ok (.invokestatic 15, 3) := by decide +kernel
theorem dX4_begin_12 : decode cX4_begin 12 = .ok (.putfield 21, 3) := by decide +kernel
theorem dX4_begin_15 : decode cX4_begin 15 = .ok (.aload_n 0, 1) := by decide +kernel
theorem dX4_begin_16 : decode cX4_begin 16 = .ok (.iconst 0, 1) := by decide +kernel
theorem dX4_begin_17 : decode cX4_begin 17 = .ok (.putfield 25, 3) := by decide +kernel
theorem dX4_begin_20 : decode cX4_begin 20 = .ok (.aload_n 0, 1) := by decide +kernel
theorem dX4_begin_21 : decode cX4_begin 21 = .ok (.invokevirtual 28, 3) := by decide +kernel
theorem dX4_begin_24 : decode cX4_begin 24 = .ok (.return_, 1) := by decide +kernel
theorem dX4_byteAt_0 : decode cX4_byteAt 0 = .ok (.iload_n 1, 1) := by decide +kernel
theorem dX4_byteAt_1 : decode cX4_byteAt 1 = .ok (.ifCond .lt 33, 3) := by decide +kernel
theorem dX4_byteAt_4 : decode cX4_byteAt 4 = .ok (.iload_n 1, 1) := by decide +kernel
theorem dX4_byteAt_5 : decode cX4_byteAt 5 = .ok (.aload_n 0, 1) := by decide +kernel
theorem dX4_byteAt_6 : decode cX4_byteAt 6 = .ok (.getfield 21, 3) := by decide +kernel
theorem dX4_byteAt_9 : decode cX4_byteAt 9 = .ok (.if_icmp .ge 25, 3) := by decide +kernel
theorem dX4_byteAt_12 : decode cX4_byteAt 12 = .ok (.iload_n 1, 1) := by decide +kernel
theorem dX4_byteAt_13 : decode cX4_byteAt 13 = .ok (.aload_n 0, 1) := by decide +kernel
theorem dX4_byteAt_14 : decode cX4_byteAt 14 = .ok (.getfield 9, 3) := by decide +kernel
theorem dX4_byteAt_17 : decode cX4_byteAt 17 = .ok (.arraylength, 1) := by decide +kernel
theorem dX4_byteAt_18 : decode cX4_byteAt 18 = .ok (.if_icmp .ge 16, 3) := by decide +kernel
theorem dX4_byteAt_21 : decode cX4_byteAt 21 = .ok (.aload_n 0, 1) := by decide +kernel
theorem dX4_byteAt_22 : decode cX4_byteAt 22 = .ok (.getfield 9, 3) := by decide +kernel
theorem dX4_byteAt_25 : decode cX4_byteAt 25 = .ok (.iload_n 1, 1) := by decide +kernel
theorem dX4_byteAt_26 : decode cX4_byteAt 26 = .ok (.baload, 1) := by decide +kernel
theorem dX4_byteAt_27 : decode cX4_byteAt 27 = .ok (.sipush 255, 3) := by decide +kernel
theorem dX4_byteAt_30 : decode cX4_byteAt 30 = .ok (.iand, 1) := by decide +kernel
theorem dX4_byteAt_31 : decode cX4_byteAt 31 = .ok (.goto 4, 3) := by decide +kernel
theorem dX4_byteAt_34 : decode cX4_byteAt 34 = .ok (.iconst (-1), 1) := by decide +kernel
theorem dX4_byteAt_35 : decode cX4_byteAt 35 = .ok (.ireturn, 1) := by decide +kernel
theorem dX4_isDigit_0 : decode cX4_isDigit 0 = .ok (.iload_n 0, 1) := by decide +kernel
theorem dX4_isDigit_1 : decode cX4_isDigit 1 = .ok (.bipush 48, 2) := by decide +kernel
theorem dX4_isDigit_3 : decode cX4_isDigit 3 = .ok (.if_icmp .lt 13, 3) := by decide +kernel
theorem dX4_isDigit_6 : decode cX4_isDigit 6 = .ok (.iload_n 0, 1) := by decide +kernel
theorem dX4_isDigit_7 : decode cX4_isDigit 7 = .ok (.bipush 57, 2) := by decide +kernel
theorem dX4_isDigit_9 : decode cX4_isDigit 9 = .ok (.if_icmp .gt 7, 3) := by decide +kernel
theorem dX4_isDigit_12 : decode cX4_isDigit 12 = .ok (.iconst 1, 1) := by decide +kernel
theorem dX4_isDigit_13 : decode cX4_isDigit 13 = .ok (.goto 4, 3) := by decide +kernel
theorem dX4_isDigit_16 : decode cX4_isDigit 16 = .ok (.iconst 0, 1) := by decide +kernel
theorem dX4_isDigit_17 : decode cX4_isDigit 17 = .ok (.ireturn, 1) := by decide +kernel
set_option maxRecDepth 20000 in
theorem ggX4_advance_X4_skipBlanks : GoodIn wsX4_advance wsX4_skipBlanks := goodIn_r _ [9, 1, 10, 11, 12, 13, 8, 14, 15, 121, 122, 123, 124, 125, 126] (by decide +kernel) (by decide +kernel)
set_option maxRecDepth 20000 in
theorem gX4_advance_X4_skipBlanks : GoodIn wsX4_advance (wsV RX4 31 RX4 yX4_skipBlanks wsX4_skipBlanks) := goodIn_app (goodIn_of _ (by decide +kernel)) ggX4_advance_X4_skipBlanks
set_option maxRecDepth 20000 in
theorem ggX4_advance_X4_byteAt : GoodIn wsX4_advance wsX4_byteAt := goodIn_r _ [14, 10, 15, 121, 122, 123, 124, 125, 126] (by decide +kernel) (by decide +kernel)
set_option maxRecDepth 20000 in
theorem gX4_advance_X4_byteAt : GoodIn wsX4_advance (wsV RX4 40 RX4 yX4_byteAt wsX4_byteAt) := goodIn_app (goodIn_of _ (by decide +kernel)) ggX4_advance_X4_byteAt
set_option maxRecDepth 20000 in
theorem ggX4_advance_X4_takePitch : GoodIn wsX4_advance wsX4_takePitch := goodIn_r _ [19, 2, 20, 3, 11, 12, 13, 8, 14, 10, 15, 21, 22, 23, 24, 4, 1, 121, 122, 123, 124, 125, 126] (by decide +kernel) (by decide +kernel)
set_option maxRecDepth 20000 in
theorem gX4_advance_X4_takePitch : GoodIn wsX4_advance (wsV RX4 47 RX4 yX4_takePitch wsX4_takePitch) := goodIn_app (goodIn_of _ (by decide +kernel)) ggX4_advance_X4_takePitch
set_option maxRecDepth 20000 in
theorem ggX4_advance_X4_isDigit : GoodIn wsX4_advance wsX4_isDigit := goodIn_r _ [27] (by decide +kernel) (by decide +kernel)
set_option maxRecDepth 20000 in
theorem gX4_advance_X4_isDigit : GoodIn wsX4_advance (va_wsS RX4 51 yX4_isDigit wsX4_isDigit) := goodIn_app (goodIn_of _ (by decide +kernel)) ggX4_advance_X4_isDigit
set_option maxRecDepth 20000 in
theorem ggX4_advance_X4_takeNumber : GoodIn wsX4_advance wsX4_takeNumber := goodIn_r _ [31, 2, 10, 3, 11, 12, 13, 8, 14, 15, 25, 26, 27, 21, 22, 23, 24, 4, 1, 121, 122, 123, 124, 125, 126] (by decide +kernel) (by decide +kernel)
set_option maxRecDepth 20000 in
theorem gX4_advance_X4_takeNumber : GoodIn wsX4_advance (wsV RX4 55 RX4 yX4_takeNumber wsX4_takeNumber) := goodIn_app (goodIn_of _ (by decide +kernel)) ggX4_advance_X4_takeNumber
set_option maxRecDepth 20000 in
theorem ggX4_advance_X4_take : GoodIn wsX4_advance wsX4_take := goodIn_r _ [24, 4, 2, 1, 121, 122, 123, 124, 125, 126] (by decide +kernel) (by decide +kernel)
set_option maxRecDepth 20000 in
theorem gX4_advance_X4_take : GoodIn wsX4_advance (wsV RX4 58 RX4 yX4_take wsX4_take) := goodIn_app (goodIn_of _ (by decide +kernel)) ggX4_advance_X4_take
set_option maxRecDepth 20000 in
theorem ggX4_advance_J0_indexOf_0f7a4 : GoodIn wsX4_advance wsJ0_indexOf_0f7a4 := goodIn_r _ [36, 37, 38, 39, 35, 40, 41, 42, 43, 44, 45, 46, 47, 48, 49, 50, 51, 52, 53, 54, 55, 56, 57, 58, 59, 60, 61, 62, 63, 64, 65, 66, 67, 68, 69, 70, 71, 72, 73, 74, 75, 76, 77, 78, 79, 80, 81, 82, 83, 84, 85, 86, 87, 88, 89, 90, 91, 92, 93, 94, 95, 96, 97, 98, 99, 100, 101, 102, 103, 104, 105, 106, 107, 108, 109, 110, 111, 112, 113, 114, 115, 116, 117, 118, 119, 120] (by decide +kernel) (by decide +kernel)
set_option maxRecDepth 20000 in
theorem gX4_advance_J0_indexOf_0f7a4 : GoodIn wsX4_advance (wsV RX4 64 RJ0 yJ0_indexOf_0f7a4 wsJ0_indexOf_0f7a4) := goodIn_app (goodIn_of _ (by decide +kernel)) ggX4_advance_J0_indexOf_0f7a4
theorem dX4_advance_0 : decode cX4_advance 0 = .ok (.aload_n 0, 1) := by decide +kernel
theorem dX4_advance_1 : decode cX4_advance 1 = .ok (.invokevirtual 31, 3) := by decide +kernel
theorem dX4_advance_4 : decode cX4_advance 4 = .ok (.aload_n 0, 1) := by decide +kernel
theorem dX4_advance_5 : decode cX4_advance 5 = .ok (.aload_n 0, 1) := by decide +kernel
theorem dX4_advance_6 : decode cX4_advance 6 = .ok (.getfield 25, 3) := by decide +kernel
theorem dX4_advance_9 : decode cX4_advance 9 = .ok (.putfield 34, 3) := by decide +kernel
theorem dX4_advance_12 : decode cX4_advance 12 = .ok (.aload_n 0, 1) := by decide +kernel
theorem dX4_advance_13 : decode cX4_advance 13 = .ok (.iconst 0, 1) := by decide +kernel
theorem dX4_advance_14 : decode cX4_advance 14 = .ok (.putfield 37, 3) := by decide +kernel
theorem dX4_advance_17 : decode cX4_advance 17 = .ok (.aload_n 0, 1) := by decide +kernel
theorem dX4_advance_18 : decode cX4_advance 18 = .ok (.aload_n 0, 1) := by decide +kernel
theorem dX4_advance_19 : decode cX4_advance 19 = .ok (.getfield 34, 3) := by decide +kernel
theorem dX4_advance_22 : decode cX4_advance 22 = .ok (.invokevirtual 40, 3) := by decide +kernel
theorem dX4_advance_25 : decode cX4_advance 25 = .ok (.istore_n 1, 1) := by decide +kernel
theorem dX4_advance_26 : decode cX4_advance 26 = .ok (.iload_n 1, 1) := by decide +kernel
theorem dX4_advance_27 : decode cX4_advance 27 = .ok (.iconst (-1), 1) := by decide +kernel
theorem dX4_advance_28 : decode cX4_advance 28 = .ok (.if_icmp .ne 11, 3) := by decide +kernel
theorem dX4_advance_31 : decode cX4_advance 31 = .ok (.aload_n 0, 1) := by decide +kernel
theorem dX4_advance_32 : decode cX4_advance 32 = .ok (.iconst 0, 1) := by decide +kernel
theorem dX4_advance_33 : decode cX4_advance 33 = .ok (.putfield 44, 3) := by decide +kernel
theorem dX4_advance_36 : decode cX4_advance 36 = .ok (.goto 125, 3) := by decide +kernel
theorem dX4_advance_39 : decode cX4_advance 39 = .ok (.iload_n 1, 1) := by decide +kernel
theorem dX4_advance_40 : decode cX4_advance 40 = .ok (.bipush 97, 2) := by decide +kernel
theorem dX4_advance_42 : decode cX4_advance 42 = .ok (.if_icmp .lt 20, 3) := by decide +kernel
theorem dX4_advance_45 : decode cX4_advance 45 = .ok (.iload_n 1, 1) := by decide +kernel
theorem dX4_advance_46 : decode cX4_advance 46 = .ok (.bipush 103, 2) := by decide +kernel
theorem dX4_advance_48 : decode cX4_advance 48 = .ok (.if_icmp .gt 14, 3) := by decide +kernel
theorem dX4_advance_51 : decode cX4_advance 51 = .ok (.aload_n 0, 1) := by decide +kernel
theorem dX4_advance_52 : decode cX4_advance 52 = .ok (.iload_n 1, 1) := by decide +kernel
theorem dX4_advance_53 : decode cX4_advance 53 = .ok (.bipush 97, 2) := by decide +kernel
theorem dX4_advance_55 : decode cX4_advance 55 = .ok (.isub, 1) := by decide +kernel
theorem dX4_advance_56 : decode cX4_advance 56 = .ok (.invokevirtual 47, 3) := by decide +kernel
theorem dX4_advance_59 : decode cX4_advance 59 = .ok (.goto 102, 3) := by decide +kernel
theorem dX4_advance_62 : decode cX4_advance 62 = .ok (.iload_n 1, 1) := by decide +kernel
theorem dX4_advance_63 : decode cX4_advance 63 = .ok (.invokestatic 51, 3) := by decide +kernel
theorem dX4_advance_66 : decode cX4_advance 66 = .ok (.ifCond .eq 10, 3) := by decide +kernel
theorem dX4_advance_69 : decode cX4_advance 69 = .ok (.aload_n 0, 1) := by decide +kernel
theorem dX4_advance_70 : decode cX4_advance 70 = .ok (.invokevirtual 55, 3) := by decide +kernel
theorem dX4_advance_73 : decode cX4_advance 73 = .ok (.goto 88, 3) := by decide +kernel
theorem dX4_advance_76 : decode cX4_advance 76 = .ok (.iload_n 1, 1) := by decide +kernel
theorem dX4_advance_77 : decode cX4_advance 77 = .ok (.bipush 124, 2) := by decide +kernel
theorem dX4_advance_79 : decode cX4_advance 79 = .ok (.if_icmp .ne 27, 3) := by decide +kernel
theorem dX4_advance_82 : decode cX4_advance 82 = .ok (.aload_n 0, 1) := by decide +kernel
theorem dX4_advance_83 : decode cX4_advance 83 = .ok (.aload_n 0, 1) := by decide +kernel
theorem dX4_advance_84 : decode cX4_advance 84 = .ok (.getfield 34, 3) := by decide +kernel
theorem dX4_advance_87 : decode cX4_advance 87 = .ok (.iconst 1, 1) := by decide +kernel
theorem dX4_advance_88 : decode cX4_advance 88 = .ok (.iadd, 1) := by decide +kernel
theorem dX4_advance_89 : decode cX4_advance 89 = .ok (.invokevirtual 40, 3) := by decide +kernel
theorem dX4_advance_92 : decode cX4_advance 92 = .ok (.bipush 58, 2) := by decide +kernel
theorem dX4_advance_94 : decode cX4_advance 94 = .ok (.if_icmp .ne 12, 3) := by decide +kernel
theorem dX4_advance_97 : decode cX4_advance 97 = .ok (.aload_n 0, 1) := by decide +kernel
theorem dX4_advance_98 : decode cX4_advance 98 = .ok (.iconst 4, 1) := by decide +kernel
theorem dX4_advance_99 : decode cX4_advance 99 = .ok (.iconst 2, 1) := by decide +kernel
theorem dX4_advance_100 : decode cX4_advance 100 = .ok (.invokevirtual 58, 3) := by decide +kernel
theorem dX4_advance_103 : decode cX4_advance 103 = .ok (.goto 58, 3) := by decide +kernel
theorem dX4_advance_106 : decode cX4_advance 106 = .ok (.iload_n 1, 1) := by decide +kernel
theorem dX4_advance_107 : decode cX4_advance 107 = .ok (.bipush 58, 2) := by decide +kernel
theorem dX4_advance_109 : decode cX4_advance 109 = .ok (.if_icmp .ne 27, 3) := by decide +kernel
theorem dX4_advance_112 : decode cX4_advance 112 = .ok (.aload_n 0, 1) := by decide +kernel
theorem dX4_advance_113 : decode cX4_advance 113 = .ok (.aload_n 0, 1) := by decide +kernel
theorem dX4_advance_114 : decode cX4_advance 114 = .ok (.getfield 34, 3) := by decide +kernel
theorem dX4_advance_117 : decode cX4_advance 117 = .ok (.iconst 1, 1) := by decide +kernel
theorem dX4_advance_118 : decode cX4_advance 118 = .ok (.iadd, 1) := by decide +kernel
theorem dX4_advance_119 : decode cX4_advance 119 = .ok (.invokevirtual 40, 3) := by decide +kernel
theorem dX4_advance_122 : decode cX4_advance 122 = .ok (.bipush 124, 2) := by decide +kernel
theorem dX4_advance_124 : decode cX4_advance 124 = .ok (.if_icmp .ne 12, 3) := by decide +kernel
theorem dX4_advance_127 : decode cX4_advance 127 = .ok (.aload_n 0, 1) := by decide +kernel
theorem dX4_advance_128 : decode cX4_advance 128 = .ok (.iconst 5, 1) := by decide +kernel
theorem dX4_advance_129 : decode cX4_advance 129 = .ok (.iconst 2, 1) := by decide +kernel
theorem dX4_advance_130 : decode cX4_advance 130 = .ok (.invokevirtual 58, 3) := by decide +kernel
theorem dX4_advance_133 : decode cX4_advance 133 = .ok (.goto 28, 3) := by decide +kernel
theorem dX4_advance_136 : decode cX4_advance 136 = .ok (.ldc 62, 2) := by decide +kernel
theorem dX4_advance_138 : decode cX4_advance 138 = .ok (.iload_n 1, 1) := by decide +kernel
theorem dX4_advance_139 : decode cX4_advance 139 = .ok (.i2c, 1) := by decide +kernel
theorem dX4_advance_140 : decode cX4_advance 140 = .ok (.invokevirtual 64, 3) := by decide +kernel
theorem dX4_advance_143 : decode cX4_advance 143 = .ok (.ifCond .lt 12, 3) := by decide +kernel
theorem dX4_advance_146 : decode cX4_advance 146 = .ok (.aload_n 0, 1) := by decide +kernel
theorem dX4_advance_147 : decode cX4_advance 147 = .ok (.iload_n 1, 1) := by decide +kernel
theorem dX4_advance_148 : decode cX4_advance 148 = .ok (.iconst 1, 1) := by decide +kernel
theorem dX4_advance_149 : decode cX4_advance 149 = .ok (.invokevirtual 58, 3) := by decide +kernel
theorem dX4_advance_152 : decode cX4_advance 152 = .ok (.goto 9, 3) := by decide +kernel
theorem dX4_advance_155 : decode cX4_advance 155 = .ok (.aload_n 0, 1) := by decide +kernel
theorem dX4_advance_156 : decode cX4_advance 156 = .ok (.iconst 1, 1) := by decide +kernel
theorem dX4_advance_157 : decode cX4_advance 157 = .ok (.iconst 1, 1) := by decide +kernel
theorem dX4_advance_158 : decode cX4_advance 158 = .ok (.invokevirtual 58, 3) := by decide +kernel
theorem dX4_advance_161 : decode cX4_advance 161 = .ok (.return_, 1) := by decide +kernel
theorem dX4_take_0 : decode cX4_take 0 = .ok (.aload_n 0, 1) := by decide +kernel
theorem dX4_take_1 : decode cX4_take 1 = .ok (.iload_n 1, 1) := by decide +kernel
theorem dX4_take_2 : decode cX4_take 2 = .ok (.putfield 44, 3) := by decide +kernel
theorem dX4_take_5 : decode cX4_take 5 = .ok (.aload_n 0, 1) := by decide +kernel
theorem dX4_take_6 : decode cX4_take 6 = .ok (.aload_n 0, 1) := by decide +kernel
theorem dX4_take_7 : decode cX4_take 7 = .ok (.getfield 34, 3) := by decide +kernel
theorem dX4_take_10 : decode cX4_take 10 = .ok (.iload_n 2, 1) := by decide +kernel
theorem dX4_take_11 : decode cX4_take 11 = .ok (.iadd, 1) := by decide +kernel
theorem dX4_take_12 : decode cX4_take 12 = .ok (.putfield 25, 3) := by decide +kernel
theorem dX4_take_15 : decode cX4_take 15 = .ok (.return_, 1) := by decide +kernel
set_option maxRecDepth 20000 in
theorem ggX4_skipBlanks_X4_byteAt : GoodIn wsX4_skipBlanks wsX4_byteAt := goodIn_r _ [7, 2, 8, 9, 10, 11, 12, 13, 14] (by decide +kernel) (by decide +kernel)
set_option maxRecDepth 20000 in
theorem gX4_skipBlanks_X4_byteAt : GoodIn wsX4_skipBlanks (wsV RX4 40 RX4 yX4_byteAt wsX4_byteAt) := goodIn_app (goodIn_of _ (by decide +kernel)) ggX4_skipBlanks_X4_byteAt
theorem dX4_skipBlanks_0 : decode cX4_skipBlanks 0 = .ok (.aload_n 0, 1) := by decide +kernel
theorem dX4_skipBlanks_1 : decode cX4_skipBlanks 1 = .ok (.getfield 25, 3) := by decide +kernel
theorem dX4_skipBlanks_4 : decode cX4_skipBlanks 4 = .ok (.aload_n 0, 1) := by decide +kernel
theorem dX4_skipBlanks_5 : decode cX4_skipBlanks 5 = .ok (.getfield 21, 3) := by decide +kernel
theorem dX4_skipBlanks_8 : decode cX4_skipBlanks 8 = .ok (.if_icmp .ge 42, 3) := by decide +kernel
theorem dX4_skipBlanks_11 : decode cX4_skipBlanks 11 = .ok (.aload_n 0, 1) := by decide +kernel
theorem dX4_skipBlanks_12 : decode cX4_skipBlanks 12 = .ok (.aload_n 0, 1) := by decide +kernel
theorem dX4_skipBlanks_13 : decode cX4_skipBlanks 13 = .ok (.getfield 25, 3) := by decide +kernel
theorem dX4_skipBlanks_16 : decode cX4_skipBlanks 16 = .ok (.invokevirtual 40, 3) := by decide +kernel
theorem dX4_skipBlanks_19 : decode cX4_skipBlanks 19 = .ok (.bipush 32, 2) := by decide +kernel
theorem dX4_skipBlanks_21 : decode cX4_skipBlanks 21 = .ok (.if_icmp .eq 16, 3) := by decide +kernel
theorem dX4_skipBlanks_24 : decode cX4_skipBlanks 24 = .ok (.aload_n 0, 1) := by decide +kernel
theorem dX4_skipBlanks_25 : decode cX4_skipBlanks 25 = .ok (.aload_n 0, 1) := by decide +kernel
theorem dX4_skipBlanks_26 : decode cX4_skipBlanks 26 = .ok (.getfield 25, 3) := by decide +kernel
theorem dX4_skipBlanks_29 : decode cX4_skipBlanks 29 = .ok (.invokevirtual 40, 3) := by decide +kernel
theorem dX4_skipBlanks_32 : decode cX4_skipBlanks 32 = .ok (.bipush 10, 2) := by decide +kernel
theorem dX4_skipBlanks_34 : decode cX4_skipBlanks 34 = .ok (.if_icmp .ne 16, 3) := by decide +kernel
theorem dX4_skipBlanks_37 : decode cX4_skipBlanks 37 = .ok (.aload_n 0, 1) := by decide +kernel
theorem dX4_skipBlanks_38 : decode cX4_skipBlanks 38 = .ok (.dup, 1) := by decide +kernel
theorem dX4_skipBlanks_39 : decode cX4_skipBlanks 39 = .ok (.getfield 25, 3) := by decide +kernel
theorem dX4_skipBlanks_42 : decode cX4_skipBlanks 42 = .ok (.iconst 1, 1) := by decide +kernel
theorem dX4_skipBlanks_43 : decode cX4_skipBlanks 43 = .ok (.iadd, 1) := by decide +kernel
theorem dX4_skipBlanks_44 : decode cX4_skipBlanks 44 = .ok (.putfield 25, 3) := by decide +kernel
theorem dX4_skipBlanks_47 : decode cX4_skipBlanks 47 = .ok (.goto (-47), 3) := by decide +kernel
theorem dX4_skipBlanks_50 : decode cX4_skipBlanks 50 = .ok (.return_, 1) := by decide +kernel
set_option maxRecDepth 20000 in
theorem ggX4_takePitch_X4_byteAt : GoodIn wsX4_takePitch wsX4_byteAt := goodIn_r _ [8, 9, 10, 17, 18, 19, 20, 21, 22] (by decide +kernel) (by decide +kernel)
set_option maxRecDepth 20000 in
theorem gX4_takePitch_X4_byteAt : GoodIn wsX4_takePitch (wsV RX4 40 RX4 yX4_byteAt wsX4_byteAt) := goodIn_app (goodIn_of _ (by decide +kernel)) ggX4_takePitch_X4_byteAt
set_option maxRecDepth 20000 in
theorem ggX4_takePitch_X4_take : GoodIn wsX4_takePitch wsX4_take := goodIn_r _ [14, 15, 1, 16, 17, 18, 19, 20, 21, 22] (by decide +kernel) (by decide +kernel)
set_option maxRecDepth 20000 in
theorem gX4_takePitch_X4_take : GoodIn wsX4_takePitch (wsV RX4 58 RX4 yX4_take wsX4_take) := goodIn_app (goodIn_of _ (by decide +kernel)) ggX4_takePitch_X4_take
theorem dX4_takePitch_0 : decode cX4_takePitch 0 = .ok (.iconst 0, 1) := by decide +kernel
theorem dX4_takePitch_1 : decode cX4_takePitch 1 = .ok (.istore_n 2, 1) := by decide +kernel
theorem dX4_takePitch_2 : decode cX4_takePitch 2 = .ok (.aload_n 0, 1) := by decide +kernel
theorem dX4_takePitch_3 : decode cX4_takePitch 3 = .ok (.getfield 34, 3) := by decide +kernel
theorem dX4_takePitch_6 : decode cX4_takePitch 6 = .ok (.iconst 1, 1) := by decide +kernel
theorem dX4_takePitch_7 : decode cX4_takePitch 7 = .ok (.iadd, 1) := by decide +kernel
theorem dX4_takePitch_8 : decode cX4_takePitch 8 = .ok (.istore_n 3, 1) := by decide +kernel
theorem dX4_takePitch_9 : decode cX4_takePitch 9 = .ok (.aload_n 0, 1) := by decide +kernel
theorem dX4_takePitch_10 : decode cX4_takePitch 10 = .ok (.iload_n 3, 1) := by decide +kernel
theorem dX4_takePitch_11 : decode cX4_takePitch 11 = .ok (.invokevirtual 40, 3) := by decide +kernel
theorem dX4_takePitch_14 : decode cX4_takePitch 14 = .ok (.bipush 43, 2) := by decide +kernel
theorem dX4_takePitch_16 : decode cX4_takePitch 16 = .ok (.if_icmp .ne 11, 3) := by decide +kernel
theorem dX4_takePitch_19 : decode cX4_takePitch 19 = .ok (.iconst 1, 1) := by decide +kernel
theorem dX4_takePitch_20 : decode cX4_takePitch 20 = .ok (.istore_n 2, 1) := by decide +kernel
theorem dX4_takePitch_21 : decode cX4_takePitch 21 = .ok (.iinc 3 1, 3) := by decide +kernel
theorem dX4_takePitch_24 : decode cX4_takePitch 24 = .ok (.goto 18, 3) := by decide +kernel
theorem dX4_takePitch_27 : decode cX4_takePitch 27 = .ok (.aload_n 0, 1) := by decide +kernel
theorem dX4_takePitch_28 : decode cX4_takePitch 28 = .ok (.iload_n 3, 1) := by decide +kernel
theorem dX4_takePitch_29 : decode cX4_takePitch 29 = .ok (.invokevirtual 40, 3) := by decide +kernel
theorem dX4_takePitch_32 : decode cX4_takePitch 32 = .ok (.bipush 45, 2) := by decide +kernel
theorem dX4_takePitch_34 : decode cX4_takePitch 34 = .ok (.if_icmp .ne 8, 3) := by decide +kernel
theorem dX4_takePitch_37 : decode cX4_takePitch 37 = .ok (.iconst (-1), 1) := by decide +kernel
theorem dX4_takePitch_38 : decode cX4_takePitch 38 = .ok (.istore_n 2, 1) := by decide +kernel
theorem dX4_takePitch_39 : decode cX4_takePitch 39 = .ok (.iinc 3 1, 3) := by decide +kernel
theorem dX4_takePitch_42 : decode cX4_takePitch 42 = .ok (.aload_n 0, 1) := by decide +kernel
theorem dX4_takePitch_43 : decode cX4_takePitch 43 = .ok (.iload_n 3, 1) := by decide +kernel
theorem dX4_takePitch_44 : decode cX4_takePitch 44 = .ok (.invokevirtual 40, 3) := by decide +kernel
theorem dX4_takePitch_47 : decode cX4_takePitch 47 = .ok (.bipush 48, 2) := by decide +kernel
theorem dX4_takePitch_49 : decode cX4_takePitch 49 = .ok (.isub, 1) := by decide +kernel
theorem dX4_takePitch_50 : decode cX4_takePitch 50 = .ok (.istore 4, 2) := by decide +kernel
theorem dX4_takePitch_52 : decode cX4_takePitch 52 = .ok (.iload 4, 2) := by decide +kernel
theorem dX4_takePitch_54 : decode cX4_takePitch 54 = .ok (.ifCond .lt 22, 3) := by decide +kernel
theorem dX4_takePitch_57 : decode cX4_takePitch 57 = .ok (.iload 4, 2) := by decide +kernel
theorem dX4_takePitch_59 : decode cX4_takePitch 59 = .ok (.bipush 8, 2) := by decide +kernel
theorem dX4_takePitch_61 : decode cX4_takePitch 61 = .ok (.if_icmp .gt 15, 3) := by decide +kernel
theorem dX4_takePitch_64 : decode cX4_takePitch 64 = .ok (.iload_n 1, 1) := by decide +kernel
theorem dX4_takePitch_65 : decode cX4_takePitch 65 = .ok (.ifCond .lt 11, 3) := by decide +kernel
theorem dX4_takePitch_68 : decode cX4_takePitch 68 = .ok (.iload_n 1, 1) := by decide +kernel
theorem dX4_takePitch_69 : decode cX4_takePitch 69 = .ok (.getstatic 69, 3) := by decide +kernel
theorem dX4_takePitch_72 : decode cX4_takePitch 72 = .ok (.arraylength, 1) := by decide +kernel
theorem dX4_takePitch_73 : decode cX4_takePitch 73 = .ok (.if_icmp .lt 10, 3) := by decide +kernel
theorem dX4_takePitch_76 : decode cX4_takePitch 76 = .ok (.aload_n 0, 1) := by decide +kernel
theorem dX4_takePitch_77 : decode cX4_takePitch 77 = .ok (.iconst 1, 1) := by decide +kernel
theorem dX4_takePitch_78 : decode cX4_takePitch 78 = .ok (.iconst 1, 1) := by decide +kernel
theorem dX4_takePitch_79 : decode cX4_takePitch 79 = .ok (.invokevirtual 58, 3) := by decide +kernel
theorem dX4_takePitch_82 : decode cX4_takePitch 82 = .ok (.return_, 1) := by decide +kernel
theorem dX4_takePitch_83 : decode cX4_takePitch 83 = .ok (.aload_n 0, 1) := by decide +kernel
theorem dX4_takePitch_84 : decode cX4_takePitch 84 = .ok (.bipush 12, 2) := by decide +kernel
theorem dX4_takePitch_86 : decode cX4_takePitch 86 = .ok (.iload 4, 2) := by decide +kernel
theorem dX4_takePitch_88 : decode cX4_takePitch 88 = .ok (.imul, 1) := by decide +kernel
theorem dX4_takePitch_89 : decode cX4_takePitch 89 = .ok (.getstatic 69, 3) := by decide +kernel
theorem dX4_takePitch_92 : decode cX4_takePitch 92 = .ok (.iload_n 1, 1) := by decide +kernel
theorem dX4_takePitch_93 : decode cX4_takePitch 93 = .ok (.iaload, 1) := by decide +kernel
theorem dX4_takePitch_94 : decode cX4_takePitch 94 = .ok (.iadd, 1) := by decide +kernel
theorem dX4_takePitch_95 : decode cX4_takePitch 95 = .ok (.iload_n 2, 1) := by decide +kernel
theorem dX4_takePitch_96 : decode cX4_takePitch 96 = .ok (.iadd, 1) := by decide +kernel
theorem dX4_takePitch_97 : decode cX4_takePitch 97 = .ok (.putfield 37, 3) := by decide +kernel
theorem dX4_takePitch_100 : decode cX4_takePitch 100 = .ok (.aload_n 0, 1) := by decide +kernel
theorem dX4_takePitch_101 : decode cX4_takePitch 101 = .ok (.iconst 2, 1) := by decide +kernel
theorem dX4_takePitch_102 : decode cX4_takePitch 102 = .ok (.iload_n 3, 1) := by decide +kernel
theorem dX4_takePitch_103 : decode cX4_takePitch 103 = .ok (.iconst 1, 1) := by decide +kernel
theorem dX4_takePitch_104 : decode cX4_takePitch 104 = .ok (.iadd, 1) := by decide +kernel
theorem dX4_takePitch_105 : decode cX4_takePitch 105 = .ok (.aload_n 0, 1) := by decide +kernel
theorem dX4_takePitch_106 : decode cX4_takePitch 106 = .ok (.getfield 34, 3) := by decide +kernel
theorem dX4_takePitch_109 : decode cX4_takePitch 109 = .ok (.isub, 1) := by decide +kernel
theorem dX4_takePitch_110 : decode cX4_takePitch 110 = .ok (.invokevirtual 58, 3) := by decide +kernel
theorem dX4_takePitch_113 : decode cX4_takePitch 113 = .ok (.return_, 1) := by decide +kernel
set_option maxRecDepth 20000 in
theorem ggX4_takeNumber_X4_byteAt : GoodIn wsX4_takeNumber wsX4_byteAt := goodIn_r _ [8, 2, 9, 19, 20, 21, 22, 23, 24] (by decide +kernel) (by decide +kernel)
set_option maxRecDepth 20000 in
theorem gX4_takeNumber_X4_byteAt : GoodIn wsX4_takeNumber (wsV RX4 40 RX4 yX4_byteAt wsX4_byteAt) := goodIn_app (goodIn_of _ (by decide +kernel)) ggX4_takeNumber_X4_byteAt
set_option maxRecDepth 20000 in
theorem ggX4_takeNumber_X4_isDigit : GoodIn wsX4_takeNumber wsX4_isDigit := goodIn_r _ [12] (by decide +kernel) (by decide +kernel)
set_option maxRecDepth 20000 in
theorem gX4_takeNumber_X4_isDigit : GoodIn wsX4_takeNumber (va_wsS RX4 51 yX4_isDigit wsX4_isDigit) := goodIn_app (goodIn_of _ (by decide +kernel)) ggX4_takeNumber_X4_isDigit
set_option maxRecDepth 20000 in
theorem ggX4_takeNumber_X4_take : GoodIn wsX4_takeNumber wsX4_take := goodIn_r _ [16, 17, 1, 18, 19, 20, 21, 22, 23, 24] (by decide +kernel) (by decide +kernel)
set_option maxRecDepth 20000 in
theorem gX4_takeNumber_X4_take : GoodIn wsX4_takeNumber (wsV RX4 58 RX4 yX4_take wsX4_take) := goodIn_app (goodIn_of _ (by decide +kernel)) ggX4_takeNumber_X4_take
theorem dX4_takeNumber_0 : decode cX4_takeNumber 0 = .ok (.aload_n 0, 1) := by decide +kernel
theorem dX4_takeNumber_1 : decode cX4_takeNumber 1 = .ok (.getfield 34, 3) := by decide +kernel
theorem dX4_takeNumber_4 : decode cX4_takeNumber 4 = .ok (.istore_n 1, 1) := by decide +kernel
theorem dX4_takeNumber_5 : decode cX4_takeNumber 5 = .ok (.iload_n 1, 1) := by decide +kernel
theorem dX4_takeNumber_6 : decode cX4_takeNumber 6 = .ok (.aload_n 0, 1) := by decide +kernel
theorem dX4_takeNumber_7 : decode cX4_takeNumber 7 = .ok (.getfield 21, 3) := by decide +kernel
theorem dX4_takeNumber_10 : decode cX4_takeNumber 10 = .ok (.if_icmp .ge 50, 3) := by decide +kernel
theorem dX4_takeNumber_13 : decode cX4_takeNumber 13 = .ok (.aload_n 0, 1) := by decide +kernel
theorem dX4_takeNumber_14 : decode cX4_takeNumber 14 = .ok (.iload_n 1, 1) := by decide +kernel
theorem dX4_takeNumber_15 : decode cX4_takeNumber 15 = .ok (.invokevirtual 40, 3) := by decide +kernel
theorem dX4_takeNumber_18 : decode cX4_takeNumber 18 = .ok (.invokestatic 51, 3) := by decide +kernel
theorem dX4_takeNumber_21 : decode cX4_takeNumber 21 = .ok (.ifCond .eq 39, 3) := by decide +kernel
theorem dX4_takeNumber_24 : decode cX4_takeNumber 24 = .ok (.iload_n 1, 1) := by decide +kernel
theorem dX4_takeNumber_25 : decode cX4_takeNumber 25 = .ok (.aload_n 0, 1) := by decide +kernel
theorem dX4_takeNumber_26 : decode cX4_takeNumber 26 = .ok (.getfield 34, 3) := by decide +kernel
theorem dX4_takeNumber_29 : decode cX4_takeNumber 29 = .ok (.isub, 1) := by decide +kernel
theorem dX4_takeNumber_30 : decode cX4_takeNumber 30 = .ok (.iconst 3, 1) := by decide +kernel
theorem dX4_takeNumber_31 : decode cX4_takeNumber 31 = .ok (.if_icmp .ge 23, 3) := by decide +kernel
theorem dX4_takeNumber_34 : decode cX4_takeNumber 34 = .ok (.aload_n 0, 1) := by decide +kernel
theorem dX4_takeNumber_35 : decode cX4_takeNumber 35 = .ok (.bipush 10, 2) := by decide +kernel
theorem dX4_takeNumber_37 : decode cX4_takeNumber 37 = .ok (.aload_n 0, 1) := by decide +kernel
theorem dX4_takeNumber_38 : decode cX4_takeNumber 38 = .ok (.getfield 37, 3) := by decide +kernel
theorem dX4_takeNumber_41 : decode cX4_takeNumber 41 = .ok (.imul, 1) := by decide +kernel
theorem dX4_takeNumber_42 : decode cX4_takeNumber 42 = .ok (.aload_n 0, 1) := by decide +kernel
theorem dX4_takeNumber_43 : decode cX4_takeNumber 43 = .ok (.iload_n 1, 1) := by decide +kernel
theorem dX4_takeNumber_44 : decode cX4_takeNumber 44 = .ok (.invokevirtual 40, 3) := by decide +kernel
theorem dX4_takeNumber_47 : decode cX4_takeNumber 47 = .ok (.iadd, 1) := by decide +kernel
theorem dX4_takeNumber_48 : decode cX4_takeNumber 48 = .ok (.bipush 48, 2) := by decide +kernel
theorem dX4_takeNumber_50 : decode cX4_takeNumber 50 = .ok (.isub, 1) := by decide +kernel
theorem dX4_takeNumber_51 : decode cX4_takeNumber 51 = .ok (.putfield 37, 3) := by decide +kernel
theorem dX4_takeNumber_54 : decode cX4_takeNumber 54 = .ok (.iinc 1 1, 3) := by decide +kernel
theorem dX4_takeNumber_57 : decode cX4_takeNumber 57 = .ok (.goto (-52), 3) := by decide +kernel
theorem dX4_takeNumber_60 : decode cX4_takeNumber 60 = .ok (.iload_n 1, 1) := by decide +kernel
theorem dX4_takeNumber_61 : decode cX4_takeNumber 61 = .ok (.aload_n 0, 1) := by decide +kernel
theorem dX4_takeNumber_62 : decode cX4_takeNumber 62 = .ok (.getfield 34, 3) := by decide +kernel
theorem dX4_takeNumber_65 : decode cX4_takeNumber 65 = .ok (.isub, 1) := by decide +kernel
theorem dX4_takeNumber_66 : decode cX4_takeNumber 66 = .ok (.iconst 3, 1) := by decide +kernel
theorem dX4_takeNumber_67 : decode cX4_takeNumber 67 = .ok (.if_icmp .le 8, 3) := by decide +kernel
theorem dX4_takeNumber_70 : decode cX4_takeNumber 70 = .ok (.aload_n 0, 1) := by decide +kernel
theorem dX4_takeNumber_71 : decode cX4_takeNumber 71 = .ok (.iconst 0, 1) := by decide +kernel
theorem dX4_takeNumber_72 : decode cX4_takeNumber 72 = .ok (.putfield 37, 3) := by decide +kernel
theorem dX4_takeNumber_75 : decode cX4_takeNumber 75 = .ok (.aload_n 0, 1) := by decide +kernel
theorem dX4_takeNumber_76 : decode cX4_takeNumber 76 = .ok (.iconst 3, 1) := by decide +kernel
theorem dX4_takeNumber_77 : decode cX4_takeNumber 77 = .ok (.iload_n 1, 1) := by decide +kernel
theorem dX4_takeNumber_78 : decode cX4_takeNumber 78 = .ok (.aload_n 0, 1) := by decide +kernel
theorem dX4_takeNumber_79 : decode cX4_takeNumber 79 = .ok (.getfield 34, 3) := by decide +kernel
theorem dX4_takeNumber_82 : decode cX4_takeNumber 82 = .ok (.isub, 1) := by decide +kernel
theorem dX4_takeNumber_83 : decode cX4_takeNumber 83 = .ok (.invokevirtual 58, 3) := by decide +kernel
theorem dX4_takeNumber_86 : decode cX4_takeNumber 86 = .ok (.return_, 1) := by decide +kernel
