set_option maxRecDepth 20000 in
theorem ggX2_init_X4_init : GoodIn wsX2_init wsX4_init := goodIn_r _ [15, 16, 2, 3, 17, 18, 24, 25, 26, 27, 28, 29] (by decide +kernel) (by decide +kernel)
set_option maxRecDepth 20000 in
theorem gX2_init_X4_init_n13 : GoodIn wsX2_init (wsX4_init) := ggX2_init_X4_init
set_option maxRecDepth 20000 in
theorem ggX2_init_X3_init : GoodIn wsX2_init wsX3_init := goodIn_r _ [20, 21, 2, 3, 22, 23, 40, 41, 42, 43, 44, 45, 46] (by decide +kernel) (by decide +kernel)
set_option maxRecDepth 20000 in
theorem gX2_init_X3_init_n20 : GoodIn wsX2_init (wsX3_init) := ggX2_init_X3_init
theorem dX2_init_0 : decode cX2_init 0 = .ok (.aload_n 0, 1) := by decide +kernel
theorem dX2_init_1 : decode cX2_init 1 = .ok (.invokespecial 5, 3) := by decide +kernel
theorem dX2_init_4 : decode cX2_init 4 = .ok (.aload_n 0, 1) := by decide +kernel
theorem dX2_init_5 : decode cX2_init 5 = .ok (.new 11, 3) := by decide +kernel
theorem dX2_init_8 : decode cX2_init 8 = .ok (.dup, 1) := by decide +kernel
theorem dX2_init_9 : decode cX2_init 9 = .ok (.invokespecial 13, 3) := by decide +kernel
theorem dX2_init_12 : decode cX2_init 12 = .ok (.putfield 14, 3) := by decide +kernel
theorem dX2_init_15 : decode cX2_init 15 = .ok (.aload_n 0, 1) := by decide +kernel
theorem dX2_init_16 : decode cX2_init 16 = .ok (.new 18, 3) := by decide +kernel
theorem dX2_init_19 : decode cX2_init 19 = .ok (.dup, 1) := by decide +kernel
theorem dX2_init_20 : decode cX2_init 20 = .ok (.invokespecial 20, 3) := by decide +kernel
theorem dX2_init_23 : decode cX2_init 23 = .ok (.putfield 21, 3) := by decide +kernel
theorem dX2_init_26 : decode cX2_init 26 = .ok (.aload_n 0, 1) := by decide +kernel
theorem dX2_init_27 : decode cX2_init 27 = .ok (.iconst 0, 1) := by decide +kernel
theorem dX2_init_28 : decode cX2_init 28 = .ok (.putfield 25, 3) := by decide +kernel
theorem dX2_init_31 : decode cX2_init 31 = .ok (.aload_n 0, 1) := by decide +kernel
theorem dX2_init_32 : decode cX2_init 32 = .ok (.iconst (-1), 1) := by decide +kernel
theorem dX2_init_33 : decode cX2_init 33 = .ok (.putfield 29, 3) := by decide +kernel
theorem dX2_init_36 : decode cX2_init 36 = .ok (.return_, 1) := by decide +kernel
theorem dX2_trade_0 : decode cX2_trade 0 = .ok (.aload_n 0, 1) := by decide +kernel
theorem dX2_trade_1 : decode cX2_trade 1 = .ok (.getfield 21, 3) := by decide +kernel
theorem dX2_trade_4 : decode cX2_trade 4 = .ok (.astore_n 2, 1) := by decide +kernel
theorem dX2_trade_5 : decode cX2_trade 5 = .ok (.aload_n 0, 1) := by decide +kernel
theorem dX2_trade_6 : decode cX2_trade 6 = .ok (.aload_n 1, 1) := by decide +kernel
theorem dX2_trade_7 : decode cX2_trade 7 = .ok (.putfield 21, 3) := by decide +kernel
theorem dX2_trade_10 : decode cX2_trade 10 = .ok (.aload_n 2, 1) := by decide +kernel
theorem dX2_trade_11 : decode cX2_trade 11 = .ok (.areturn, 1) := by decide +kernel
set_option maxRecDepth 20000 in
theorem ggX2_read_X3_clear : GoodIn wsX2_read wsX3_clear := goodIn_r _ [17, 18, 19, 20, 21, 22, 23, 263, 264, 265, 266, 267, 268, 269] (by decide +kernel) (by decide +kernel)
set_option maxRecDepth 20000 in
theorem gX2_read_X3_clear : GoodIn wsX2_read (wsV RX2 51 RX3 yX3_clear wsX3_clear) := goodIn_app (goodIn_of _ (by decide +kernel)) ggX2_read_X3_clear
set_option maxRecDepth 20000 in
theorem ggX2_read_X4_begin : GoodIn wsX2_read wsX4_begin := goodIn_r _ [28, 29, 30, 31, 32, 33, 34, 35, 36, 37, 38, 27, 39, 40, 41, 42, 43, 44, 45, 46, 47, 48, 49, 50, 51, 52, 53, 54, 55, 56, 57, 58, 59, 60, 61, 62, 63, 64, 65, 66, 67, 68, 69, 70, 71, 72, 73, 74, 75, 76, 77, 78, 79, 80, 81, 82, 83, 84, 85, 86, 87, 88, 89, 90, 91, 92, 93, 94, 95, 96, 97, 98, 99, 100, 101, 102, 103, 104, 105, 106, 107, 108, 109, 110, 111, 112, 113, 114, 115, 116, 117, 118, 119, 120, 121, 122, 123, 124, 125, 126, 127, 128, 129, 130, 131, 132, 133, 134, 135, 136, 137, 138, 139, 140, 141, 142, 143, 144, 145, 146, 147, 148, 149, 150, 151, 152, 257, 258, 259, 260, 261, 262] (by decide +kernel) (by decide +kernel)
set_option maxRecDepth 20000 in
theorem gX2_read_X4_begin : GoodIn wsX2_read (wsV RX2 54 RX4 yX4_begin wsX4_begin) := goodIn_app (goodIn_of _ (by decide +kernel)) ggX2_read_X4_begin
set_option maxRecDepth 20000 in
theorem ggX2_read_X2_faultOfToken : GoodIn wsX2_read wsX2_faultOfToken := goodIn_r _ [157, 8, 10, 7, 158, 159, 160, 156, 161, 162, 163, 164, 165, 1, 166, 167, 168, 169, 2, 3, 170, 171, 172, 16, 173, 18, 174, 175, 176, 177, 178, 179, 180, 181, 182, 183, 184, 185, 186, 187, 247, 248, 249, 250, 251, 252, 253, 254, 255, 256, 257, 258, 259, 260, 261, 262, 263, 264, 265, 266, 267, 268, 269] (by decide +kernel) (by decide +kernel)
set_option maxRecDepth 20000 in
theorem gX2_read_X2_faultOfToken : GoodIn wsX2_read (wsV RX2 58 RX2 yX2_faultOfToken wsX2_faultOfToken) := goodIn_app (goodIn_of _ (by decide +kernel)) ggX2_read_X2_faultOfToken
set_option maxRecDepth 20000 in
theorem ggX2_read_X2_takeToken : GoodIn wsX2_read wsX2_takeToken := goodIn_r _ [191, 8, 10, 1, 7, 158, 192, 193, 194, 156, 195, 4, 2, 196, 197, 198, 199, 5, 3, 200, 201, 202, 203, 204, 205, 206, 16, 207, 18, 19, 22, 23, 21, 208, 209, 210, 211, 182, 212, 213, 214, 215, 162, 163, 164, 165, 216, 217, 218, 219, 187, 175, 176, 177, 178, 179, 180, 181, 220, 221, 222, 223, 20, 224, 171, 172, 173, 225, 226, 227, 228, 229, 230, 231, 232, 233, 6, 234, 235, 236, 237, 238, 239, 240, 241, 242, 243, 244, 245, 247, 248, 249, 250, 251, 252, 253, 254, 255, 256, 257, 258, 259, 260, 261, 262, 263, 264, 265, 266, 267, 268, 269] (by decide +kernel) (by decide +kernel)
set_option maxRecDepth 20000 in
theorem gX2_read_X2_takeToken : GoodIn wsX2_read (wsV RX2 65 RX2 yX2_takeToken wsX2_takeToken) := goodIn_app (goodIn_of _ (by decide +kernel)) ggX2_read_X2_takeToken
set_option maxRecDepth 20000 in
theorem ggX2_read_X4_advance : GoodIn wsX2_read wsX4_advance := goodIn_r _ [39, 35, 40, 41, 42, 43, 44, 45, 27, 46, 34, 47, 48, 49, 50, 29, 51, 52, 53, 54, 55, 56, 57, 58, 59, 60, 61, 62, 63, 64, 65, 66, 67, 68, 69, 70, 71, 72, 73, 74, 75, 76, 77, 78, 79, 80, 81, 82, 83, 84, 85, 86, 87, 88, 89, 90, 91, 92, 93, 94, 95, 96, 32, 97, 98, 31, 33, 99, 100, 101, 102, 103, 104, 105, 106, 107, 108, 109, 110, 111, 112, 113, 114, 115, 116, 117, 118, 119, 120, 121, 122, 123, 124, 125, 126, 127, 128, 129, 130, 131, 132, 133, 134, 135, 136, 137, 138, 139, 140, 141, 142, 143, 144, 145, 146, 147, 148, 149, 150, 151, 152, 257, 258, 259, 260, 261, 262] (by decide +kernel) (by decide +kernel)
set_option maxRecDepth 20000 in
theorem gX2_read_X4_advance : GoodIn wsX2_read (wsV RX2 68 RX4 yX4_advance wsX4_advance) := goodIn_app (goodIn_of _ (by decide +kernel)) ggX2_read_X4_advance
theorem dX2_read_0 : decode cX2_read 0 = .ok (.aload_n 0, 1) := by decide +kernel
theorem dX2_read_1 : decode cX2_read 1 = .ok (.iconst 1, 1) := by decide +kernel
theorem dX2_read_2 : decode cX2_read 2 = .ok (.putfield 32, 3) := by decide +kernel
theorem dX2_read_5 : decode cX2_read 5 = .ok (.aload_n 0, 1) := by decide +kernel
theorem dX2_read_6 : decode cX2_read 6 = .ok (.iconst 0, 1) := by decide +kernel
theorem dX2_read_7 : decode cX2_read 7 = .ok (.putfield 35, 3) := by decide +kernel
theorem dX2_read_10 : decode cX2_read 10 = .ok (.aload_n 0, 1) := by decide +kernel
theorem dX2_read_11 : decode cX2_read 11 = .ok (.iconst 0, 1) := by decide +kernel
theorem dX2_read_12 : decode cX2_read 12 = .ok (.putfield 38, 3) := by decide +kernel
theorem dX2_read_15 : decode cX2_read 15 = .ok (.aload_n 0, 1) := by decide +kernel
theorem dX2_read_16 : decode cX2_read 16 = .ok (.iconst 0, 1) := by decide +kernel
theorem dX2_read_17 : decode cX2_read 17 = .ok (.putfield 41, 3) := by decide +kernel
theorem dX2_read_20 : decode cX2_read 20 = .ok (.aload_n 0, 1) := by decide +kernel
theorem dX2_read_21 : decode cX2_read 21 = .ok (.iconst 0, 1) := by decide +kernel
theorem dX2_read_22 : decode cX2_read 22 = .ok (.putfield 45, 3) := by decide +kernel
theorem dX2_read_25 : decode cX2_read 25 = .ok (.aload_n 0, 1) := by decide +kernel
theorem dX2_read_26 : decode cX2_read 26 = .ok (.iconst 0, 1) := by decide +kernel
theorem dX2_read_27 : decode cX2_read 27 = .ok (.putfield 48, 3) := by decide +kernel
theorem dX2_read_30 : decode cX2_read 30 = .ok (.aload_n 0, 1) := by decide +kernel
theorem dX2_read_31 : decode cX2_read 31 = .ok (.getfield 21, 3) := by decide +kernel
theorem dX2_read_34 : decode cX2_read 34 = .ok (.invokevirtual 51, 3) := by decide +kernel
theorem dX2_read_37 : decode cX2_read 37 = .ok (.aload_n 0, 1) := by decide +kernel
theorem dX2_read_38 : decode cX2_read 38 = .ok (.getfield 14, 3) := by decide +kernel
theorem dX2_read_41 : decode cX2_read 41 = .ok (.aload_n 1, 1) := by decide +kernel
theorem dX2_read_42 : decode cX2_read 42 = .ok (.iload_n 2, 1) := by decide +kernel
theorem dX2_read_43 : decode cX2_read 43 = .ok (.invokevirtual 54, 3) := by decide +kernel
theorem dX2_read_46 : decode cX2_read 46 = .ok (.aload_n 0, 1) := by decide +kernel
theorem dX2_read_47 : decode cX2_read 47 = .ok (.aload_n 0, 1) := by decide +kernel
theorem dX2_read_48 : decode cX2_read 48 = .ok (.invokevirtual 58, 3) := by decide +kernel
theorem dX2_read_51 : decode cX2_read 51 = .ok (.putfield 25, 3) := by decide +kernel
theorem dX2_read_54 : decode cX2_read 54 = .ok (.iconst 0, 1) := by decide +kernel
theorem dX2_read_55 : decode cX2_read 55 = .ok (.istore_n 3, 1) := by decide +kernel
theorem dX2_read_56 : decode cX2_read 56 = .ok (.iload_n 3, 1) := by decide +kernel
theorem dX2_read_57 : decode cX2_read 57 = .ok (.iload_n 2, 1) := by decide +kernel
theorem dX2_read_58 : decode cX2_read 58 = .ok (.if_icmp .ge 45, 3) := by decide +kernel
theorem dX2_read_61 : decode cX2_read 61 = .ok (.aload_n 0, 1) := by decide +kernel
theorem dX2_read_62 : decode cX2_read 62 = .ok (.getfield 25, 3) := by decide +kernel
theorem dX2_read_65 : decode cX2_read 65 = .ok (.ifCond .ne 38, 3) := by decide +kernel
theorem dX2_read_68 : decode cX2_read 68 = .ok (.aload_n 0, 1) := by decide +kernel
theorem dX2_read_69 : decode cX2_read 69 = .ok (.getfield 14, 3) := by decide +kernel
theorem dX2_read_72 : decode cX2_read 72 = .ok (.getfield 62, 3) := by decide +kernel
theorem dX2_read_75 : decode cX2_read 75 = .ok (.ifCond .eq 28, 3) := by decide +kernel
theorem dX2_read_78 : decode cX2_read 78 = .ok (.aload_n 0, 1) := by decide +kernel
theorem dX2_read_79 : decode cX2_read 79 = .ok (.invokevirtual 65, 3) := by decide +kernel
theorem dX2_read_82 : decode cX2_read 82 = .ok (.aload_n 0, 1) := by decide +kernel
theorem dX2_read_83 : decode cX2_read 83 = .ok (.getfield 14, 3) := by decide +kernel
theorem dX2_read_86 : decode cX2_read 86 = .ok (.invokevirtual 68, 3) := by decide +kernel
theorem dX2_read_89 : decode cX2_read 89 = .ok (.aload_n 0, 1) := by decide +kernel
theorem dX2_read_90 : decode cX2_read 90 = .ok (.aload_n 0, 1) := by decide +kernel
theorem dX2_read_91 : decode cX2_read 91 = .ok (.invokevirtual 58, 3) := by decide +kernel
theorem dX2_read_94 : decode cX2_read 94 = .ok (.putfield 25, 3) := by decide +kernel
theorem dX2_read_97 : decode cX2_read 97 = .ok (.iinc 3 1, 3) := by decide +kernel
theorem dX2_read_100 : decode cX2_read 100 = .ok (.goto (-44), 3) := by decide +kernel
theorem dX2_read_103 : decode cX2_read 103 = .ok (.aload_n 0, 1) := by decide +kernel
theorem dX2_read_104 : decode cX2_read 104 = .ok (.aload_n 0, 1) := by decide +kernel
theorem dX2_read_105 : decode cX2_read 105 = .ok (.getfield 25, 3) := by decide +kernel
theorem dX2_read_108 : decode cX2_read 108 = .ok (.ifCond .ne 7, 3) := by decide +kernel
theorem dX2_read_111 : decode cX2_read 111 = .ok (.iconst (-1), 1) := by decide +kernel
theorem dX2_read_112 : decode cX2_read 112 = .ok (.goto 10, 3) := by decide +kernel
theorem dX2_read_115 : decode cX2_read 115 = .ok (.aload_n 0, 1) := by decide +kernel
theorem dX2_read_116 : decode cX2_read 116 = .ok (.getfield 14, 3) := by decide +kernel
theorem dX2_read_119 : decode cX2_read 119 = .ok (.getfield 71, 3) := by decide +kernel
theorem dX2_read_122 : decode cX2_read 122 = .ok (.putfield 29, 3) := by decide +kernel
theorem dX2_read_125 : decode cX2_read 125 = .ok (.aload_n 0, 1) := by decide +kernel
theorem dX2_read_126 : decode cX2_read 126 = .ok (.getfield 25, 3) := by decide +kernel
theorem dX2_read_129 : decode cX2_read 129 = .ok (.ireturn, 1) := by decide +kernel
set_option maxRecDepth 20000 in
theorem ggX2_faultOfToken_X2_standsAhead : GoodIn wsX2_faultOfToken wsX2_standsAhead := goodIn_r _ [8] (by decide +kernel) (by decide +kernel)
set_option maxRecDepth 20000 in
theorem gX2_faultOfToken_X2_standsAhead : GoodIn wsX2_faultOfToken (va_wsS RX2 74 yX2_standsAhead wsX2_standsAhead) := goodIn_app (goodIn_of _ (by decide +kernel)) ggX2_faultOfToken_X2_standsAhead
set_option maxRecDepth 20000 in
theorem ggX2_faultOfToken_X2_standsIn : GoodIn wsX2_faultOfToken wsX2_standsIn := goodIn_r _ [12, 13, 40, 41, 42, 43, 44, 45, 46, 47, 48, 49] (by decide +kernel) (by decide +kernel)
set_option maxRecDepth 20000 in
theorem gX2_faultOfToken_X2_standsIn : GoodIn wsX2_faultOfToken (wsV RX2 78 RX2 yX2_standsIn wsX2_standsIn) := goodIn_app (goodIn_of _ (by decide +kernel)) ggX2_faultOfToken_X2_standsIn
set_option maxRecDepth 20000 in
theorem ggX2_faultOfToken_X2_isTooMuch : GoodIn wsX2_faultOfToken wsX2_isTooMuch := goodIn_r _ [17, 1, 2, 18, 19, 3, 4, 20, 21, 22, 23, 24, 25, 9, 10, 11, 7, 12, 13, 26, 27, 28, 29, 30, 31, 32, 33, 34, 40, 41, 42, 43, 44, 45, 46, 47, 48, 49, 50, 51, 52, 53, 54, 55, 56, 57, 58, 59, 60, 61, 62] (by decide +kernel) (by decide +kernel)
set_option maxRecDepth 20000 in
theorem gX2_faultOfToken_X2_isTooMuch : GoodIn wsX2_faultOfToken (wsV RX2 82 RX2 yX2_isTooMuch wsX2_isTooMuch) := goodIn_app (goodIn_of _ (by decide +kernel)) ggX2_faultOfToken_X2_isTooMuch
set_option maxRecDepth 20000 in
theorem ggX2_faultOfToken_X3_openHasPitch : GoodIn wsX2_faultOfToken wsX3_openHasPitch := goodIn_r _ [38, 25, 39, 27, 28, 23, 29, 30, 31, 32, 33, 34, 56, 57, 58, 59, 60, 61, 62] (by decide +kernel) (by decide +kernel)
set_option maxRecDepth 20000 in
theorem gX2_faultOfToken_X3_openHasPitch : GoodIn wsX2_faultOfToken (wsV RX2 89 RX3 yX3_openHasPitch wsX3_openHasPitch) := goodIn_app (goodIn_of _ (by decide +kernel)) ggX2_faultOfToken_X3_openHasPitch
theorem dX2_faultOfToken_0 : decode cX2_faultOfToken 0 = .ok (.aload_n 0, 1) := by decide +kernel
theorem dX2_faultOfToken_1 : decode cX2_faultOfToken 1 = .ok (.aload_n 0, 1) := by decide +kernel
theorem dX2_faultOfToken_2 : decode cX2_faultOfToken 2 = .ok (.getfield 14, 3) := by decide +kernel
theorem dX2_faultOfToken_5 : decode cX2_faultOfToken 5 = .ok (.getfield 62, 3) := by decide +kernel
theorem dX2_faultOfToken_8 : decode cX2_faultOfToken 8 = .ok (.invokestatic 74, 3) := by decide +kernel
theorem dX2_faultOfToken_11 : decode cX2_faultOfToken 11 = .ok (.invokevirtual 78, 3) := by decide +kernel
theorem dX2_faultOfToken_14 : decode cX2_faultOfToken 14 = .ok (.ifCond .ne 5, 3) := by decide +kernel
theorem dX2_faultOfToken_17 : decode cX2_faultOfToken 17 = .ok (.iconst 1, 1) := by decide +kernel
theorem dX2_faultOfToken_18 : decode cX2_faultOfToken 18 = .ok (.ireturn, 1) := by decide +kernel
theorem dX2_faultOfToken_19 : decode cX2_faultOfToken 19 = .ok (.aload_n 0, 1) := by decide +kernel
theorem dX2_faultOfToken_20 : decode cX2_faultOfToken 20 = .ok (.invokevirtual 82, 3) := by decide +kernel
theorem dX2_faultOfToken_23 : decode cX2_faultOfToken 23 = .ok (.ifCond .eq 5, 3) := by decide +kernel
theorem dX2_faultOfToken_26 : decode cX2_faultOfToken 26 = .ok (.iconst 2, 1) := by decide +kernel
theorem dX2_faultOfToken_27 : decode cX2_faultOfToken 27 = .ok (.ireturn, 1) := by decide +kernel
theorem dX2_faultOfToken_28 : decode cX2_faultOfToken 28 = .ok (.aload_n 0, 1) := by decide +kernel
theorem dX2_faultOfToken_29 : decode cX2_faultOfToken 29 = .ok (.getfield 14, 3) := by decide +kernel
theorem dX2_faultOfToken_32 : decode cX2_faultOfToken 32 = .ok (.getfield 62, 3) := by decide +kernel
theorem dX2_faultOfToken_35 : decode cX2_faultOfToken 35 = .ok (.iconst 2, 1) := by decide +kernel
theorem dX2_faultOfToken_36 : decode cX2_faultOfToken 36 = .ok (.if_icmp .ne 17, 3) := by decide +kernel
theorem dX2_faultOfToken_39 : decode cX2_faultOfToken 39 = .ok (.aload_n 0, 1) := by decide +kernel
theorem dX2_faultOfToken_40 : decode cX2_faultOfToken 40 = .ok (.sipush 384, 3) := by decide +kernel
theorem dX2_faultOfToken_43 : decode cX2_faultOfToken 43 = .ok (.invokevirtual 78, 3) := by decide +kernel
theorem dX2_faultOfToken_46 : decode cX2_faultOfToken 46 = .ok (.ifCond .eq 7, 3) := by decide +kernel
theorem dX2_faultOfToken_49 : decode cX2_faultOfToken 49 = .ok (.iconst 1, 1) := by decide +kernel
theorem dX2_faultOfToken_50 : decode cX2_faultOfToken 50 = .ok (.goto 4, 3) := by decide +kernel
theorem dX2_faultOfToken_53 : decode cX2_faultOfToken 53 = .ok (.iconst 0, 1) := by decide +kernel
theorem dX2_faultOfToken_54 : decode cX2_faultOfToken 54 = .ok (.istore_n 1, 1) := by decide +kernel
theorem dX2_faultOfToken_55 : decode cX2_faultOfToken 55 = .ok (.iload_n 1, 1) := by decide +kernel
theorem dX2_faultOfToken_56 : decode cX2_faultOfToken 56 = .ok (.ifCond .eq 24, 3) := by decide +kernel
theorem dX2_faultOfToken_59 : decode cX2_faultOfToken 59 = .ok (.aload_n 0, 1) := by decide +kernel
theorem dX2_faultOfToken_60 : decode cX2_faultOfToken 60 = .ok (.getfield 21, 3) := by decide +kernel
theorem dX2_faultOfToken_63 : decode cX2_faultOfToken 63 = .ok (.aload_n 0, 1) := by decide +kernel
theorem dX2_faultOfToken_64 : decode cX2_faultOfToken 64 = .ok (.getfield 14, 3) := by decide +kernel
theorem dX2_faultOfToken_67 : decode cX2_faultOfToken 67 = .ok (.getfield 86, 3) := by decide +kernel
theorem dX2_faultOfToken_70 : decode cX2_faultOfToken 70 = .ok (.invokevirtual 89, 3) := by decide +kernel
theorem dX2_faultOfToken_73 : decode cX2_faultOfToken 73 = .ok (.ifCond .eq 7, 3) := by decide +kernel
theorem dX2_faultOfToken_76 : decode cX2_faultOfToken 76 = .ok (.iconst 3, 1) := by decide +kernel
theorem dX2_faultOfToken_77 : decode cX2_faultOfToken 77 = .ok (.goto 4, 3) := by decide +kernel
theorem dX2_faultOfToken_80 : decode cX2_faultOfToken 80 = .ok (.iconst 0, 1) := by decide +kernel
theorem dX2_faultOfToken_81 : decode cX2_faultOfToken 81 = .ok (.ireturn, 1) := by decide +kernel
theorem dX2_standsIn_0 : decode cX2_standsIn 0 = .ok (.aload_n 0, 1) := by decide +kernel
theorem dX2_standsIn_1 : decode cX2_standsIn 1 = .ok (.getfield 32, 3) := by decide +kernel
theorem dX2_standsIn_4 : decode cX2_standsIn 4 = .ok (.iload_n 1, 1) := by decide +kernel
theorem dX2_standsIn_5 : decode cX2_standsIn 5 = .ok (.iand, 1) := by decide +kernel
theorem dX2_standsIn_6 : decode cX2_standsIn 6 = .ok (.ifCond .eq 7, 3) := by decide +kernel
theorem dX2_standsIn_9 : decode cX2_standsIn 9 = .ok (.iconst 1, 1) := by decide +kernel
theorem dX2_standsIn_10 : decode cX2_standsIn 10 = .ok (.goto 4, 3) := by decide +kernel
theorem dX2_standsIn_13 : decode cX2_standsIn 13 = .ok (.iconst 0, 1) := by decide +kernel
theorem dX2_standsIn_14 : decode cX2_standsIn 14 = .ok (.ireturn, 1) := by decide +kernel
theorem dX2_standsAhead_0 : decode cX2_standsAhead 0 = .ok (.iload_n 0, 1) := by decide +kernel
theorem dX2_standsAhead_1 : decode cX2_standsAhead 1 = .ok (.lookupswitch 155 #[(0, 123), (2, 134), (3, 146), (4, 123), (5, 150), (33, 128), (37, 153), (40, 131), (41, 138), (58, 142), (64, 125), (114, 131), (124, 150), (126, 131)], 123) := by decide +kernel
theorem dX2_standsAhead_124 : decode cX2_standsAhead 124 = .ok (.iconst 3, 1) := by decide +kernel
theorem dX2_standsAhead_125 : decode cX2_standsAhead 125 = .ok (.ireturn, 1) := by decide +kernel
theorem dX2_standsAhead_126 : decode cX2_standsAhead 126 = .ok (.bipush 15, 2) := by decide +kernel
theorem dX2_standsAhead_128 : decode cX2_standsAhead 128 = .ok (.ireturn, 1) := by decide +kernel
theorem dX2_standsAhead_129 : decode cX2_standsAhead 129 = .ok (.bipush 31, 2) := by decide +kernel
theorem dX2_standsAhead_131 : decode cX2_standsAhead 131 = .ok (.ireturn, 1) := by decide +kernel
theorem dX2_standsAhead_132 : decode cX2_standsAhead 132 = .ok (.bipush 63, 2) := by decide +kernel
theorem dX2_standsAhead_134 : decode cX2_standsAhead 134 = .ok (.ireturn, 1) := by decide +kernel
theorem dX2_standsAhead_135 : decode cX2_standsAhead 135 = .ok (.sipush 511, 3) := by decide +kernel
theorem dX2_standsAhead_138 : decode cX2_standsAhead 138 = .ok (.ireturn, 1) := by decide +kernel
theorem dX2_standsAhead_139 : decode cX2_standsAhead 139 = .ok (.sipush 256, 3) := by decide +kernel
theorem dX2_standsAhead_142 : decode cX2_standsAhead 142 = .ok (.ireturn, 1) := by decide +kernel
theorem dX2_standsAhead_143 : decode cX2_standsAhead 143 = .ok (.sipush 512, 3) := by decide +kernel
theorem dX2_standsAhead_146 : decode cX2_standsAhead 146 = .ok (.ireturn, 1) := by decide +kernel
theorem dX2_standsAhead_147 : decode cX2_standsAhead 147 = .ok (.sipush 1024, 3) := by decide +kernel
theorem dX2_standsAhead_150 : decode cX2_standsAhead 150 = .ok (.ireturn, 1) := by decide +kernel
theorem dX2_standsAhead_151 : decode cX2_standsAhead 151 = .ok (.bipush 8, 2) := by decide +kernel
theorem dX2_standsAhead_153 : decode cX2_standsAhead 153 = .ok (.ireturn, 1) := by decide +kernel
theorem dX2_standsAhead_154 : decode cX2_standsAhead 154 = .ok (.iconst 2, 1) := by decide +kernel
theorem dX2_standsAhead_155 : decode cX2_standsAhead 155 = .ok (.ireturn, 1) := by decide +kernel
theorem dX2_standsAhead_156 : decode cX2_standsAhead 156 = .ok (.iconst 0, 1) := by decide +kernel
theorem dX2_standsAhead_157 : decode cX2_standsAhead 157 = .ok (.ireturn, 1) := by decide +kernel
set_option maxRecDepth 20000 in
theorem ggX2_isTooMuch_X3_isFull : GoodIn wsX2_isTooMuch wsX3_isFull := goodIn_r _ [11, 12, 44, 45, 46, 47, 48, 49, 50] (by decide +kernel) (by decide +kernel)
set_option maxRecDepth 20000 in
theorem gX2_isTooMuch_X3_isFull : GoodIn wsX2_isTooMuch (wsV RX2 92 RX3 yX3_isFull wsX3_isFull) := goodIn_app (goodIn_of _ (by decide +kernel)) ggX2_isTooMuch_X3_isFull
set_option maxRecDepth 20000 in
theorem ggX2_isTooMuch_X2_standsIn : GoodIn wsX2_isTooMuch wsX2_standsIn := goodIn_r _ [17, 18, 28, 29, 30, 31, 32, 33, 34, 35, 36, 37] (by decide +kernel) (by decide +kernel)
set_option maxRecDepth 20000 in
theorem gX2_isTooMuch_X2_standsIn : GoodIn wsX2_isTooMuch (wsV RX2 78 RX2 yX2_standsIn wsX2_standsIn) := goodIn_app (goodIn_of _ (by decide +kernel)) ggX2_isTooMuch_X2_standsIn
set_option maxRecDepth 20000 in
theorem ggX2_isTooMuch_X3_openPitches : GoodIn wsX2_isTooMuch wsX3_openPitches := goodIn_r _ [22, 12, 23, 24, 25, 10, 26, 27, 44, 45, 46, 47, 48, 49, 50] (by decide +kernel) (by decide +kernel)
set_option maxRecDepth 20000 in
theorem gX2_isTooMuch_X3_openPitches : GoodIn wsX2_isTooMuch (wsV RX2 95 RX3 yX3_openPitches wsX3_openPitches) := goodIn_app (goodIn_of _ (by decide +kernel)) ggX2_isTooMuch_X3_openPitches
theorem dX2_isTooMuch_0 : decode cX2_isTooMuch 0 = .ok (.aload_n 0, 1) := by decide +kernel
theorem dX2_isTooMuch_1 : decode cX2_isTooMuch 1 = .ok (.getfield 14, 3) := by decide +kernel
theorem dX2_isTooMuch_4 : decode cX2_isTooMuch 4 = .ok (.getfield 62, 3) := by decide +kernel
theorem dX2_isTooMuch_7 : decode cX2_isTooMuch 7 = .ok (.lookupswitch 153 #[(2, 103), (3, 137), (33, 80), (40, 95), (64, 65), (114, 95), (126, 95)], 65) := by decide +kernel
theorem dX2_isTooMuch_72 : decode cX2_isTooMuch 72 = .ok (.aload_n 0, 1) := by decide +kernel
theorem dX2_isTooMuch_73 : decode cX2_isTooMuch 73 = .ok (.getfield 35, 3) := by decide +kernel
theorem dX2_isTooMuch_76 : decode cX2_isTooMuch 76 = .ok (.bipush 10, 2) := by decide +kernel
theorem dX2_isTooMuch_78 : decode cX2_isTooMuch 78 = .ok (.if_icmp .lt 7, 3) := by decide +kernel
theorem dX2_isTooMuch_81 : decode cX2_isTooMuch 81 = .ok (.iconst 1, 1) := by decide +kernel
theorem dX2_isTooMuch_82 : decode cX2_isTooMuch 82 = .ok (.goto 4, 3) := by decide +kernel
theorem dX2_isTooMuch_85 : decode cX2_isTooMuch 85 = .ok (.iconst 0, 1) := by decide +kernel
theorem dX2_isTooMuch_86 : decode cX2_isTooMuch 86 = .ok (.ireturn, 1) := by decide +kernel
theorem dX2_isTooMuch_87 : decode cX2_isTooMuch 87 = .ok (.aload_n 0, 1) := by decide +kernel
theorem dX2_isTooMuch_88 : decode cX2_isTooMuch 88 = .ok (.getfield 38, 3) := by decide +kernel
theorem dX2_isTooMuch_91 : decode cX2_isTooMuch 91 = .ok (.bipush 20, 2) := by decide +kernel
theorem dX2_isTooMuch_93 : decode cX2_isTooMuch 93 = .ok (.if_icmp .lt 7, 3) := by decide +kernel
theorem dX2_isTooMuch_96 : decode cX2_isTooMuch 96 = .ok (.iconst 1, 1) := by decide +kernel
theorem dX2_isTooMuch_97 : decode cX2_isTooMuch 97 = .ok (.goto 4, 3) := by decide +kernel
theorem dX2_isTooMuch_100 : decode cX2_isTooMuch 100 = .ok (.iconst 0, 1) := by decide +kernel
theorem dX2_isTooMuch_101 : decode cX2_isTooMuch 101 = .ok (.ireturn, 1) := by decide +kernel
theorem dX2_isTooMuch_102 : decode cX2_isTooMuch 102 = .ok (.aload_n 0, 1) := by decide +kernel
theorem dX2_isTooMuch_103 : decode cX2_isTooMuch 103 = .ok (.getfield 21, 3) := by decide +kernel
theorem dX2_isTooMuch_106 : decode cX2_isTooMuch 106 = .ok (.invokevirtual 92, 3) := by decide +kernel
theorem dX2_isTooMuch_109 : decode cX2_isTooMuch 109 = .ok (.ireturn, 1) := by decide +kernel
theorem dX2_isTooMuch_110 : decode cX2_isTooMuch 110 = .ok (.aload_n 0, 1) := by decide +kernel
theorem dX2_isTooMuch_111 : decode cX2_isTooMuch 111 = .ok (.bipush 63, 2) := by decide +kernel
theorem dX2_isTooMuch_113 : decode cX2_isTooMuch 113 = .ok (.invokevirtual 78, 3) := by decide +kernel
theorem dX2_isTooMuch_116 : decode cX2_isTooMuch 116 = .ok (.ifCond .eq 11, 3) := by decide +kernel
theorem dX2_isTooMuch_119 : decode cX2_isTooMuch 119 = .ok (.aload_n 0, 1) := by decide +kernel
theorem dX2_isTooMuch_120 : decode cX2_isTooMuch 120 = .ok (.getfield 21, 3) := by decide +kernel
theorem dX2_isTooMuch_123 : decode cX2_isTooMuch 123 = .ok (.invokevirtual 92, 3) := by decide +kernel
theorem dX2_isTooMuch_126 : decode cX2_isTooMuch 126 = .ok (.ireturn, 1) := by decide +kernel
theorem dX2_isTooMuch_127 : decode cX2_isTooMuch 127 = .ok (.aload_n 0, 1) := by decide +kernel
theorem dX2_isTooMuch_128 : decode cX2_isTooMuch 128 = .ok (.getfield 21, 3) := by decide +kernel
theorem dX2_isTooMuch_131 : decode cX2_isTooMuch 131 = .ok (.invokevirtual 95, 3) := by decide +kernel
theorem dX2_isTooMuch_134 : decode cX2_isTooMuch 134 = .ok (.iconst 4, 1) := by decide +kernel
theorem dX2_isTooMuch_135 : decode cX2_isTooMuch 135 = .ok (.if_icmp .lt 7, 3) := by decide +kernel
theorem dX2_isTooMuch_138 : decode cX2_isTooMuch 138 = .ok (.iconst 1, 1) := by decide +kernel
theorem dX2_isTooMuch_139 : decode cX2_isTooMuch 139 = .ok (.goto 4, 3) := by decide +kernel
theorem dX2_isTooMuch_142 : decode cX2_isTooMuch 142 = .ok (.iconst 0, 1) := by decide +kernel
theorem dX2_isTooMuch_143 : decode cX2_isTooMuch 143 = .ok (.ireturn, 1) := by decide +kernel
theorem dX2_isTooMuch_144 : decode cX2_isTooMuch 144 = .ok (.aload_n 0, 1) := by decide +kernel
theorem dX2_isTooMuch_145 : decode cX2_isTooMuch 145 = .ok (.getfield 14, 3) := by decide +kernel
theorem dX2_isTooMuch_148 : decode cX2_isTooMuch 148 = .ok (.getfield 86, 3) := by decide +kernel
theorem dX2_isTooMuch_151 : decode cX2_isTooMuch 151 = .ok (.ifCond .ne 7, 3) := by decide +kernel
theorem dX2_isTooMuch_154 : decode cX2_isTooMuch 154 = .ok (.iconst 1, 1) := by decide +kernel
theorem dX2_isTooMuch_155 : decode cX2_isTooMuch 155 = .ok (.goto 4, 3) := by decide +kernel
theorem dX2_isTooMuch_158 : decode cX2_isTooMuch 158 = .ok (.iconst 0, 1) := by decide +kernel
theorem dX2_isTooMuch_159 : decode cX2_isTooMuch 159 = .ok (.ireturn, 1) := by decide +kernel
theorem dX2_isTooMuch_160 : decode cX2_isTooMuch 160 = .ok (.iconst 0, 1) := by decide +kernel
theorem dX2_isTooMuch_161 : decode cX2_isTooMuch 161 = .ok (.ireturn, 1) := by decide +kernel
set_option maxRecDepth 20000 in
theorem ggX2_takeToken_X2_takeMark : GoodIn wsX2_takeToken wsX2_takeMark := goodIn_r _ [10, 11, 12, 3, 89, 90, 91, 92, 93, 94, 95, 96, 97, 98] (by decide +kernel) (by decide +kernel)
set_option maxRecDepth 20000 in
theorem gX2_takeToken_X2_takeMark : GoodIn wsX2_takeToken (wsV RX2 98 RX2 yX2_takeMark wsX2_takeMark) := goodIn_app (goodIn_of _ (by decide +kernel)) ggX2_takeToken_X2_takeMark
set_option maxRecDepth 20000 in
theorem ggX2_takeToken_X2_takeCue : GoodIn wsX2_takeToken wsX2_takeCue := goodIn_r _ [16, 17, 18, 3, 89, 90, 91, 92, 93, 94, 95, 96, 97, 98] (by decide +kernel) (by decide +kernel)
set_option maxRecDepth 20000 in
theorem gX2_takeToken_X2_takeCue : GoodIn wsX2_takeToken (wsV RX2 101 RX2 yX2_takeCue wsX2_takeCue) := goodIn_app (goodIn_of _ (by decide +kernel)) ggX2_takeToken_X2_takeCue
set_option maxRecDepth 20000 in
theorem ggX2_takeToken_X2_openEvent : GoodIn wsX2_takeToken wsX2_openEvent := goodIn_r _ [22, 4, 11, 17, 3, 23, 24, 25, 26, 27, 28, 29, 30, 31, 32, 33, 34, 35, 36, 37, 89, 90, 91, 92, 93, 94, 95, 96, 97, 98, 105, 106, 107, 108, 109, 110, 111] (by decide +kernel) (by decide +kernel)
set_option maxRecDepth 20000 in
theorem gX2_takeToken_X2_openEvent : GoodIn wsX2_takeToken (wsV RX2 104 RX2 yX2_openEvent wsX2_openEvent) := goodIn_app (goodIn_of _ (by decide +kernel)) ggX2_takeToken_X2_openEvent
set_option maxRecDepth 20000 in
theorem ggX2_takeToken_X2_takePitch : GoodIn wsX2_takeToken wsX2_takePitch := goodIn_r _ [41, 4, 1, 5, 3, 42, 43, 44, 9, 45, 19, 20, 21, 22, 11, 17, 23, 24, 25, 26, 27, 28, 29, 30, 31, 32, 33, 34, 35, 36, 37, 46, 47, 48, 49, 50, 51, 52, 53, 54, 55, 56, 57, 89, 90, 91, 92, 93, 94, 95, 96, 97, 98, 99, 100, 101, 102, 103, 104, 105, 106, 107, 108, 109, 110, 111] (by decide +kernel) (by decide +kernel)
set_option maxRecDepth 20000 in
theorem gX2_takeToken_X2_takePitch : GoodIn wsX2_takeToken (wsV RX2 108 RX2 yX2_takePitch wsX2_takePitch) := goodIn_app (goodIn_of _ (by decide +kernel)) ggX2_takeToken_X2_takePitch
set_option maxRecDepth 20000 in
theorem ggX2_takeToken_X3_closeEvent : GoodIn wsX2_takeToken wsX3_closeEvent := goodIn_r _ [61, 28, 29, 62, 32, 63, 64, 65, 26, 66, 33, 34, 35, 36, 37, 54, 55, 56, 57, 67, 68, 69, 70, 105, 106, 107, 108, 109, 110, 111] (by decide +kernel) (by decide +kernel)
set_option maxRecDepth 20000 in
theorem gX2_takeToken_X3_closeEvent : GoodIn wsX2_takeToken (wsV RX2 111 RX3 yX3_closeEvent wsX3_closeEvent) := goodIn_app (goodIn_of _ (by decide +kernel)) ggX2_takeToken_X3_closeEvent
set_option maxRecDepth 20000 in
theorem ggX2_takeToken_X2_takeBarOrPage : GoodIn wsX2_takeToken wsX2_takeBarOrPage := goodIn_r _ [74, 1, 2, 4, 75, 76, 3, 77, 78, 79, 26, 80, 28, 33, 34, 35, 36, 37, 81, 82, 83, 84, 30, 85, 86, 87, 88, 31, 89, 90, 91, 92, 93, 94, 95, 96, 97, 98, 99, 100, 101, 102, 103, 104, 105, 106, 107, 108, 109, 110, 111] (by decide +kernel) (by decide +kernel)
set_option maxRecDepth 20000 in
theorem gX2_takeToken_X2_takeBarOrPage : GoodIn wsX2_takeToken (wsV RX2 115 RX2 yX2_takeBarOrPage wsX2_takeBarOrPage) := goodIn_app (goodIn_of _ (by decide +kernel)) ggX2_takeToken_X2_takeBarOrPage
theorem dX2_takeToken_0 : decode cX2_takeToken 0 = .ok (.aload_n 0, 1) := by decide +kernel
theorem dX2_takeToken_1 : decode cX2_takeToken 1 = .ok (.getfield 14, 3) := by decide +kernel
theorem dX2_takeToken_4 : decode cX2_takeToken 4 = .ok (.getfield 62, 3) := by decide +kernel
theorem dX2_takeToken_7 : decode cX2_takeToken 7 = .ok (.lookupswitch 159 #[(2, 117), (3, 138), (33, 86), (40, 91), (41, 122), (58, 130), (64, 81), (114, 108), (126, 100)], 81) := by decide +kernel
theorem dX2_takeToken_88 : decode cX2_takeToken 88 = .ok (.aload_n 0, 1) := by decide +kernel
theorem dX2_takeToken_89 : decode cX2_takeToken 89 = .ok (.invokevirtual 98, 3) := by decide +kernel
theorem dX2_takeToken_92 : decode cX2_takeToken 92 = .ok (.return_, 1) := by decide +kernel
theorem dX2_takeToken_93 : decode cX2_takeToken 93 = .ok (.aload_n 0, 1) := by decide +kernel
theorem dX2_takeToken_94 : decode cX2_takeToken 94 = .ok (.invokevirtual 101, 3) := by decide +kernel
theorem dX2_takeToken_97 : decode cX2_takeToken 97 = .ok (.return_, 1) := by decide +kernel
theorem dX2_takeToken_98 : decode cX2_takeToken 98 = .ok (.aload_n 0, 1) := by decide +kernel
theorem dX2_takeToken_99 : decode cX2_takeToken 99 = .ok (.iconst 1, 1) := by decide +kernel
theorem dX2_takeToken_100 : decode cX2_takeToken 100 = .ok (.sipush 128, 3) := by decide +kernel
theorem dX2_takeToken_103 : decode cX2_takeToken 103 = .ok (.invokevirtual 104, 3) := by decide +kernel
theorem dX2_takeToken_106 : decode cX2_takeToken 106 = .ok (.return_, 1) := by decide +kernel
theorem dX2_takeToken_107 : decode cX2_takeToken 107 = .ok (.aload_n 0, 1) := by decide +kernel
theorem dX2_takeToken_108 : decode cX2_takeToken 108 = .ok (.iconst 2, 1) := by decide +kernel
theorem dX2_takeToken_109 : decode cX2_takeToken 109 = .ok (.bipush 64, 2) := by decide +kernel
theorem dX2_takeToken_111 : decode cX2_takeToken 111 = .ok (.invokevirtual 104, 3) := by decide +kernel
theorem dX2_takeToken_114 : decode cX2_takeToken 114 = .ok (.return_, 1) := by decide +kernel
theorem dX2_takeToken_115 : decode cX2_takeToken 115 = .ok (.aload_n 0, 1) := by decide +kernel
theorem dX2_takeToken_116 : decode cX2_takeToken 116 = .ok (.iconst 3, 1) := by decide +kernel
theorem dX2_takeToken_117 : decode cX2_takeToken 117 = .ok (.sipush 512, 3) := by decide +kernel
theorem dX2_takeToken_120 : decode cX2_takeToken 120 = .ok (.invokevirtual 104, 3) := by decide +kernel
theorem dX2_takeToken_123 : decode cX2_takeToken 123 = .ok (.return_, 1) := by decide +kernel
theorem dX2_takeToken_124 : decode cX2_takeToken 124 = .ok (.aload_n 0, 1) := by decide +kernel
theorem dX2_takeToken_125 : decode cX2_takeToken 125 = .ok (.invokevirtual 108, 3) := by decide +kernel
theorem dX2_takeToken_128 : decode cX2_takeToken 128 = .ok (.return_, 1) := by decide +kernel
theorem dX2_takeToken_129 : decode cX2_takeToken 129 = .ok (.aload_n 0, 1) := by decide +kernel
theorem dX2_takeToken_130 : decode cX2_takeToken 130 = .ok (.sipush 512, 3) := by decide +kernel
theorem dX2_takeToken_133 : decode cX2_takeToken 133 = .ok (.putfield 32, 3) := by decide +kernel
theorem dX2_takeToken_136 : decode cX2_takeToken 136 = .ok (.return_, 1) := by decide +kernel
theorem dX2_takeToken_137 : decode cX2_takeToken 137 = .ok (.aload_n 0, 1) := by decide +kernel
theorem dX2_takeToken_138 : decode cX2_takeToken 138 = .ok (.sipush 1024, 3) := by decide +kernel
theorem dX2_takeToken_141 : decode cX2_takeToken 141 = .ok (.putfield 32, 3) := by decide +kernel
theorem dX2_takeToken_144 : decode cX2_takeToken 144 = .ok (.return_, 1) := by decide +kernel
theorem dX2_takeToken_145 : decode cX2_takeToken 145 = .ok (.aload_n 0, 1) := by decide +kernel
theorem dX2_takeToken_146 : decode cX2_takeToken 146 = .ok (.getfield 21, 3) := by decide +kernel
theorem dX2_takeToken_149 : decode cX2_takeToken 149 = .ok (.aload_n 0, 1) := by decide +kernel
theorem dX2_takeToken_150 : decode cX2_takeToken 150 = .ok (.getfield 14, 3) := by decide +kernel
theorem dX2_takeToken_153 : decode cX2_takeToken 153 = .ok (.getfield 86, 3) := by decide +kernel
theorem dX2_takeToken_156 : decode cX2_takeToken 156 = .ok (.invokevirtual 111, 3) := by decide +kernel
theorem dX2_takeToken_159 : decode cX2_takeToken 159 = .ok (.aload_n 0, 1) := by decide +kernel
theorem dX2_takeToken_160 : decode cX2_takeToken 160 = .ok (.bipush 8, 2) := by decide +kernel
theorem dX2_takeToken_162 : decode cX2_takeToken 162 = .ok (.putfield 32, 3) := by decide +kernel
theorem dX2_takeToken_165 : decode cX2_takeToken 165 = .ok (.return_, 1) := by decide +kernel
theorem dX2_takeToken_166 : decode cX2_takeToken 166 = .ok (.aload_n 0, 1) := by decide +kernel
theorem dX2_takeToken_167 : decode cX2_takeToken 167 = .ok (.invokevirtual 115, 3) := by decide +kernel
theorem dX2_takeToken_170 : decode cX2_takeToken 170 = .ok (.return_, 1) := by decide +kernel
theorem dX2_takeMark_0 : decode cX2_takeMark 0 = .ok (.aload_n 0, 1) := by decide +kernel
theorem dX2_takeMark_1 : decode cX2_takeMark 1 = .ok (.iconst 1, 1) := by decide +kernel
theorem dX2_takeMark_2 : decode cX2_takeMark 2 = .ok (.putfield 41, 3) := by decide +kernel
theorem dX2_takeMark_5 : decode cX2_takeMark 5 = .ok (.aload_n 0, 1) := by decide +kernel
theorem dX2_takeMark_6 : decode cX2_takeMark 6 = .ok (.dup, 1) := by decide +kernel
theorem dX2_takeMark_7 : decode cX2_takeMark 7 = .ok (.getfield 35, 3) := by decide +kernel
theorem dX2_takeMark_10 : decode cX2_takeMark 10 = .ok (.iconst 1, 1) := by decide +kernel
theorem dX2_takeMark_11 : decode cX2_takeMark 11 = .ok (.iadd, 1) := by decide +kernel
theorem dX2_takeMark_12 : decode cX2_takeMark 12 = .ok (.putfield 35, 3) := by decide +kernel
theorem dX2_takeMark_15 : decode cX2_takeMark 15 = .ok (.aload_n 0, 1) := by decide +kernel
theorem dX2_takeMark_16 : decode cX2_takeMark 16 = .ok (.bipush 16, 2) := by decide +kernel
theorem dX2_takeMark_18 : decode cX2_takeMark 18 = .ok (.putfield 32, 3) := by decide +kernel
theorem dX2_takeMark_21 : decode cX2_takeMark 21 = .ok (.return_, 1) := by decide +kernel
theorem dX2_takeCue_0 : decode cX2_takeCue 0 = .ok (.aload_n 0, 1) := by decide +kernel
theorem dX2_takeCue_1 : decode cX2_takeCue 1 = .ok (.iconst 1, 1) := by decide +kernel
theorem dX2_takeCue_2 : decode cX2_takeCue 2 = .ok (.putfield 45, 3) := by decide +kernel
theorem dX2_takeCue_5 : decode cX2_takeCue 5 = .ok (.aload_n 0, 1) := by decide +kernel
theorem dX2_takeCue_6 : decode cX2_takeCue 6 = .ok (.dup, 1) := by decide +kernel
theorem dX2_takeCue_7 : decode cX2_takeCue 7 = .ok (.getfield 38, 3) := by decide +kernel
theorem dX2_takeCue_10 : decode cX2_takeCue 10 = .ok (.iconst 1, 1) := by decide +kernel
theorem dX2_takeCue_11 : decode cX2_takeCue 11 = .ok (.iadd, 1) := by decide +kernel
theorem dX2_takeCue_12 : decode cX2_takeCue 12 = .ok (.putfield 38, 3) := by decide +kernel
theorem dX2_takeCue_15 : decode cX2_takeCue 15 = .ok (.aload_n 0, 1) := by decide +kernel
theorem dX2_takeCue_16 : decode cX2_takeCue 16 = .ok (.bipush 32, 2) := by decide +kernel
theorem dX2_takeCue_18 : decode cX2_takeCue 18 = .ok (.putfield 32, 3) := by decide +kernel
theorem dX2_takeCue_21 : decode cX2_takeCue 21 = .ok (.return_, 1) := by decide +kernel
set_option maxRecDepth 20000 in
theorem ggX2_openEvent_X3_openEvent : GoodIn wsX2_openEvent wsX3_openEvent := goodIn_r _ [9, 10, 11, 12, 13, 14, 15, 16, 17, 8, 18, 19, 30, 31, 32, 33, 34, 35, 36] (by decide +kernel) (by decide +kernel)
set_option maxRecDepth 20000 in
theorem gX2_openEvent_X3_openEvent : GoodIn wsX2_openEvent (wsV RX2 118 RX3 yX3_openEvent wsX3_openEvent) := goodIn_app (goodIn_of _ (by decide +kernel)) ggX2_openEvent_X3_openEvent
theorem dX2_openEvent_0 : decode cX2_openEvent 0 = .ok (.aload_n 0, 1) := by decide +kernel
theorem dX2_openEvent_1 : decode cX2_openEvent 1 = .ok (.getfield 21, 3) := by decide +kernel
theorem dX2_openEvent_4 : decode cX2_openEvent 4 = .ok (.iload_n 1, 1) := by decide +kernel
theorem dX2_openEvent_5 : decode cX2_openEvent 5 = .ok (.aload_n 0, 1) := by decide +kernel
theorem dX2_openEvent_6 : decode cX2_openEvent 6 = .ok (.getfield 41, 3) := by decide +kernel
theorem dX2_openEvent_9 : decode cX2_openEvent 9 = .ok (.aload_n 0, 1) := by decide +kernel
theorem dX2_openEvent_10 : decode cX2_openEvent 10 = .ok (.getfield 45, 3) := by decide +kernel
theorem dX2_openEvent_13 : decode cX2_openEvent 13 = .ok (.invokevirtual 118, 3) := by decide +kernel
theorem dX2_openEvent_16 : decode cX2_openEvent 16 = .ok (.aload_n 0, 1) := by decide +kernel
theorem dX2_openEvent_17 : decode cX2_openEvent 17 = .ok (.iconst 0, 1) := by decide +kernel
theorem dX2_openEvent_18 : decode cX2_openEvent 18 = .ok (.putfield 41, 3) := by decide +kernel
theorem dX2_openEvent_21 : decode cX2_openEvent 21 = .ok (.aload_n 0, 1) := by decide +kernel
theorem dX2_openEvent_22 : decode cX2_openEvent 22 = .ok (.iconst 0, 1) := by decide +kernel
theorem dX2_openEvent_23 : decode cX2_openEvent 23 = .ok (.putfield 45, 3) := by decide +kernel
theorem dX2_openEvent_26 : decode cX2_openEvent 26 = .ok (.aload_n 0, 1) := by decide +kernel
theorem dX2_openEvent_27 : decode cX2_openEvent 27 = .ok (.iload_n 2, 1) := by decide +kernel
theorem dX2_openEvent_28 : decode cX2_openEvent 28 = .ok (.putfield 32, 3) := by decide +kernel
theorem dX2_openEvent_31 : decode cX2_openEvent 31 = .ok (.return_, 1) := by decide +kernel
set_option maxRecDepth 20000 in
theorem ggX2_takePitch_X2_standsIn : GoodIn wsX2_takePitch wsX2_standsIn := goodIn_r _ [9, 4, 43, 44, 45, 46, 47, 48, 49, 50, 51, 52] (by decide +kernel) (by decide +kernel)
set_option maxRecDepth 20000 in
theorem gX2_takePitch_X2_standsIn : GoodIn wsX2_takePitch (wsV RX2 78 RX2 yX2_standsIn wsX2_standsIn) := goodIn_app (goodIn_of _ (by decide +kernel)) ggX2_takePitch_X2_standsIn
set_option maxRecDepth 20000 in
theorem ggX2_takePitch_X2_openEvent : GoodIn wsX2_takePitch wsX2_openEvent := goodIn_r _ [13, 1, 14, 15, 4, 16, 17, 18, 19, 20, 21, 22, 23, 24, 25, 26, 27, 28, 29, 30, 43, 44, 45, 46, 47, 48, 49, 50, 51, 52, 59, 60, 61, 62, 63, 64, 65] (by decide +kernel) (by decide +kernel)
set_option maxRecDepth 20000 in
theorem gX2_takePitch_X2_openEvent : GoodIn wsX2_takePitch (wsV RX2 104 RX2 yX2_openEvent wsX2_openEvent) := goodIn_app (goodIn_of _ (by decide +kernel)) ggX2_takePitch_X2_openEvent
set_option maxRecDepth 20000 in
theorem ggX2_takePitch_X3_addPitch : GoodIn wsX2_takePitch wsX3_addPitch := goodIn_r _ [34, 21, 35, 36, 37, 19, 38, 39, 40, 41, 42, 30, 26, 27, 28, 29, 59, 60, 61, 62, 63, 64, 65] (by decide +kernel) (by decide +kernel)
set_option maxRecDepth 20000 in
theorem gX2_takePitch_X3_addPitch : GoodIn wsX2_takePitch (wsV RX2 121 RX3 yX3_addPitch wsX3_addPitch) := goodIn_app (goodIn_of _ (by decide +kernel)) ggX2_takePitch_X3_addPitch
theorem dX2_takePitch_0 : decode cX2_takePitch 0 = .ok (.aload_n 0, 1) := by decide +kernel
theorem dX2_takePitch_1 : decode cX2_takePitch 1 = .ok (.sipush 384, 3) := by decide +kernel
theorem dX2_takePitch_4 : decode cX2_takePitch 4 = .ok (.invokevirtual 78, 3) := by decide +kernel
theorem dX2_takePitch_7 : decode cX2_takePitch 7 = .ok (.istore_n 1, 1) := by decide +kernel
theorem dX2_takePitch_8 : decode cX2_takePitch 8 = .ok (.aload_n 0, 1) := by decide +kernel
theorem dX2_takePitch_9 : decode cX2_takePitch 9 = .ok (.bipush 63, 2) := by decide +kernel
theorem dX2_takePitch_11 : decode cX2_takePitch 11 = .ok (.invokevirtual 78, 3) := by decide +kernel
theorem dX2_takePitch_14 : decode cX2_takePitch 14 = .ok (.ifCond .eq 11, 3) := by decide +kernel
theorem dX2_takePitch_17 : decode cX2_takePitch 17 = .ok (.aload_n 0, 1) := by decide +kernel
theorem dX2_takePitch_18 : decode cX2_takePitch 18 = .ok (.iconst 0, 1) := by decide +kernel
theorem dX2_takePitch_19 : decode cX2_takePitch 19 = .ok (.sipush 512, 3) := by decide +kernel
theorem dX2_takePitch_22 : decode cX2_takePitch 22 = .ok (.invokevirtual 104, 3) := by decide +kernel
theorem dX2_takePitch_25 : decode cX2_takePitch 25 = .ok (.aload_n 0, 1) := by decide +kernel
theorem dX2_takePitch_26 : decode cX2_takePitch 26 = .ok (.getfield 21, 3) := by decide +kernel
theorem dX2_takePitch_29 : decode cX2_takePitch 29 = .ok (.aload_n 0, 1) := by decide +kernel
theorem dX2_takePitch_30 : decode cX2_takePitch 30 = .ok (.getfield 14, 3) := by decide +kernel
theorem dX2_takePitch_33 : decode cX2_takePitch 33 = .ok (.getfield 86, 3) := by decide +kernel
theorem dX2_takePitch_36 : decode cX2_takePitch 36 = .ok (.invokevirtual 121, 3) := by decide +kernel
theorem dX2_takePitch_39 : decode cX2_takePitch 39 = .ok (.aload_n 0, 1) := by decide +kernel
theorem dX2_takePitch_40 : decode cX2_takePitch 40 = .ok (.iload_n 1, 1) := by decide +kernel
theorem dX2_takePitch_41 : decode cX2_takePitch 41 = .ok (.ifCond .eq 9, 3) := by decide +kernel
theorem dX2_takePitch_44 : decode cX2_takePitch 44 = .ok (.sipush 256, 3) := by decide +kernel
theorem dX2_takePitch_47 : decode cX2_takePitch 47 = .ok (.goto 6, 3) := by decide +kernel
theorem dX2_takePitch_50 : decode cX2_takePitch 50 = .ok (.sipush 512, 3) := by decide +kernel
theorem dX2_takePitch_53 : decode cX2_takePitch 53 = .ok (.putfield 32, 3) := by decide +kernel
theorem dX2_takePitch_56 : decode cX2_takePitch 56 = .ok (.return_, 1) := by decide +kernel
set_option maxRecDepth 20000 in
theorem ggX2_takeBarOrPage_X3_repeatFrom : GoodIn wsX2_takeBarOrPage wsX3_repeatFrom := goodIn_r _ [11, 12, 13, 14, 15, 10, 16, 17, 44, 45, 46, 47, 48, 49, 50] (by decide +kernel) (by decide +kernel)
set_option maxRecDepth 20000 in
theorem gX2_takeBarOrPage_X3_repeatFrom : GoodIn wsX2_takeBarOrPage (wsV RX2 127 RX3 yX3_repeatFrom wsX3_repeatFrom) := goodIn_app (goodIn_of _ (by decide +kernel)) ggX2_takeBarOrPage_X3_repeatFrom
set_option maxRecDepth 20000 in
theorem ggX2_takeBarOrPage_X3_endMeasure : GoodIn wsX2_takeBarOrPage wsX3_endMeasure := goodIn_r _ [21, 22, 44, 45, 46, 47, 48, 49, 50] (by decide +kernel) (by decide +kernel)
set_option maxRecDepth 20000 in
theorem gX2_takeBarOrPage_X3_endMeasure : GoodIn wsX2_takeBarOrPage (wsV RX2 130 RX3 yX3_endMeasure wsX3_endMeasure) := goodIn_app (goodIn_of _ (by decide +kernel)) ggX2_takeBarOrPage_X3_endMeasure
set_option maxRecDepth 20000 in
theorem ggX2_takeBarOrPage_X3_endPage : GoodIn wsX2_takeBarOrPage wsX3_endPage := goodIn_r _ [26, 27, 44, 45, 46, 47, 48, 49, 50] (by decide +kernel) (by decide +kernel)
set_option maxRecDepth 20000 in
theorem gX2_takeBarOrPage_X3_endPage : GoodIn wsX2_takeBarOrPage (wsV RX2 133 RX3 yX3_endPage wsX3_endPage) := goodIn_app (goodIn_of _ (by decide +kernel)) ggX2_takeBarOrPage_X3_endPage
theorem dX2_takeBarOrPage_0 : decode cX2_takeBarOrPage 0 = .ok (.aload_n 0, 1) := by decide +kernel
theorem dX2_takeBarOrPage_1 : decode cX2_takeBarOrPage 1 = .ok (.getfield 14, 3) := by decide +kernel
theorem dX2_takeBarOrPage_4 : decode cX2_takeBarOrPage 4 = .ok (.getfield 62, 3) := by decide +kernel
theorem dX2_takeBarOrPage_7 : decode cX2_takeBarOrPage 7 = .ok (.lookupswitch 119 #[(4, 41), (5, 58), (37, 106), (124, 93)], 41) := by decide +kernel
theorem dX2_takeBarOrPage_48 : decode cX2_takeBarOrPage 48 = .ok (.aload_n 0, 1) := by decide +kernel
theorem dX2_takeBarOrPage_49 : decode cX2_takeBarOrPage 49 = .ok (.aload_n 0, 1) := by decide +kernel
theorem dX2_takeBarOrPage_50 : decode cX2_takeBarOrPage 50 = .ok (.getfield 21, 3) := by decide +kernel
theorem dX2_takeBarOrPage_53 : decode cX2_takeBarOrPage 53 = .ok (.getfield 124, 3) := by decide +kernel
theorem dX2_takeBarOrPage_56 : decode cX2_takeBarOrPage 56 = .ok (.putfield 48, 3) := by decide +kernel
theorem dX2_takeBarOrPage_59 : decode cX2_takeBarOrPage 59 = .ok (.aload_n 0, 1) := by decide +kernel
theorem dX2_takeBarOrPage_60 : decode cX2_takeBarOrPage 60 = .ok (.iconst 4, 1) := by decide +kernel
theorem dX2_takeBarOrPage_61 : decode cX2_takeBarOrPage 61 = .ok (.putfield 32, 3) := by decide +kernel
theorem dX2_takeBarOrPage_64 : decode cX2_takeBarOrPage 64 = .ok (.return_, 1) := by decide +kernel
theorem dX2_takeBarOrPage_65 : decode cX2_takeBarOrPage 65 = .ok (.aload_n 0, 1) := by decide +kernel
theorem dX2_takeBarOrPage_66 : decode cX2_takeBarOrPage 66 = .ok (.getfield 21, 3) := by decide +kernel
theorem dX2_takeBarOrPage_69 : decode cX2_takeBarOrPage 69 = .ok (.aload_n 0, 1) := by decide +kernel
theorem dX2_takeBarOrPage_70 : decode cX2_takeBarOrPage 70 = .ok (.getfield 48, 3) := by decide +kernel
theorem dX2_takeBarOrPage_73 : decode cX2_takeBarOrPage 73 = .ok (.invokevirtual 127, 3) := by decide +kernel
theorem dX2_takeBarOrPage_76 : decode cX2_takeBarOrPage 76 = .ok (.aload_n 0, 1) := by decide +kernel
theorem dX2_takeBarOrPage_77 : decode cX2_takeBarOrPage 77 = .ok (.getfield 21, 3) := by decide +kernel
theorem dX2_takeBarOrPage_80 : decode cX2_takeBarOrPage 80 = .ok (.invokevirtual 130, 3) := by decide +kernel
theorem dX2_takeBarOrPage_83 : decode cX2_takeBarOrPage 83 = .ok (.aload_n 0, 1) := by decide +kernel
theorem dX2_takeBarOrPage_84 : decode cX2_takeBarOrPage 84 = .ok (.aload_n 0, 1) := by decide +kernel
theorem dX2_takeBarOrPage_85 : decode cX2_takeBarOrPage 85 = .ok (.getfield 21, 3) := by decide +kernel
theorem dX2_takeBarOrPage_88 : decode cX2_takeBarOrPage 88 = .ok (.getfield 124, 3) := by decide +kernel
theorem dX2_takeBarOrPage_91 : decode cX2_takeBarOrPage 91 = .ok (.putfield 48, 3) := by decide +kernel
theorem dX2_takeBarOrPage_94 : decode cX2_takeBarOrPage 94 = .ok (.aload_n 0, 1) := by decide +kernel
theorem dX2_takeBarOrPage_95 : decode cX2_takeBarOrPage 95 = .ok (.iconst 2, 1) := by decide +kernel
theorem dX2_takeBarOrPage_96 : decode cX2_takeBarOrPage 96 = .ok (.putfield 32, 3) := by decide +kernel
theorem dX2_takeBarOrPage_99 : decode cX2_takeBarOrPage 99 = .ok (.return_, 1) := by decide +kernel
theorem dX2_takeBarOrPage_100 : decode cX2_takeBarOrPage 100 = .ok (.aload_n 0, 1) := by decide +kernel
theorem dX2_takeBarOrPage_101 : decode cX2_takeBarOrPage 101 = .ok (.getfield 21, 3) := by decide +kernel
theorem dX2_takeBarOrPage_104 : decode cX2_takeBarOrPage 104 = .ok (.invokevirtual 130, 3) := by decide +kernel
theorem dX2_takeBarOrPage_107 : decode cX2_takeBarOrPage 107 = .ok (.aload_n 0, 1) := by decide +kernel
theorem dX2_takeBarOrPage_108 : decode cX2_takeBarOrPage 108 = .ok (.iconst 2, 1) := by decide +kernel
theorem dX2_takeBarOrPage_109 : decode cX2_takeBarOrPage 109 = .ok (.putfield 32, 3) := by decide +kernel
theorem dX2_takeBarOrPage_112 : decode cX2_takeBarOrPage 112 = .ok (.return_, 1) := by decide +kernel
theorem dX2_takeBarOrPage_113 : decode cX2_takeBarOrPage 113 = .ok (.aload_n 0, 1) := by decide +kernel
theorem dX2_takeBarOrPage_114 : decode cX2_takeBarOrPage 114 = .ok (.getfield 21, 3) := by decide +kernel
theorem dX2_takeBarOrPage_117 : decode cX2_takeBarOrPage 117 = .ok (.invokevirtual 133, 3) := by decide +kernel
theorem dX2_takeBarOrPage_120 : decode cX2_takeBarOrPage 120 = .ok (.aload_n 0, 1) := by decide +kernel
theorem dX2_takeBarOrPage_121 : decode cX2_takeBarOrPage 121 = .ok (.iconst 1, 1) := by decide +kernel
theorem dX2_takeBarOrPage_122 : decode cX2_takeBarOrPage 122 = .ok (.putfield 32, 3) := by decide +kernel
theorem dX2_takeBarOrPage_125 : decode cX2_takeBarOrPage 125 = .ok (.return_, 1) := by decide +kernel
theorem dX2_takeBarOrPage_126 : decode cX2_takeBarOrPage 126 = .ok (.return_, 1) := by decide +kernel
