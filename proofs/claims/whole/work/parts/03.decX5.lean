set_option maxRecDepth 20000 in
theorem ggX5_init_X2_init : GoodIn wsX5_init wsX2_init := goodIn_r _ [21, 22, 2, 3, 23, 24, 25, 26, 27, 12, 13, 28, 29, 30, 31, 32, 33, 4, 34, 35, 36, 37, 38, 39, 89, 90, 91, 92, 93, 94, 65, 66, 67, 68, 69, 70, 71, 72, 73, 74, 75, 76, 77, 78, 79, 80, 81] (by decide +kernel) (by decide +kernel)
set_option maxRecDepth 20000 in
theorem gX5_init_X2_init_n19 : GoodIn wsX5_init (wsX2_init) := ggX5_init_X2_init
set_option maxRecDepth 20000 in
theorem ggX5_init_X3_init : GoodIn wsX5_init wsX3_init := goodIn_r _ [36, 37, 2, 3, 38, 39, 75, 76, 77, 78, 79, 80, 81] (by decide +kernel) (by decide +kernel)
set_option maxRecDepth 20000 in
theorem gX5_init_X3_init_n26 : GoodIn wsX5_init (wsX3_init) := ggX5_init_X3_init
set_option maxRecDepth 20000 in
theorem ggX5_init_X0_init : GoodIn wsX5_init wsX0_init := goodIn_r _ [42, 43, 2, 3, 38, 44, 45, 46, 47, 48, 49, 50, 51, 52, 53, 54, 55, 56, 57, 58, 82, 83, 84, 85, 86, 87, 88, 95, 96, 97, 98, 99, 100, 101, 102, 103, 104] (by decide +kernel) (by decide +kernel)
set_option maxRecDepth 20000 in
theorem gX5_init_X0_init : GoodIn wsX5_init (wsX0_init) := ggX5_init_X0_init
theorem dX5_init_0 : decode cX5_init 0 = .ok (.aload_n 0, 1) := by decide +kernel
theorem dX5_init_1 : decode cX5_init 1 = .ok (.invokespecial 1, 3) := by decide +kernel
theorem dX5_init_4 : decode cX5_init 4 = .ok (.aload_n 0, 1) := by decide +kernel
theorem dX5_init_5 : decode cX5_init 5 = .ok (.sipush 2400, 3) := by decide +kernel
theorem dX5_init_8 : decode cX5_init 8 = .ok (.newarray .byte, 2) := by decide +kernel
theorem dX5_init_10 : decode cX5_init 10 = .ok (.putfield 9, 3) := by decide +kernel
theorem dX5_init_13 : decode cX5_init 13 = .ok (.aload_n 0, 1) := by decide +kernel
theorem dX5_init_14 : decode cX5_init 14 = .ok (.iconst 0, 1) := by decide +kernel
theorem dX5_init_15 : decode cX5_init 15 = .ok (.putfield 13, 3) := by decide +kernel
theorem dX5_init_18 : decode cX5_init 18 = .ok (.aload_n 0, 1) := by decide +kernel
theorem dX5_init_19 : decode cX5_init 19 = .ok (.new 17, 3) := by decide +kernel
theorem dX5_init_22 : decode cX5_init 22 = .ok (.dup, 1) := by decide +kernel
theorem dX5_init_23 : decode cX5_init 23 = .ok (.invokespecial 19, 3) := by decide +kernel
theorem dX5_init_26 : decode cX5_init 26 = .ok (.putfield 20, 3) := by decide +kernel
theorem dX5_init_29 : decode cX5_init 29 = .ok (.aload_n 0, 1) := by decide +kernel
theorem dX5_init_30 : decode cX5_init 30 = .ok (.new 24, 3) := by decide +kernel
theorem dX5_init_33 : decode cX5_init 33 = .ok (.dup, 1) := by decide +kernel
theorem dX5_init_34 : decode cX5_init 34 = .ok (.invokespecial 26, 3) := by decide +kernel
theorem dX5_init_37 : decode cX5_init 37 = .ok (.putfield 27, 3) := by decide +kernel
theorem dX5_init_40 : decode cX5_init 40 = .ok (.aload_n 0, 1) := by decide +kernel
theorem dX5_init_41 : decode cX5_init 41 = .ok (.new 31, 3) := by decide +kernel
theorem dX5_init_44 : decode cX5_init 44 = .ok (.dup, 1) := by decide +kernel
theorem dX5_init_45 : decode cX5_init 45 = .ok (.aload_n 0, 1) := by decide +kernel
theorem dX5_init_46 : decode cX5_init 46 = .ok (.getfield 27, 3) := by decide +kernel
theorem dX5_init_49 : decode cX5_init 49 = .ok (.invokespecial 33, 3) := by decide +kernel
theorem dX5_init_52 : decode cX5_init 52 = .ok (.putfield 36, 3) := by decide +kernel
theorem dX5_init_55 : decode cX5_init 55 = .ok (.aload_n 0, 1) := by decide +kernel
theorem dX5_init_56 : decode cX5_init 56 = .ok (.sipush 1000, 3) := by decide +kernel
theorem dX5_init_59 : decode cX5_init 59 = .ok (.putfield 40, 3) := by decide +kernel
theorem dX5_init_62 : decode cX5_init 62 = .ok (.return_, 1) := by decide +kernel
set_option maxRecDepth 20000 in
theorem ggX5_feed_X5_putBytes : GoodIn wsX5_feed wsX5_putBytes := goodIn_r _ [6, 1, 7, 8, 9, 10, 11, 12, 13] (by decide +kernel) (by decide +kernel)
set_option maxRecDepth 20000 in
theorem gX5_feed_X5_putBytes : GoodIn wsX5_feed (wsV RX5 43 RX5 yX5_putBytes wsX5_putBytes) := goodIn_app (goodIn_of _ (by decide +kernel)) ggX5_feed_X5_putBytes
theorem dX5_feed_0 : decode cX5_feed 0 = .ok (.aload_n 0, 1) := by decide +kernel
theorem dX5_feed_1 : decode cX5_feed 1 = .ok (.getfield 13, 3) := by decide +kernel
theorem dX5_feed_4 : decode cX5_feed 4 = .ok (.sipush 2380, 3) := by decide +kernel
theorem dX5_feed_7 : decode cX5_feed 7 = .ok (.if_icmp .le 5, 3) := by decide +kernel
theorem dX5_feed_10 : decode cX5_feed 10 = .ok (.iconst (-1), 1) := by decide +kernel
theorem dX5_feed_11 : decode cX5_feed 11 = .ok (.ireturn, 1) := by decide +kernel
theorem dX5_feed_12 : decode cX5_feed 12 = .ok (.aload_n 0, 1) := by decide +kernel
theorem dX5_feed_13 : decode cX5_feed 13 = .ok (.iload_n 1, 1) := by decide +kernel
theorem dX5_feed_14 : decode cX5_feed 14 = .ok (.invokevirtual 43, 3) := by decide +kernel
theorem dX5_feed_17 : decode cX5_feed 17 = .ok (.aload_n 0, 1) := by decide +kernel
theorem dX5_feed_18 : decode cX5_feed 18 = .ok (.iload_n 2, 1) := by decide +kernel
theorem dX5_feed_19 : decode cX5_feed 19 = .ok (.invokevirtual 43, 3) := by decide +kernel
theorem dX5_feed_22 : decode cX5_feed 22 = .ok (.aload_n 0, 1) := by decide +kernel
theorem dX5_feed_23 : decode cX5_feed 23 = .ok (.iload_n 3, 1) := by decide +kernel
theorem dX5_feed_24 : decode cX5_feed 24 = .ok (.invokevirtual 43, 3) := by decide +kernel
theorem dX5_feed_27 : decode cX5_feed 27 = .ok (.aload_n 0, 1) := by decide +kernel
theorem dX5_feed_28 : decode cX5_feed 28 = .ok (.iload 4, 2) := by decide +kernel
theorem dX5_feed_30 : decode cX5_feed 30 = .ok (.invokevirtual 43, 3) := by decide +kernel
theorem dX5_feed_33 : decode cX5_feed 33 = .ok (.aload_n 0, 1) := by decide +kernel
theorem dX5_feed_34 : decode cX5_feed 34 = .ok (.iload 5, 2) := by decide +kernel
theorem dX5_feed_36 : decode cX5_feed 36 = .ok (.invokevirtual 43, 3) := by decide +kernel
theorem dX5_feed_39 : decode cX5_feed 39 = .ok (.aload_n 0, 1) := by decide +kernel
theorem dX5_feed_40 : decode cX5_feed 40 = .ok (.getfield 13, 3) := by decide +kernel
theorem dX5_feed_43 : decode cX5_feed 43 = .ok (.ireturn, 1) := by decide +kernel
theorem dX5_putBytes_0 : decode cX5_putBytes 0 = .ok (.bipush 24, 2) := by decide +kernel
theorem dX5_putBytes_2 : decode cX5_putBytes 2 = .ok (.istore_n 2, 1) := by decide +kernel
theorem dX5_putBytes_3 : decode cX5_putBytes 3 = .ok (.iload_n 2, 1) := by decide +kernel
theorem dX5_putBytes_4 : decode cX5_putBytes 4 = .ok (.ifCond .lt 51, 3) := by decide +kernel
theorem dX5_putBytes_7 : decode cX5_putBytes 7 = .ok (.aload_n 0, 1) := by decide +kernel
theorem dX5_putBytes_8 : decode cX5_putBytes 8 = .ok (.getfield 13, 3) := by decide +kernel
theorem dX5_putBytes_11 : decode cX5_putBytes 11 = .ok (.ifCond .lt 38, 3) := by decide +kernel
theorem dX5_putBytes_14 : decode cX5_putBytes 14 = .ok (.aload_n 0, 1) := by decide +kernel
theorem dX5_putBytes_15 : decode cX5_putBytes 15 = .ok (.getfield 13, 3) := by decide +kernel
theorem dX5_putBytes_18 : decode cX5_putBytes 18 = .ok (.aload_n 0, 1) := by decide +kernel
theorem dX5_putBytes_19 : decode cX5_putBytes 19 = .ok (.getfield 9, 3) := by decide +kernel
theorem dX5_putBytes_22 : decode cX5_putBytes 22 = .ok (.arraylength, 1) := by decide +kernel
theorem dX5_putBytes_23 : decode cX5_putBytes 23 = .ok (.if_icmp .ge 26, 3) := by decide +kernel
theorem dX5_putBytes_26 : decode cX5_putBytes 26 = .ok (.aload_n 0, 1) := by decide +kernel
theorem dX5_putBytes_27 : decode cX5_putBytes 27 = .ok (.getfield 9, 3) := by decide +kernel
theorem dX5_putBytes_30 : decode cX5_putBytes 30 = .ok (.aload_n 0, 1) := by decide +kernel
theorem dX5_putBytes_31 : decode cX5_putBytes 31 = .ok (.getfield 13, 3) := by decide +kernel
theorem dX5_putBytes_34 : decode cX5_putBytes 34 = .ok (.iload_n 1, 1) := by decide +kernel
theorem dX5_putBytes_35 : decode cX5_putBytes 35 = .ok (.iload_n 2, 1) := by decide +kernel
theorem dX5_putBytes_36 : decode cX5_putBytes 36 = .ok (.ishr, 1) := by decide +kernel
theorem dX5_putBytes_37 : decode cX5_putBytes 37 = .ok (.i2b, 1) := by decide +kernel
theorem dX5_putBytes_38 : decode cX5_putBytes 38 = .ok (.bastore, 1) := by decide +kernel
theorem dX5_putBytes_39 : decode cX5_putBytes 39 = .ok (.aload_n 0, 1) := by decide +kernel
theorem dX5_putBytes_40 : decode cX5_putBytes 40 = .ok (.dup, 1) := by decide +kernel
theorem dX5_putBytes_41 : decode cX5_putBytes 41 = .ok (.getfield 13, 3) := by decide +kernel
theorem dX5_putBytes_44 : decode cX5_putBytes 44 = .ok (.iconst 1, 1) := by decide +kernel
theorem dX5_putBytes_45 : decode cX5_putBytes 45 = .ok (.iadd, 1) := by decide +kernel
theorem dX5_putBytes_46 : decode cX5_putBytes 46 = .ok (.putfield 13, 3) := by decide +kernel
theorem dX5_putBytes_49 : decode cX5_putBytes 49 = .ok (.iinc 2 (-8), 3) := by decide +kernel
theorem dX5_putBytes_52 : decode cX5_putBytes 52 = .ok (.goto (-49), 3) := by decide +kernel
theorem dX5_putBytes_55 : decode cX5_putBytes 55 = .ok (.return_, 1) := by decide +kernel
set_option maxRecDepth 20000 in
theorem ggX5_music_X2_read : GoodIn wsX5_music wsX2_read := goodIn_r _ [12, 13, 14, 15, 16, 17, 18, 19, 20, 21, 22, 23, 24, 25, 26, 27, 28, 29, 30, 31, 32, 33, 34, 35, 36, 37, 38, 39, 40, 41, 42, 43, 44, 45, 46, 47, 48, 49, 50, 51, 52, 53, 54, 55, 56, 57, 58, 59, 60, 61, 62, 63, 64, 65, 66, 67, 68, 69, 70, 71, 72, 73, 74, 75, 76, 77, 78, 79, 80, 81, 82, 83, 84, 85, 86, 87, 88, 89, 90, 91, 92, 93, 94, 95, 96, 97, 98, 99, 100, 101, 102, 103, 104, 105, 106, 107, 108, 109, 110, 111, 112, 113, 114, 115, 116, 117, 118, 119, 120, 121, 122, 123, 124, 125, 126, 127, 128, 129, 130, 131, 132, 133, 134, 135, 136, 137, 138, 139, 140, 141, 142, 143, 144, 145, 146, 147, 148, 149, 150, 151, 152, 153, 154, 155, 156, 157, 158, 159, 160, 161, 162, 163, 164, 165, 166, 167, 11, 168, 169, 170, 171, 172, 173, 174, 175, 176, 177, 178, 179, 180, 181, 182, 183, 184, 185, 186, 187, 188, 189, 190, 191, 192, 193, 194, 195, 196, 197, 198, 199, 200, 201, 202, 203, 204, 205, 206, 207, 208, 209, 210, 211, 212, 213, 214, 215, 216, 217, 218, 219, 220, 221, 222, 223, 224, 225, 226, 227, 228, 229, 230, 231, 232, 233, 234, 235, 236, 237, 238, 239, 240, 241, 242, 243, 244, 245, 246, 247, 248, 249, 250, 251, 252, 253, 254, 255, 256, 257, 301, 302, 303, 304, 305, 306, 307, 308, 309, 310, 311, 312, 313, 314, 315, 316, 317, 318, 319, 320, 321, 322, 323] (by decide +kernel) (by decide +kernel)
set_option maxRecDepth 20000 in
theorem gX5_music_X2_read : GoodIn wsX5_music (wsV RX5 54 RX2 yX2_read wsX2_read) := goodIn_app (goodIn_of _ (by decide +kernel)) ggX5_music_X2_read
set_option maxRecDepth 20000 in
theorem ggX5_music_X2_trade : GoodIn wsX5_music wsX2_trade := goodIn_r _ [261, 19, 301, 302, 303, 304, 305, 306, 307, 308, 309, 310] (by decide +kernel) (by decide +kernel)
set_option maxRecDepth 20000 in
theorem gX5_music_X2_trade : GoodIn wsX5_music (wsV RX5 58 RX2 yX2_trade wsX2_trade) := goodIn_app (goodIn_of _ (by decide +kernel)) ggX5_music_X2_trade
set_option maxRecDepth 20000 in
theorem ggX5_music_X0_begin : GoodIn wsX5_music wsX0_begin := goodIn_r _ [266, 267, 268, 269, 270, 271, 272, 273, 274, 275, 276, 277, 278, 279, 280, 281, 282, 283, 284, 285, 286, 287, 288, 289, 290, 291, 265, 292, 293, 294, 324, 325, 326, 327, 328, 329, 330, 317, 318, 319, 320, 321, 322, 323, 331, 332, 333, 334, 335, 336, 337, 338, 339, 340] (by decide +kernel) (by decide +kernel)
set_option maxRecDepth 20000 in
theorem gX5_music_X0_begin : GoodIn wsX5_music (wsV RX5 62 RX0 yX0_begin wsX0_begin) := goodIn_app (goodIn_of _ (by decide +kernel)) ggX5_music_X0_begin
theorem dX5_music_0 : decode cX5_music 0 = .ok (.iload_n 1, 1) := by decide +kernel
theorem dX5_music_1 : decode cX5_music 1 = .ok (.ifCond .lt 11, 3) := by decide +kernel
theorem dX5_music_4 : decode cX5_music 4 = .ok (.iload_n 1, 1) := by decide +kernel
theorem dX5_music_5 : decode cX5_music 5 = .ok (.aload_n 0, 1) := by decide +kernel
theorem dX5_music_6 : decode cX5_music 6 = .ok (.getfield 13, 3) := by decide +kernel
theorem dX5_music_9 : decode cX5_music 9 = .ok (.if_icmp .le 13, 3) := by decide +kernel
theorem dX5_music_12 : decode cX5_music 12 = .ok (.new 47, 3) := by decide +kernel
theorem dX5_music_15 : decode cX5_music 15 = .ok (.dup, 1) := by decide +kernel
theorem dX5_music_16 : decode cX5_music 16 = .ok (.ldc 49, 2) := by decide +kernel
theorem dX5_music_18 : decode cX5_music 18 = .ok (.invokespecial 51, 3) := by decide +kernel
theorem dX5_music_21 : decode cX5_music 21 = .ok (.athrow, 1) := by decide +kernel
theorem dX5_music_22 : decode cX5_music 22 = .ok (.aload_n 0, 1) := by decide +kernel
theorem dX5_music_23 : decode cX5_music 23 = .ok (.iconst 0, 1) := by decide +kernel
theorem dX5_music_24 : decode cX5_music 24 = .ok (.putfield 13, 3) := by decide +kernel
theorem dX5_music_27 : decode cX5_music 27 = .ok (.aload_n 0, 1) := by decide +kernel
theorem dX5_music_28 : decode cX5_music 28 = .ok (.getfield 20, 3) := by decide +kernel
theorem dX5_music_31 : decode cX5_music 31 = .ok (.aload_n 0, 1) := by decide +kernel
theorem dX5_music_32 : decode cX5_music 32 = .ok (.getfield 9, 3) := by decide +kernel
theorem dX5_music_35 : decode cX5_music 35 = .ok (.iload_n 1, 1) := by decide +kernel
theorem dX5_music_36 : decode cX5_music 36 = .ok (.invokevirtual 54, 3) := by decide +kernel
theorem dX5_music_39 : decode cX5_music 39 = .ok (.istore_n 2, 1) := by decide +kernel
theorem dX5_music_40 : decode cX5_music 40 = .ok (.iload_n 2, 1) := by decide +kernel
theorem dX5_music_41 : decode cX5_music 41 = .ok (.ifCond .ne 29, 3) := by decide +kernel
theorem dX5_music_44 : decode cX5_music 44 = .ok (.aload_n 0, 1) := by decide +kernel
theorem dX5_music_45 : decode cX5_music 45 = .ok (.aload_n 0, 1) := by decide +kernel
theorem dX5_music_46 : decode cX5_music 46 = .ok (.getfield 20, 3) := by decide +kernel
theorem dX5_music_49 : decode cX5_music 49 = .ok (.aload_n 0, 1) := by decide +kernel
theorem dX5_music_50 : decode cX5_music 50 = .ok (.getfield 27, 3) := by decide +kernel
theorem dX5_music_53 : decode cX5_music 53 = .ok (.invokevirtual 58, 3) := by decide +kernel
theorem dX5_music_56 : decode cX5_music 56 = .ok (.putfield 27, 3) := by decide +kernel
theorem dX5_music_59 : decode cX5_music 59 = .ok (.aload_n 0, 1) := by decide +kernel
theorem dX5_music_60 : decode cX5_music 60 = .ok (.getfield 36, 3) := by decide +kernel
theorem dX5_music_63 : decode cX5_music 63 = .ok (.aload_n 0, 1) := by decide +kernel
theorem dX5_music_64 : decode cX5_music 64 = .ok (.getfield 27, 3) := by decide +kernel
theorem dX5_music_67 : decode cX5_music 67 = .ok (.invokevirtual 62, 3) := by decide +kernel
theorem dX5_music_70 : decode cX5_music 70 = .ok (.iload_n 2, 1) := by decide +kernel
theorem dX5_music_71 : decode cX5_music 71 = .ok (.ireturn, 1) := by decide +kernel
theorem dX5_fault_0 : decode cX5_fault 0 = .ok (.iload_n 1, 1) := by decide +kernel
theorem dX5_fault_1 : decode cX5_fault 1 = .ok (.lookupswitch 43 #[(0, 27), (1, 35)], 27) := by decide +kernel
theorem dX5_fault_28 : decode cX5_fault 28 = .ok (.aload_n 0, 1) := by decide +kernel
theorem dX5_fault_29 : decode cX5_fault 29 = .ok (.getfield 20, 3) := by decide +kernel
theorem dX5_fault_32 : decode cX5_fault 32 = .ok (.getfield 65, 3) := by decide +kernel
theorem dX5_fault_35 : decode cX5_fault 35 = .ok (.ireturn, 1) := by decide +kernel
theorem dX5_fault_36 : decode cX5_fault 36 = .ok (.aload_n 0, 1) := by decide +kernel
theorem dX5_fault_37 : decode cX5_fault 37 = .ok (.getfield 20, 3) := by decide +kernel
theorem dX5_fault_40 : decode cX5_fault 40 = .ok (.getfield 68, 3) := by decide +kernel
theorem dX5_fault_43 : decode cX5_fault 43 = .ok (.ireturn, 1) := by decide +kernel
theorem dX5_fault_44 : decode cX5_fault 44 = .ok (.new 71, 3) := by decide +kernel
theorem dX5_fault_47 : decode cX5_fault 47 = .ok (.dup, 1) := by decide +kernel
theorem dX5_fault_48 : decode cX5_fault 48 = .ok (.ldc 73, 2) := by decide +kernel
theorem dX5_fault_50 : decode cX5_fault 50 = .ok (.invokespecial 75, 3) := by decide +kernel
theorem dX5_fault_53 : decode cX5_fault 53 = .ok (.athrow, 1) := by decide +kernel
set_option maxRecDepth 20000 in
theorem ggX5_count_X3_measuresWithEvents : GoodIn wsX5_count wsX3_measuresWithEvents := goodIn_r _ [14, 15, 16, 17, 18, 13, 19, 20, 38, 39, 40, 41, 42, 43, 44] (by decide +kernel) (by decide +kernel)
set_option maxRecDepth 20000 in
theorem gX5_count_X3_measuresWithEvents : GoodIn wsX5_count (wsV RX5 79 RX3 yX3_measuresWithEvents wsX3_measuresWithEvents) := goodIn_app (goodIn_of _ (by decide +kernel)) ggX5_count_X3_measuresWithEvents
set_option maxRecDepth 20000 in
theorem ggX5_count_X3_pagesWithEvents : GoodIn wsX5_count wsX3_pagesWithEvents := goodIn_r _ [24, 15, 16, 17, 18, 13, 19, 20, 38, 39, 40, 41, 42, 43, 44] (by decide +kernel) (by decide +kernel)
set_option maxRecDepth 20000 in
theorem gX5_count_X3_pagesWithEvents : GoodIn wsX5_count (wsV RX5 83 RX3 yX3_pagesWithEvents wsX3_pagesWithEvents) := goodIn_app (goodIn_of _ (by decide +kernel)) ggX5_count_X3_pagesWithEvents
set_option maxRecDepth 20000 in
theorem ggX5_count_X0_anchors : GoodIn wsX5_count wsX0_anchors := goodIn_r _ [29, 30, 31, 45, 46, 47, 48, 49, 50, 51, 52, 53, 54, 55, 56, 57, 58, 59, 60, 61] (by decide +kernel) (by decide +kernel)
set_option maxRecDepth 20000 in
theorem gX5_count_X0_anchors : GoodIn wsX5_count (wsV RX5 92 RX0 yX0_anchors wsX0_anchors) := goodIn_app (goodIn_of _ (by decide +kernel)) ggX5_count_X0_anchors
theorem dX5_count_0 : decode cX5_count 0 = .ok (.iload_n 1, 1) := by decide +kernel
theorem dX5_count_1 : decode cX5_count 1 = .ok (.tableswitch 108 0 7 #[47, 55, 63, 71, 79, 87, 95, 100], 47) := by decide +kernel
theorem dX5_count_48 : decode cX5_count 48 = .ok (.aload_n 0, 1) := by decide +kernel
theorem dX5_count_49 : decode cX5_count 49 = .ok (.getfield 27, 3) := by decide +kernel
theorem dX5_count_52 : decode cX5_count 52 = .ok (.getfield 76, 3) := by decide +kernel
theorem dX5_count_55 : decode cX5_count 55 = .ok (.ireturn, 1) := by decide +kernel
theorem dX5_count_56 : decode cX5_count 56 = .ok (.aload_n 0, 1) := by decide +kernel
theorem dX5_count_57 : decode cX5_count 57 = .ok (.getfield 27, 3) := by decide +kernel
theorem dX5_count_60 : decode cX5_count 60 = .ok (.invokevirtual 79, 3) := by decide +kernel
theorem dX5_count_63 : decode cX5_count 63 = .ok (.ireturn, 1) := by decide +kernel
theorem dX5_count_64 : decode cX5_count 64 = .ok (.aload_n 0, 1) := by decide +kernel
theorem dX5_count_65 : decode cX5_count 65 = .ok (.getfield 27, 3) := by decide +kernel
theorem dX5_count_68 : decode cX5_count 68 = .ok (.invokevirtual 83, 3) := by decide +kernel
theorem dX5_count_71 : decode cX5_count 71 = .ok (.ireturn, 1) := by decide +kernel
theorem dX5_count_72 : decode cX5_count 72 = .ok (.aload_n 0, 1) := by decide +kernel
theorem dX5_count_73 : decode cX5_count 73 = .ok (.getfield 27, 3) := by decide +kernel
theorem dX5_count_76 : decode cX5_count 76 = .ok (.getfield 86, 3) := by decide +kernel
theorem dX5_count_79 : decode cX5_count 79 = .ok (.ireturn, 1) := by decide +kernel
theorem dX5_count_80 : decode cX5_count 80 = .ok (.aload_n 0, 1) := by decide +kernel
theorem dX5_count_81 : decode cX5_count 81 = .ok (.getfield 36, 3) := by decide +kernel
theorem dX5_count_84 : decode cX5_count 84 = .ok (.getfield 89, 3) := by decide +kernel
theorem dX5_count_87 : decode cX5_count 87 = .ok (.ireturn, 1) := by decide +kernel
theorem dX5_count_88 : decode cX5_count 88 = .ok (.aload_n 0, 1) := by decide +kernel
theorem dX5_count_89 : decode cX5_count 89 = .ok (.getfield 36, 3) := by decide +kernel
theorem dX5_count_92 : decode cX5_count 92 = .ok (.invokevirtual 92, 3) := by decide +kernel
theorem dX5_count_95 : decode cX5_count 95 = .ok (.ireturn, 1) := by decide +kernel
theorem dX5_count_96 : decode cX5_count 96 = .ok (.aload_n 0, 1) := by decide +kernel
theorem dX5_count_97 : decode cX5_count 97 = .ok (.getfield 13, 3) := by decide +kernel
theorem dX5_count_100 : decode cX5_count 100 = .ok (.ireturn, 1) := by decide +kernel
theorem dX5_count_101 : decode cX5_count 101 = .ok (.aload_n 0, 1) := by decide +kernel
theorem dX5_count_102 : decode cX5_count 102 = .ok (.getfield 27, 3) := by decide +kernel
theorem dX5_count_105 : decode cX5_count 105 = .ok (.getfield 95, 3) := by decide +kernel
theorem dX5_count_108 : decode cX5_count 108 = .ok (.ireturn, 1) := by decide +kernel
theorem dX5_count_109 : decode cX5_count 109 = .ok (.new 71, 3) := by decide +kernel
theorem dX5_count_112 : decode cX5_count 112 = .ok (.dup, 1) := by decide +kernel
theorem dX5_count_113 : decode cX5_count 113 = .ok (.ldc 98, 2) := by decide +kernel
theorem dX5_count_115 : decode cX5_count 115 = .ok (.invokespecial 75, 3) := by decide +kernel
theorem dX5_count_118 : decode cX5_count 118 = .ok (.athrow, 1) := by decide +kernel
set_option maxRecDepth 20000 in
theorem ggX5_event_X3_has : GoodIn wsX5_event wsX3_has := goodIn_r _ [8, 9, 21, 22, 23, 24, 25, 26, 27] (by decide +kernel) (by decide +kernel)
set_option maxRecDepth 20000 in
theorem gX5_event_X3_has : GoodIn wsX5_event (wsV RX5 100 RX3 yX3_has wsX3_has) := goodIn_app (goodIn_of _ (by decide +kernel)) ggX5_event_X3_has
set_option maxRecDepth 20000 in
theorem ggX5_event_X3_fact : GoodIn wsX5_event wsX3_fact := goodIn_r _ [13, 14, 21, 22, 23, 24, 25, 26, 27] (by decide +kernel) (by decide +kernel)
set_option maxRecDepth 20000 in
theorem gX5_event_X3_fact : GoodIn wsX5_event (wsV RX5 106 RX3 yX3_fact wsX3_fact) := goodIn_app (goodIn_of _ (by decide +kernel)) ggX5_event_X3_fact
theorem dX5_event_0 : decode cX5_event 0 = .ok (.aload_n 0, 1) := by decide +kernel
theorem dX5_event_1 : decode cX5_event 1 = .ok (.getfield 27, 3) := by decide +kernel
theorem dX5_event_4 : decode cX5_event 4 = .ok (.iload_n 1, 1) := by decide +kernel
theorem dX5_event_5 : decode cX5_event 5 = .ok (.invokevirtual 100, 3) := by decide +kernel
theorem dX5_event_8 : decode cX5_event 8 = .ok (.ifCond .eq 7, 3) := by decide +kernel
theorem dX5_event_11 : decode cX5_event 11 = .ok (.iload_n 2, 1) := by decide +kernel
theorem dX5_event_12 : decode cX5_event 12 = .ok (.ifCond .ge 13, 3) := by decide +kernel
theorem dX5_event_15 : decode cX5_event 15 = .ok (.new 71, 3) := by decide +kernel
theorem dX5_event_18 : decode cX5_event 18 = .ok (.dup, 1) := by decide +kernel
theorem dX5_event_19 : decode cX5_event 19 = .ok (.ldc 104, 2) := by decide +kernel
theorem dX5_event_21 : decode cX5_event 21 = .ok (.invokespecial 75, 3) := by decide +kernel
theorem dX5_event_24 : decode cX5_event 24 = .ok (.athrow, 1) := by decide +kernel
theorem dX5_event_25 : decode cX5_event 25 = .ok (.iload_n 2, 1) := by decide +kernel
theorem dX5_event_26 : decode cX5_event 26 = .ok (.bipush 9, 2) := by decide +kernel
theorem dX5_event_28 : decode cX5_event 28 = .ok (.aload_n 0, 1) := by decide +kernel
theorem dX5_event_29 : decode cX5_event 29 = .ok (.getfield 27, 3) := by decide +kernel
theorem dX5_event_32 : decode cX5_event 32 = .ok (.iload_n 1, 1) := by decide +kernel
theorem dX5_event_33 : decode cX5_event 33 = .ok (.iconst 1, 1) := by decide +kernel
theorem dX5_event_34 : decode cX5_event 34 = .ok (.invokevirtual 106, 3) := by decide +kernel
theorem dX5_event_37 : decode cX5_event 37 = .ok (.iadd, 1) := by decide +kernel
theorem dX5_event_38 : decode cX5_event 38 = .ok (.if_icmp .lt 13, 3) := by decide +kernel
theorem dX5_event_41 : decode cX5_event 41 = .ok (.new 71, 3) := by decide +kernel
theorem dX5_event_44 : decode cX5_event 44 = .ok (.dup, 1) := by decide +kernel
theorem dX5_event_45 : decode cX5_event 45 = .ok (.ldc 110, 2) := by decide +kernel
theorem dX5_event_47 : decode cX5_event 47 = .ok (.invokespecial 75, 3) := by decide +kernel
theorem dX5_event_50 : decode cX5_event 50 = .ok (.athrow, 1) := by decide +kernel
theorem dX5_event_51 : decode cX5_event 51 = .ok (.aload_n 0, 1) := by decide +kernel
theorem dX5_event_52 : decode cX5_event 52 = .ok (.getfield 27, 3) := by decide +kernel
theorem dX5_event_55 : decode cX5_event 55 = .ok (.iload_n 1, 1) := by decide +kernel
theorem dX5_event_56 : decode cX5_event 56 = .ok (.iload_n 2, 1) := by decide +kernel
theorem dX5_event_57 : decode cX5_event 57 = .ok (.invokevirtual 106, 3) := by decide +kernel
theorem dX5_event_60 : decode cX5_event 60 = .ok (.ireturn, 1) := by decide +kernel
set_option maxRecDepth 20000 in
theorem ggX5_price_X0_hasPrice : GoodIn wsX5_price wsX0_hasPrice := goodIn_r _ [8, 9, 25, 26, 27, 28, 29, 30, 31] (by decide +kernel) (by decide +kernel)
set_option maxRecDepth 20000 in
theorem gX5_price_X0_hasPrice : GoodIn wsX5_price (wsV RX5 112 RX0 yX0_hasPrice wsX0_hasPrice) := goodIn_app (goodIn_of _ (by decide +kernel)) ggX5_price_X0_hasPrice
set_option maxRecDepth 20000 in
theorem ggX5_price_X0_changePrice : GoodIn wsX5_price wsX0_changePrice := goodIn_r _ [13, 9, 14, 15, 16, 7, 17, 18, 5, 6, 8, 25, 26, 27, 28, 29, 30, 31] (by decide +kernel) (by decide +kernel)
set_option maxRecDepth 20000 in
theorem gX5_price_X0_changePrice : GoodIn wsX5_price (wsV RX5 117 RX0 yX0_changePrice wsX0_changePrice) := goodIn_app (goodIn_of _ (by decide +kernel)) ggX5_price_X0_changePrice
theorem dX5_price_0 : decode cX5_price 0 = .ok (.aload_n 0, 1) := by decide +kernel
theorem dX5_price_1 : decode cX5_price 1 = .ok (.getfield 36, 3) := by decide +kernel
theorem dX5_price_4 : decode cX5_price 4 = .ok (.iload_n 1, 1) := by decide +kernel
theorem dX5_price_5 : decode cX5_price 5 = .ok (.invokevirtual 112, 3) := by decide +kernel
theorem dX5_price_8 : decode cX5_price 8 = .ok (.ifCond .eq 13, 3) := by decide +kernel
theorem dX5_price_11 : decode cX5_price 11 = .ok (.iload_n 2, 1) := by decide +kernel
theorem dX5_price_12 : decode cX5_price 12 = .ok (.ifCond .lt 9, 3) := by decide +kernel
theorem dX5_price_15 : decode cX5_price 15 = .ok (.iload_n 2, 1) := by decide +kernel
theorem dX5_price_16 : decode cX5_price 16 = .ok (.bipush 50, 2) := by decide +kernel
theorem dX5_price_18 : decode cX5_price 18 = .ok (.if_icmp .le 13, 3) := by decide +kernel
theorem dX5_price_21 : decode cX5_price 21 = .ok (.new 47, 3) := by decide +kernel
theorem dX5_price_24 : decode cX5_price 24 = .ok (.dup, 1) := by decide +kernel
theorem dX5_price_25 : decode cX5_price 25 = .ok (.ldc 115, 2) := by decide +kernel
theorem dX5_price_27 : decode cX5_price 27 = .ok (.invokespecial 51, 3) := by decide +kernel
theorem dX5_price_30 : decode cX5_price 30 = .ok (.athrow, 1) := by decide +kernel
theorem dX5_price_31 : decode cX5_price 31 = .ok (.aload_n 0, 1) := by decide +kernel
theorem dX5_price_32 : decode cX5_price 32 = .ok (.getfield 36, 3) := by decide +kernel
theorem dX5_price_35 : decode cX5_price 35 = .ok (.iload_n 1, 1) := by decide +kernel
theorem dX5_price_36 : decode cX5_price 36 = .ok (.iload_n 2, 1) := by decide +kernel
theorem dX5_price_37 : decode cX5_price 37 = .ok (.invokevirtual 117, 3) := by decide +kernel
theorem dX5_price_40 : decode cX5_price 40 = .ok (.ireturn, 1) := by decide +kernel
set_option maxRecDepth 20000 in
theorem ggX5_heard_X0_latestTime : GoodIn wsX5_heard wsX0_latestTime := goodIn_r _ [12, 13, 14, 15, 156, 157, 158, 159, 160, 161, 162, 163, 164, 165, 166, 167, 168, 169, 170, 171, 172] (by decide +kernel) (by decide +kernel)
set_option maxRecDepth 20000 in
theorem gX5_heard_X0_latestTime : GoodIn wsX5_heard (wsV RX5 123 RX0 yX0_latestTime wsX0_latestTime) := goodIn_app (goodIn_of _ (by decide +kernel)) ggX5_heard_X0_latestTime
set_option maxRecDepth 20000 in
theorem ggX5_heard_X0_hear : GoodIn wsX5_heard wsX0_hear := goodIn_r _ [19, 14, 20, 21, 22, 23, 24, 25, 15, 26, 13, 27, 28, 29, 30, 31, 32, 33, 34, 35, 36, 37, 38, 39, 40, 41, 42, 43, 44, 45, 46, 47, 48, 49, 11, 50, 51, 52, 53, 54, 55, 56, 57, 58, 59, 60, 61, 62, 63, 64, 65, 66, 67, 68, 69, 70, 71, 72, 73, 74, 75, 76, 77, 78, 79, 80, 81, 82, 83, 84, 85, 86, 87, 88, 89, 90, 91, 92, 93, 94, 95, 96, 97, 98, 99, 100, 101, 102, 103, 104, 105, 106, 107, 108, 109, 110, 111, 112, 113, 114, 115, 116, 117, 118, 119, 120, 121, 122, 123, 124, 125, 126, 127, 128, 129, 130, 131, 132, 133, 134, 135, 136, 137, 138, 156, 157, 158, 159, 160, 161, 162, 163, 164, 165, 166, 167, 168, 169, 170, 171, 172, 149, 150, 151, 152, 153, 154, 155] (by decide +kernel) (by decide +kernel)
set_option maxRecDepth 20000 in
theorem gX5_heard_X0_hear : GoodIn wsX5_heard (wsV RX5 126 RX0 yX0_hear wsX0_hear) := goodIn_app (goodIn_of _ (by decide +kernel)) ggX5_heard_X0_hear
set_option maxRecDepth 20000 in
theorem ggX5_heard_X0_placeEvent : GoodIn wsX5_heard wsX0_placeEvent := goodIn_r _ [142, 14, 130, 156, 157, 158, 159, 160, 161, 162, 163, 164, 165, 166, 167, 168, 169, 170, 171, 172] (by decide +kernel) (by decide +kernel)
set_option maxRecDepth 20000 in
theorem gX5_heard_X0_placeEvent : GoodIn wsX5_heard (wsV RX5 130 RX0 yX0_placeEvent wsX0_placeEvent) := goodIn_app (goodIn_of _ (by decide +kernel)) ggX5_heard_X0_placeEvent
theorem dX5_heard_0 : decode cX5_heard 0 = .ok (.iload_n 1, 1) := by decide +kernel
theorem dX5_heard_1 : decode cX5_heard 1 = .ok (.ifCond .lt 19, 3) := by decide +kernel
theorem dX5_heard_4 : decode cX5_heard 4 = .ok (.iload_n 1, 1) := by decide +kernel
theorem dX5_heard_5 : decode cX5_heard 5 = .ok (.bipush 127, 2) := by decide +kernel
theorem dX5_heard_7 : decode cX5_heard 7 = .ok (.if_icmp .gt 13, 3) := by decide +kernel
theorem dX5_heard_10 : decode cX5_heard 10 = .ok (.iload_n 2, 1) := by decide +kernel
theorem dX5_heard_11 : decode cX5_heard 11 = .ok (.ifCond .lt 9, 3) := by decide +kernel
theorem dX5_heard_14 : decode cX5_heard 14 = .ok (.iload_n 2, 1) := by decide +kernel
theorem dX5_heard_15 : decode cX5_heard 15 = .ok (.ldc 120, 2) := by decide +kernel
theorem dX5_heard_17 : decode cX5_heard 17 = .ok (.if_icmp .le 13, 3) := by decide +kernel
theorem dX5_heard_20 : decode cX5_heard 20 = .ok (.new 47, 3) := by decide +kernel
theorem dX5_heard_23 : decode cX5_heard 23 = .ok (.dup, 1) := by decide +kernel
theorem dX5_heard_24 : decode cX5_heard 24 = .ok (.ldc 121, 2) := by decide +kernel
theorem dX5_heard_26 : decode cX5_heard 26 = .ok (.invokespecial 51, 3) := by decide +kernel
theorem dX5_heard_29 : decode cX5_heard 29 = .ok (.athrow, 1) := by decide +kernel
theorem dX5_heard_30 : decode cX5_heard 30 = .ok (.aload_n 0, 1) := by decide +kernel
theorem dX5_heard_31 : decode cX5_heard 31 = .ok (.getfield 27, 3) := by decide +kernel
theorem dX5_heard_34 : decode cX5_heard 34 = .ok (.getfield 76, 3) := by decide +kernel
theorem dX5_heard_37 : decode cX5_heard 37 = .ok (.ifCond .eq 27, 3) := by decide +kernel
theorem dX5_heard_40 : decode cX5_heard 40 = .ok (.aload_n 0, 1) := by decide +kernel
theorem dX5_heard_41 : decode cX5_heard 41 = .ok (.getfield 36, 3) := by decide +kernel
theorem dX5_heard_44 : decode cX5_heard 44 = .ok (.getfield 89, 3) := by decide +kernel
theorem dX5_heard_47 : decode cX5_heard 47 = .ok (.sipush 400, 3) := by decide +kernel
theorem dX5_heard_50 : decode cX5_heard 50 = .ok (.if_icmp .ge 14, 3) := by decide +kernel
theorem dX5_heard_53 : decode cX5_heard 53 = .ok (.iload_n 2, 1) := by decide +kernel
theorem dX5_heard_54 : decode cX5_heard 54 = .ok (.aload_n 0, 1) := by decide +kernel
theorem dX5_heard_55 : decode cX5_heard 55 = .ok (.getfield 36, 3) := by decide +kernel
theorem dX5_heard_58 : decode cX5_heard 58 = .ok (.invokevirtual 123, 3) := by decide +kernel
theorem dX5_heard_61 : decode cX5_heard 61 = .ok (.if_icmp .ge 5, 3) := by decide +kernel
theorem dX5_heard_64 : decode cX5_heard 64 = .ok (.iconst (-1), 1) := by decide +kernel
theorem dX5_heard_65 : decode cX5_heard 65 = .ok (.ireturn, 1) := by decide +kernel
theorem dX5_heard_66 : decode cX5_heard 66 = .ok (.aload_n 0, 1) := by decide +kernel
theorem dX5_heard_67 : decode cX5_heard 67 = .ok (.getfield 36, 3) := by decide +kernel
theorem dX5_heard_70 : decode cX5_heard 70 = .ok (.iload_n 1, 1) := by decide +kernel
theorem dX5_heard_71 : decode cX5_heard 71 = .ok (.iload_n 2, 1) := by decide +kernel
theorem dX5_heard_72 : decode cX5_heard 72 = .ok (.invokevirtual 126, 3) := by decide +kernel
theorem dX5_heard_75 : decode cX5_heard 75 = .ok (.aload_n 0, 1) := by decide +kernel
theorem dX5_heard_76 : decode cX5_heard 76 = .ok (.getfield 36, 3) := by decide +kernel
theorem dX5_heard_79 : decode cX5_heard 79 = .ok (.invokevirtual 130, 3) := by decide +kernel
theorem dX5_heard_82 : decode cX5_heard 82 = .ok (.ireturn, 1) := by decide +kernel
set_option maxRecDepth 20000 in
theorem ggX5_back_X0_takeBack : GoodIn wsX5_back wsX0_takeBack := goodIn_r _ [7, 8, 9, 10, 17, 18, 19, 20, 21, 22, 23, 24, 25, 26, 27, 28, 29, 30, 31, 32, 33] (by decide +kernel) (by decide +kernel)
set_option maxRecDepth 20000 in
theorem gX5_back_X0_takeBack : GoodIn wsX5_back (wsV RX5 133 RX0 yX0_takeBack wsX0_takeBack) := goodIn_app (goodIn_of _ (by decide +kernel)) ggX5_back_X0_takeBack
theorem dX5_back_0 : decode cX5_back 0 = .ok (.aload_n 0, 1) := by decide +kernel
theorem dX5_back_1 : decode cX5_back 1 = .ok (.getfield 36, 3) := by decide +kernel
theorem dX5_back_4 : decode cX5_back 4 = .ok (.invokevirtual 133, 3) := by decide +kernel
theorem dX5_back_7 : decode cX5_back 7 = .ok (.ifCond .eq 13, 3) := by decide +kernel
theorem dX5_back_10 : decode cX5_back 10 = .ok (.aload_n 0, 1) := by decide +kernel
theorem dX5_back_11 : decode cX5_back 11 = .ok (.getfield 36, 3) := by decide +kernel
theorem dX5_back_14 : decode cX5_back 14 = .ok (.getfield 89, 3) := by decide +kernel
theorem dX5_back_17 : decode cX5_back 17 = .ok (.goto 4, 3) := by decide +kernel
theorem dX5_back_20 : decode cX5_back 20 = .ok (.iconst (-1), 1) := by decide +kernel
theorem dX5_back_21 : decode cX5_back 21 = .ok (.ireturn, 1) := by decide +kernel
set_option maxRecDepth 20000 in
theorem ggX5_again_X0_forget : GoodIn wsX5_again wsX0_forget := goodIn_r _ [7, 8, 9, 10, 17, 18, 19, 20, 21, 22, 23] (by decide +kernel) (by decide +kernel)
set_option maxRecDepth 20000 in
theorem gX5_again_X0_forget : GoodIn wsX5_again (wsV RX5 137 RX0 yX0_forget wsX0_forget) := goodIn_app (goodIn_of _ (by decide +kernel)) ggX5_again_X0_forget
theorem dX5_again_0 : decode cX5_again 0 = .ok (.aload_n 0, 1) := by decide +kernel
theorem dX5_again_1 : decode cX5_again 1 = .ok (.getfield 36, 3) := by decide +kernel
theorem dX5_again_4 : decode cX5_again 4 = .ok (.getfield 89, 3) := by decide +kernel
theorem dX5_again_7 : decode cX5_again 7 = .ok (.istore_n 1, 1) := by decide +kernel
theorem dX5_again_8 : decode cX5_again 8 = .ok (.aload_n 0, 1) := by decide +kernel
theorem dX5_again_9 : decode cX5_again 9 = .ok (.getfield 36, 3) := by decide +kernel
theorem dX5_again_12 : decode cX5_again 12 = .ok (.invokevirtual 137, 3) := by decide +kernel
theorem dX5_again_15 : decode cX5_again 15 = .ok (.iload_n 1, 1) := by decide +kernel
theorem dX5_again_16 : decode cX5_again 16 = .ok (.ireturn, 1) := by decide +kernel
set_option maxRecDepth 20000 in
theorem ggX5_place_X0_placeEvent : GoodIn wsX5_place wsX0_placeEvent := goodIn_r _ [10, 11, 12, 42, 43, 44, 45, 46, 47, 48, 49, 50, 51, 52, 53, 54, 55, 56, 57, 58] (by decide +kernel) (by decide +kernel)
set_option maxRecDepth 20000 in
theorem gX5_place_X0_placeEvent : GoodIn wsX5_place (wsV RX5 130 RX0 yX0_placeEvent wsX0_placeEvent) := goodIn_app (goodIn_of _ (by decide +kernel)) ggX5_place_X0_placeEvent
set_option maxRecDepth 20000 in
theorem ggX5_place_X0_placeBits : GoodIn wsX5_place wsX0_placeBits := goodIn_r _ [16, 11, 17, 42, 43, 44, 45, 46, 47, 48, 49, 50, 51, 52, 53, 54, 55, 56, 57, 58] (by decide +kernel) (by decide +kernel)
set_option maxRecDepth 20000 in
theorem gX5_place_X0_placeBits : GoodIn wsX5_place (wsV RX5 142 RX0 yX0_placeBits wsX0_placeBits) := goodIn_app (goodIn_of _ (by decide +kernel)) ggX5_place_X0_placeBits
set_option maxRecDepth 20000 in
theorem ggX5_place_X0_placeCost : GoodIn wsX5_place wsX0_placeCost := goodIn_r _ [21, 11, 22, 42, 43, 44, 45, 46, 47, 48, 49, 50, 51, 52, 53, 54, 55, 56, 57, 58] (by decide +kernel) (by decide +kernel)
set_option maxRecDepth 20000 in
theorem gX5_place_X0_placeCost : GoodIn wsX5_place (wsV RX5 145 RX0 yX0_placeCost wsX0_placeCost) := goodIn_app (goodIn_of _ (by decide +kernel)) ggX5_place_X0_placeCost
set_option maxRecDepth 20000 in
theorem ggX5_place_X3_fact : GoodIn wsX5_place wsX3_fact := goodIn_r _ [27, 28, 35, 36, 37, 38, 39, 40, 41] (by decide +kernel) (by decide +kernel)
set_option maxRecDepth 20000 in
theorem gX5_place_X3_fact : GoodIn wsX5_place (wsV RX5 106 RX3 yX3_fact wsX3_fact) := goodIn_app (goodIn_of _ (by decide +kernel)) ggX5_place_X3_fact
theorem dX5_place_0 : decode cX5_place 0 = .ok (.aload_n 0, 1) := by decide +kernel
theorem dX5_place_1 : decode cX5_place 1 = .ok (.getfield 27, 3) := by decide +kernel
theorem dX5_place_4 : decode cX5_place 4 = .ok (.getfield 76, 3) := by decide +kernel
theorem dX5_place_7 : decode cX5_place 7 = .ok (.ifCond .ne 13, 3) := by decide +kernel
theorem dX5_place_10 : decode cX5_place 10 = .ok (.new 71, 3) := by decide +kernel
theorem dX5_place_13 : decode cX5_place 13 = .ok (.dup, 1) := by decide +kernel
theorem dX5_place_14 : decode cX5_place 14 = .ok (.ldc 140, 2) := by decide +kernel
theorem dX5_place_16 : decode cX5_place 16 = .ok (.invokespecial 75, 3) := by decide +kernel
theorem dX5_place_19 : decode cX5_place 19 = .ok (.athrow, 1) := by decide +kernel
theorem dX5_place_20 : decode cX5_place 20 = .ok (.iload_n 1, 1) := by decide +kernel
theorem dX5_place_21 : decode cX5_place 21 = .ok (.tableswitch 91 0 4 #[35, 43, 51, 59, 75], 35) := by decide +kernel
theorem dX5_place_56 : decode cX5_place 56 = .ok (.aload_n 0, 1) := by decide +kernel
theorem dX5_place_57 : decode cX5_place 57 = .ok (.getfield 36, 3) := by decide +kernel
theorem dX5_place_60 : decode cX5_place 60 = .ok (.invokevirtual 130, 3) := by decide +kernel
theorem dX5_place_63 : decode cX5_place 63 = .ok (.ireturn, 1) := by decide +kernel
theorem dX5_place_64 : decode cX5_place 64 = .ok (.aload_n 0, 1) := by decide +kernel
theorem dX5_place_65 : decode cX5_place 65 = .ok (.getfield 36, 3) := by decide +kernel
theorem dX5_place_68 : decode cX5_place 68 = .ok (.invokevirtual 142, 3) := by decide +kernel
theorem dX5_place_71 : decode cX5_place 71 = .ok (.ireturn, 1) := by decide +kernel
theorem dX5_place_72 : decode cX5_place 72 = .ok (.aload_n 0, 1) := by decide +kernel
theorem dX5_place_73 : decode cX5_place 73 = .ok (.getfield 36, 3) := by decide +kernel
theorem dX5_place_76 : decode cX5_place 76 = .ok (.invokevirtual 145, 3) := by decide +kernel
theorem dX5_place_79 : decode cX5_place 79 = .ok (.ireturn, 1) := by decide +kernel
theorem dX5_place_80 : decode cX5_place 80 = .ok (.aload_n 0, 1) := by decide +kernel
theorem dX5_place_81 : decode cX5_place 81 = .ok (.getfield 27, 3) := by decide +kernel
theorem dX5_place_84 : decode cX5_place 84 = .ok (.aload_n 0, 1) := by decide +kernel
theorem dX5_place_85 : decode cX5_place 85 = .ok (.getfield 36, 3) := by decide +kernel
theorem dX5_place_88 : decode cX5_place 88 = .ok (.invokevirtual 130, 3) := by decide +kernel
theorem dX5_place_91 : decode cX5_place 91 = .ok (.iconst 4, 1) := by decide +kernel
theorem dX5_place_92 : decode cX5_place 92 = .ok (.invokevirtual 106, 3) := by decide +kernel
theorem dX5_place_95 : decode cX5_place 95 = .ok (.ireturn, 1) := by decide +kernel
theorem dX5_place_96 : decode cX5_place 96 = .ok (.aload_n 0, 1) := by decide +kernel
theorem dX5_place_97 : decode cX5_place 97 = .ok (.getfield 27, 3) := by decide +kernel
theorem dX5_place_100 : decode cX5_place 100 = .ok (.aload_n 0, 1) := by decide +kernel
theorem dX5_place_101 : decode cX5_place 101 = .ok (.getfield 36, 3) := by decide +kernel
theorem dX5_place_104 : decode cX5_place 104 = .ok (.invokevirtual 130, 3) := by decide +kernel
theorem dX5_place_107 : decode cX5_place 107 = .ok (.iconst 5, 1) := by decide +kernel
theorem dX5_place_108 : decode cX5_place 108 = .ok (.invokevirtual 106, 3) := by decide +kernel
theorem dX5_place_111 : decode cX5_place 111 = .ok (.ireturn, 1) := by decide +kernel
theorem dX5_place_112 : decode cX5_place 112 = .ok (.new 71, 3) := by decide +kernel
theorem dX5_place_115 : decode cX5_place 115 = .ok (.dup, 1) := by decide +kernel
theorem dX5_place_116 : decode cX5_place 116 = .ok (.ldc 148, 2) := by decide +kernel
theorem dX5_place_118 : decode cX5_place 118 = .ok (.invokespecial 75, 3) := by decide +kernel
theorem dX5_place_121 : decode cX5_place 121 = .ok (.athrow, 1) := by decide +kernel
set_option maxRecDepth 20000 in
theorem ggX5_cost_X3_has : GoodIn wsX5_cost wsX3_has := goodIn_r _ [9, 10, 42, 43, 44, 45, 46, 47, 48] (by decide +kernel) (by decide +kernel)
set_option maxRecDepth 20000 in
theorem gX5_cost_X3_has : GoodIn wsX5_cost (wsV RX5 100 RX3 yX3_has wsX3_has) := goodIn_app (goodIn_of _ (by decide +kernel)) ggX5_cost_X3_has
set_option maxRecDepth 20000 in
theorem ggX5_cost_X3_allBits : GoodIn wsX5_cost wsX3_allBits := goodIn_r _ [14, 15, 16, 17, 8, 18, 19, 42, 43, 44, 45, 46, 47, 48] (by decide +kernel) (by decide +kernel)
set_option maxRecDepth 20000 in
theorem gX5_cost_X3_allBits : GoodIn wsX5_cost (wsV RX5 150 RX3 yX3_allBits wsX3_allBits) := goodIn_app (goodIn_of _ (by decide +kernel)) ggX5_cost_X3_allBits
set_option maxRecDepth 20000 in
theorem ggX5_cost_X0_costOf : GoodIn wsX5_cost wsX0_costOf := goodIn_r _ [24, 25, 26, 27, 28, 16, 17, 8, 18, 19, 29, 30, 31, 32, 33, 34, 35, 49, 50, 51, 52, 53, 54, 55, 42, 43, 44, 45, 46, 47, 48, 56, 57, 58, 59, 60, 61, 62, 63, 64, 65] (by decide +kernel) (by decide +kernel)
set_option maxRecDepth 20000 in
theorem gX5_cost_X0_costOf : GoodIn wsX5_cost (wsV RX5 156 RX0 yX0_costOf wsX0_costOf) := goodIn_app (goodIn_of _ (by decide +kernel)) ggX5_cost_X0_costOf
theorem dX5_cost_0 : decode cX5_cost 0 = .ok (.aload_n 0, 1) := by decide +kernel
theorem dX5_cost_1 : decode cX5_cost 1 = .ok (.getfield 27, 3) := by decide +kernel
theorem dX5_cost_4 : decode cX5_cost 4 = .ok (.iload_n 1, 1) := by decide +kernel
theorem dX5_cost_5 : decode cX5_cost 5 = .ok (.invokevirtual 100, 3) := by decide +kernel
theorem dX5_cost_8 : decode cX5_cost 8 = .ok (.ifCond .eq 19, 3) := by decide +kernel
theorem dX5_cost_11 : decode cX5_cost 11 = .ok (.iload_n 2, 1) := by decide +kernel
theorem dX5_cost_12 : decode cX5_cost 12 = .ok (.ifCond .lt 15, 3) := by decide +kernel
theorem dX5_cost_15 : decode cX5_cost 15 = .ok (.iload_n 2, 1) := by decide +kernel
theorem dX5_cost_16 : decode cX5_cost 16 = .ok (.aload_n 0, 1) := by decide +kernel
theorem dX5_cost_17 : decode cX5_cost 17 = .ok (.getfield 27, 3) := by decide +kernel
theorem dX5_cost_20 : decode cX5_cost 20 = .ok (.iload_n 1, 1) := by decide +kernel
theorem dX5_cost_21 : decode cX5_cost 21 = .ok (.invokevirtual 150, 3) := by decide +kernel
theorem dX5_cost_24 : decode cX5_cost 24 = .ok (.if_icmp .le 13, 3) := by decide +kernel
theorem dX5_cost_27 : decode cX5_cost 27 = .ok (.new 71, 3) := by decide +kernel
theorem dX5_cost_30 : decode cX5_cost 30 = .ok (.dup, 1) := by decide +kernel
theorem dX5_cost_31 : decode cX5_cost 31 = .ok (.ldc 154, 2) := by decide +kernel
theorem dX5_cost_33 : decode cX5_cost 33 = .ok (.invokespecial 75, 3) := by decide +kernel
theorem dX5_cost_36 : decode cX5_cost 36 = .ok (.athrow, 1) := by decide +kernel
theorem dX5_cost_37 : decode cX5_cost 37 = .ok (.aload_n 0, 1) := by decide +kernel
theorem dX5_cost_38 : decode cX5_cost 38 = .ok (.getfield 36, 3) := by decide +kernel
theorem dX5_cost_41 : decode cX5_cost 41 = .ok (.iload_n 1, 1) := by decide +kernel
theorem dX5_cost_42 : decode cX5_cost 42 = .ok (.iload_n 2, 1) := by decide +kernel
theorem dX5_cost_43 : decode cX5_cost 43 = .ok (.invokevirtual 156, 3) := by decide +kernel
theorem dX5_cost_46 : decode cX5_cost 46 = .ok (.ireturn, 1) := by decide +kernel
set_option maxRecDepth 20000 in
theorem ggX5_sure_X0_leadOverOtherMeasures : GoodIn wsX5_sure wsX0_leadOverOtherMeasures := goodIn_r _ [10, 11, 12, 13, 14, 15, 16, 17, 18, 19, 20, 21, 22, 23, 24, 25, 26, 27, 28, 29, 9, 30, 31, 32, 33, 34, 35, 36, 37, 38, 39, 40, 41, 42, 56, 57, 58, 59, 60, 61, 62, 63, 64, 65, 66, 67, 68, 69, 70, 71, 72, 49, 50, 51, 52, 53, 54, 55] (by decide +kernel) (by decide +kernel)
set_option maxRecDepth 20000 in
theorem gX5_sure_X0_leadOverOtherMeasures : GoodIn wsX5_sure (wsV RX5 159 RX0 yX0_leadOverOtherMeasures wsX0_leadOverOtherMeasures) := goodIn_app (goodIn_of _ (by decide +kernel)) ggX5_sure_X0_leadOverOtherMeasures
theorem dX5_sure_0 : decode cX5_sure 0 = .ok (.aload_n 0, 1) := by decide +kernel
theorem dX5_sure_1 : decode cX5_sure 1 = .ok (.getfield 27, 3) := by decide +kernel
theorem dX5_sure_4 : decode cX5_sure 4 = .ok (.getfield 76, 3) := by decide +kernel
theorem dX5_sure_7 : decode cX5_sure 7 = .ok (.ifCond .ne 13, 3) := by decide +kernel
theorem dX5_sure_10 : decode cX5_sure 10 = .ok (.new 71, 3) := by decide +kernel
theorem dX5_sure_13 : decode cX5_sure 13 = .ok (.dup, 1) := by decide +kernel
theorem dX5_sure_14 : decode cX5_sure 14 = .ok (.ldc 140, 2) := by decide +kernel
theorem dX5_sure_16 : decode cX5_sure 16 = .ok (.invokespecial 75, 3) := by decide +kernel
theorem dX5_sure_19 : decode cX5_sure 19 = .ok (.athrow, 1) := by decide +kernel
theorem dX5_sure_20 : decode cX5_sure 20 = .ok (.aload_n 0, 1) := by decide +kernel
theorem dX5_sure_21 : decode cX5_sure 21 = .ok (.getfield 36, 3) := by decide +kernel
theorem dX5_sure_24 : decode cX5_sure 24 = .ok (.invokevirtual 159, 3) := by decide +kernel
theorem dX5_sure_27 : decode cX5_sure 27 = .ok (.ireturn, 1) := by decide +kernel
set_option maxRecDepth 20000 in
theorem ggX5_tempo_X0_tempoUpper : GoodIn wsX5_tempo wsX0_tempoUpper := goodIn_r _ [6, 7, 8, 9, 10, 11, 12, 5, 13, 14, 41, 42, 43, 44, 45, 46, 47, 48, 49, 50, 51, 52, 53, 54, 55, 56, 57] (by decide +kernel) (by decide +kernel)
set_option maxRecDepth 20000 in
theorem gX5_tempo_X0_tempoUpper : GoodIn wsX5_tempo (wsV RX5 162 RX0 yX0_tempoUpper wsX0_tempoUpper) := goodIn_app (goodIn_of _ (by decide +kernel)) ggX5_tempo_X0_tempoUpper
set_option maxRecDepth 20000 in
theorem ggX5_tempo_X0_tempoLower : GoodIn wsX5_tempo wsX0_tempoLower := goodIn_r _ [18, 7, 8, 10, 11, 12, 5, 13, 14, 19, 20, 21, 22, 23, 24, 25, 26, 27, 28, 29, 30, 41, 42, 43, 44, 45, 46, 47, 48, 49, 50, 51, 52, 53, 54, 55, 56, 57, 58, 59, 60, 61, 62, 63, 64] (by decide +kernel) (by decide +kernel)
set_option maxRecDepth 20000 in
theorem gX5_tempo_X0_tempoLower : GoodIn wsX5_tempo (wsV RX5 165 RX0 yX0_tempoLower wsX0_tempoLower) := goodIn_app (goodIn_of _ (by decide +kernel)) ggX5_tempo_X0_tempoLower
set_option maxRecDepth 20000 in
theorem ggX5_tempo_X5_commonDivisor : GoodIn wsX5_tempo wsX5_commonDivisor := goodIn_r _ [34] (by decide +kernel) (by decide +kernel)
set_option maxRecDepth 20000 in
theorem gX5_tempo_X5_commonDivisor : GoodIn wsX5_tempo (va_wsS RX5 168 yX5_commonDivisor wsX5_commonDivisor) := goodIn_app (goodIn_of _ (by decide +kernel)) ggX5_tempo_X5_commonDivisor
theorem dX5_tempo_0 : decode cX5_tempo 0 = .ok (.aload_n 0, 1) := by decide +kernel
theorem dX5_tempo_1 : decode cX5_tempo 1 = .ok (.getfield 36, 3) := by decide +kernel
theorem dX5_tempo_4 : decode cX5_tempo 4 = .ok (.invokevirtual 162, 3) := by decide +kernel
theorem dX5_tempo_7 : decode cX5_tempo 7 = .ok (.istore_n 2, 1) := by decide +kernel
theorem dX5_tempo_8 : decode cX5_tempo 8 = .ok (.aload_n 0, 1) := by decide +kernel
theorem dX5_tempo_9 : decode cX5_tempo 9 = .ok (.getfield 36, 3) := by decide +kernel
theorem dX5_tempo_12 : decode cX5_tempo 12 = .ok (.invokevirtual 165, 3) := by decide +kernel
theorem dX5_tempo_15 : decode cX5_tempo 15 = .ok (.istore_n 3, 1) := by decide +kernel
theorem dX5_tempo_16 : decode cX5_tempo 16 = .ok (.iload_n 2, 1) := by decide +kernel
theorem dX5_tempo_17 : decode cX5_tempo 17 = .ok (.iload_n 3, 1) := by decide +kernel
theorem dX5_tempo_18 : decode cX5_tempo 18 = .ok (.invokestatic 168, 3) := by decide +kernel
theorem dX5_tempo_21 : decode cX5_tempo 21 = .ok (.istore 4, 2) := by decide +kernel
theorem dX5_tempo_23 : decode cX5_tempo 23 = .ok (.iload_n 1, 1) := by decide +kernel
theorem dX5_tempo_24 : decode cX5_tempo 24 = .ok (.ifCond .eq 7, 3) := by decide +kernel
theorem dX5_tempo_27 : decode cX5_tempo 27 = .ok (.iload_n 3, 1) := by decide +kernel
theorem dX5_tempo_28 : decode cX5_tempo 28 = .ok (.goto 4, 3) := by decide +kernel
theorem dX5_tempo_31 : decode cX5_tempo 31 = .ok (.iload_n 2, 1) := by decide +kernel
theorem dX5_tempo_32 : decode cX5_tempo 32 = .ok (.istore 5, 2) := by decide +kernel
theorem dX5_tempo_34 : decode cX5_tempo 34 = .ok (.iload 4, 2) := by decide +kernel
theorem dX5_tempo_36 : decode cX5_tempo 36 = .ok (.ifCond .ne 8, 3) := by decide +kernel
theorem dX5_tempo_39 : decode cX5_tempo 39 = .ok (.iload 5, 2) := by decide +kernel
theorem dX5_tempo_41 : decode cX5_tempo 41 = .ok (.goto 8, 3) := by decide +kernel
theorem dX5_tempo_44 : decode cX5_tempo 44 = .ok (.iload 5, 2) := by decide +kernel
theorem dX5_tempo_46 : decode cX5_tempo 46 = .ok (.iload 4, 2) := by decide +kernel
theorem dX5_tempo_48 : decode cX5_tempo 48 = .ok (.idiv, 1) := by decide +kernel
theorem dX5_tempo_49 : decode cX5_tempo 49 = .ok (.ireturn, 1) := by decide +kernel
theorem dX5_commonDivisor_0 : decode cX5_commonDivisor 0 = .ok (.iload_n 0, 1) := by decide +kernel
theorem dX5_commonDivisor_1 : decode cX5_commonDivisor 1 = .ok (.istore_n 2, 1) := by decide +kernel
theorem dX5_commonDivisor_2 : decode cX5_commonDivisor 2 = .ok (.iload_n 1, 1) := by decide +kernel
theorem dX5_commonDivisor_3 : decode cX5_commonDivisor 3 = .ok (.istore_n 3, 1) := by decide +kernel
theorem dX5_commonDivisor_4 : decode cX5_commonDivisor 4 = .ok (.iconst 0, 1) := by decide +kernel
theorem dX5_commonDivisor_5 : decode cX5_commonDivisor 5 = .ok (.istore 4, 2) := by decide +kernel
theorem dX5_commonDivisor_7 : decode cX5_commonDivisor 7 = .ok (.iload 4, 2) := by decide +kernel
theorem dX5_commonDivisor_9 : decode cX5_commonDivisor 9 = .ok (.bipush 64, 2) := by decide +kernel
theorem dX5_commonDivisor_11 : decode cX5_commonDivisor 11 = .ok (.if_icmp .ge 23, 3) := by decide +kernel
theorem dX5_commonDivisor_14 : decode cX5_commonDivisor 14 = .ok (.iload_n 3, 1) := by decide +kernel
theorem dX5_commonDivisor_15 : decode cX5_commonDivisor 15 = .ok (.ifCond .eq 19, 3) := by decide +kernel
theorem dX5_commonDivisor_18 : decode cX5_commonDivisor 18 = .ok (.iload_n 2, 1) := by decide +kernel
theorem dX5_commonDivisor_19 : decode cX5_commonDivisor 19 = .ok (.iload_n 3, 1) := by decide +kernel
theorem dX5_commonDivisor_20 : decode cX5_commonDivisor 20 = .ok (.irem, 1) := by decide +kernel
theorem dX5_commonDivisor_21 : decode cX5_commonDivisor 21 = .ok (.istore 5, 2) := by decide +kernel
theorem dX5_commonDivisor_23 : decode cX5_commonDivisor 23 = .ok (.iload_n 3, 1) := by decide +kernel
theorem dX5_commonDivisor_24 : decode cX5_commonDivisor 24 = .ok (.istore_n 2, 1) := by decide +kernel
theorem dX5_commonDivisor_25 : decode cX5_commonDivisor 25 = .ok (.iload 5, 2) := by decide +kernel
theorem dX5_commonDivisor_27 : decode cX5_commonDivisor 27 = .ok (.istore_n 3, 1) := by decide +kernel
theorem dX5_commonDivisor_28 : decode cX5_commonDivisor 28 = .ok (.iinc 4 1, 3) := by decide +kernel
theorem dX5_commonDivisor_31 : decode cX5_commonDivisor 31 = .ok (.goto (-24), 3) := by decide +kernel
theorem dX5_commonDivisor_34 : decode cX5_commonDivisor 34 = .ok (.iload_n 2, 1) := by decide +kernel
theorem dX5_commonDivisor_35 : decode cX5_commonDivisor 35 = .ok (.ireturn, 1) := by decide +kernel
set_option maxRecDepth 20000 in
theorem ggX5_time_X0_timeOfBeat : GoodIn wsX5_time wsX0_timeOfBeat := goodIn_r _ [9, 10, 11, 12, 13, 14, 15, 16, 8, 17, 18, 19, 20, 21, 22, 23, 24, 25, 26, 27, 28, 29, 30, 31, 32, 33, 34, 35, 36, 37, 38, 39, 40, 41, 42, 49, 50, 51, 52, 53, 54, 55, 56, 57, 58, 59, 60, 61, 62, 63, 64, 65, 66, 67, 68, 69, 70, 71, 72] (by decide +kernel) (by decide +kernel)
set_option maxRecDepth 20000 in
theorem gX5_time_X0_timeOfBeat : GoodIn wsX5_time (wsV RX5 174 RX0 yX0_timeOfBeat wsX0_timeOfBeat) := goodIn_app (goodIn_of _ (by decide +kernel)) ggX5_time_X0_timeOfBeat
theorem dX5_time_0 : decode cX5_time 0 = .ok (.iload_n 1, 1) := by decide +kernel
theorem dX5_time_1 : decode cX5_time 1 = .ok (.ifCond .lt 9, 3) := by decide +kernel
theorem dX5_time_4 : decode cX5_time 4 = .ok (.iload_n 1, 1) := by decide +kernel
theorem dX5_time_5 : decode cX5_time 5 = .ok (.ldc 171, 2) := by decide +kernel
theorem dX5_time_7 : decode cX5_time 7 = .ok (.if_icmp .le 13, 3) := by decide +kernel
theorem dX5_time_10 : decode cX5_time 10 = .ok (.new 47, 3) := by decide +kernel
theorem dX5_time_13 : decode cX5_time 13 = .ok (.dup, 1) := by decide +kernel
theorem dX5_time_14 : decode cX5_time 14 = .ok (.ldc 172, 2) := by decide +kernel
theorem dX5_time_16 : decode cX5_time 16 = .ok (.invokespecial 51, 3) := by decide +kernel
theorem dX5_time_19 : decode cX5_time 19 = .ok (.athrow, 1) := by decide +kernel
theorem dX5_time_20 : decode cX5_time 20 = .ok (.aload_n 0, 1) := by decide +kernel
theorem dX5_time_21 : decode cX5_time 21 = .ok (.getfield 36, 3) := by decide +kernel
theorem dX5_time_24 : decode cX5_time 24 = .ok (.iload_n 1, 1) := by decide +kernel
theorem dX5_time_25 : decode cX5_time 25 = .ok (.invokevirtual 174, 3) := by decide +kernel
theorem dX5_time_28 : decode cX5_time 28 = .ok (.lreturn, 1) := by decide +kernel
set_option maxRecDepth 20000 in
theorem ggX5_turnsAt_X0_placeEvent : GoodIn wsX5_turnsAt wsX0_placeEvent := goodIn_r _ [9, 10, 11, 65, 66, 67, 68, 69, 70, 71, 72, 73, 74, 75, 76, 77, 78, 79, 80, 81] (by decide +kernel) (by decide +kernel)
set_option maxRecDepth 20000 in
theorem gX5_turnsAt_X0_placeEvent : GoodIn wsX5_turnsAt (wsV RX5 130 RX0 yX0_placeEvent wsX0_placeEvent) := goodIn_app (goodIn_of _ (by decide +kernel)) ggX5_turnsAt_X0_placeEvent
set_option maxRecDepth 20000 in
theorem ggX5_turnsAt_X3_firstOfNextPage : GoodIn wsX5_turnsAt wsX3_firstOfNextPage := goodIn_r _ [16, 17, 18, 19, 20, 15, 21, 22, 82, 83, 84, 85, 86, 87, 88] (by decide +kernel) (by decide +kernel)
set_option maxRecDepth 20000 in
theorem gX5_turnsAt_X3_firstOfNextPage : GoodIn wsX5_turnsAt (wsV RX5 178 RX3 yX3_firstOfNextPage wsX3_firstOfNextPage) := goodIn_app (goodIn_of _ (by decide +kernel)) ggX5_turnsAt_X3_firstOfNextPage
set_option maxRecDepth 20000 in
theorem ggX5_turnsAt_X0_anchors : GoodIn wsX5_turnsAt wsX0_anchors := goodIn_r _ [26, 10, 27, 65, 66, 67, 68, 69, 70, 71, 72, 73, 74, 75, 76, 77, 78, 79, 80, 81] (by decide +kernel) (by decide +kernel)
set_option maxRecDepth 20000 in
theorem gX5_turnsAt_X0_anchors : GoodIn wsX5_turnsAt (wsV RX5 92 RX0 yX0_anchors wsX0_anchors) := goodIn_app (goodIn_of _ (by decide +kernel)) ggX5_turnsAt_X0_anchors
set_option maxRecDepth 20000 in
theorem ggX5_turnsAt_X3_fact : GoodIn wsX5_turnsAt wsX3_fact := goodIn_r _ [21, 22, 82, 83, 84, 85, 86, 87, 88] (by decide +kernel) (by decide +kernel)
set_option maxRecDepth 20000 in
theorem gX5_turnsAt_X3_fact : GoodIn wsX5_turnsAt (wsV RX5 106 RX3 yX3_fact wsX3_fact) := goodIn_app (goodIn_of _ (by decide +kernel)) ggX5_turnsAt_X3_fact
set_option maxRecDepth 20000 in
theorem ggX5_turnsAt_X0_timeOfBeat : GoodIn wsX5_turnsAt wsX0_timeOfBeat := goodIn_r _ [32, 10, 33, 34, 35, 36, 37, 38, 8, 39, 40, 41, 42, 43, 44, 45, 46, 47, 48, 49, 11, 50, 19, 20, 15, 21, 22, 51, 52, 53, 54, 55, 56, 57, 58, 65, 66, 67, 68, 69, 70, 71, 72, 73, 74, 75, 76, 77, 78, 79, 80, 81, 82, 83, 84, 85, 86, 87, 88] (by decide +kernel) (by decide +kernel)
set_option maxRecDepth 20000 in
theorem gX5_turnsAt_X0_timeOfBeat : GoodIn wsX5_turnsAt (wsV RX5 174 RX0 yX0_timeOfBeat wsX0_timeOfBeat) := goodIn_app (goodIn_of _ (by decide +kernel)) ggX5_turnsAt_X0_timeOfBeat
theorem dX5_turnsAt_0 : decode cX5_turnsAt 0 = .ok (.aload_n 0, 1) := by decide +kernel
theorem dX5_turnsAt_1 : decode cX5_turnsAt 1 = .ok (.getfield 27, 3) := by decide +kernel
theorem dX5_turnsAt_4 : decode cX5_turnsAt 4 = .ok (.aload_n 0, 1) := by decide +kernel
theorem dX5_turnsAt_5 : decode cX5_turnsAt 5 = .ok (.getfield 36, 3) := by decide +kernel
theorem dX5_turnsAt_8 : decode cX5_turnsAt 8 = .ok (.invokevirtual 130, 3) := by decide +kernel
theorem dX5_turnsAt_11 : decode cX5_turnsAt 11 = .ok (.invokevirtual 178, 3) := by decide +kernel
theorem dX5_turnsAt_14 : decode cX5_turnsAt 14 = .ok (.istore_n 1, 1) := by decide +kernel
theorem dX5_turnsAt_15 : decode cX5_turnsAt 15 = .ok (.iload_n 1, 1) := by decide +kernel
theorem dX5_turnsAt_16 : decode cX5_turnsAt 16 = .ok (.iconst (-1), 1) := by decide +kernel
theorem dX5_turnsAt_17 : decode cX5_turnsAt 17 = .ok (.if_icmp .eq 13, 3) := by decide +kernel
theorem dX5_turnsAt_20 : decode cX5_turnsAt 20 = .ok (.aload_n 0, 1) := by decide +kernel
theorem dX5_turnsAt_21 : decode cX5_turnsAt 21 = .ok (.getfield 36, 3) := by decide +kernel
theorem dX5_turnsAt_24 : decode cX5_turnsAt 24 = .ok (.invokevirtual 92, 3) := by decide +kernel
theorem dX5_turnsAt_27 : decode cX5_turnsAt 27 = .ok (.ifCond .ne 7, 3) := by decide +kernel
theorem dX5_turnsAt_30 : decode cX5_turnsAt 30 = .ok (.ldc2_w 181, 3) := by decide +kernel
theorem dX5_turnsAt_33 : decode cX5_turnsAt 33 = .ok (.lreturn, 1) := by decide +kernel
theorem dX5_turnsAt_34 : decode cX5_turnsAt 34 = .ok (.aload_n 0, 1) := by decide +kernel
theorem dX5_turnsAt_35 : decode cX5_turnsAt 35 = .ok (.getfield 36, 3) := by decide +kernel
theorem dX5_turnsAt_38 : decode cX5_turnsAt 38 = .ok (.aload_n 0, 1) := by decide +kernel
theorem dX5_turnsAt_39 : decode cX5_turnsAt 39 = .ok (.getfield 27, 3) := by decide +kernel
theorem dX5_turnsAt_42 : decode cX5_turnsAt 42 = .ok (.iload_n 1, 1) := by decide +kernel
theorem dX5_turnsAt_43 : decode cX5_turnsAt 43 = .ok (.iconst 2, 1) := by decide +kernel
theorem dX5_turnsAt_44 : decode cX5_turnsAt 44 = .ok (.invokevirtual 106, 3) := by decide +kernel
theorem dX5_turnsAt_47 : decode cX5_turnsAt 47 = .ok (.invokevirtual 174, 3) := by decide +kernel
theorem dX5_turnsAt_50 : decode cX5_turnsAt 50 = .ok (.aload_n 0, 1) := by decide +kernel
theorem dX5_turnsAt_51 : decode cX5_turnsAt 51 = .ok (.getfield 40, 3) := by decide +kernel
theorem dX5_turnsAt_54 : decode cX5_turnsAt 54 = .ok (.i2l, 1) := by decide +kernel
theorem dX5_turnsAt_55 : decode cX5_turnsAt 55 = .ok (.lsub, 1) := by decide +kernel
theorem dX5_turnsAt_56 : decode cX5_turnsAt 56 = .ok (.lreturn, 1) := by decide +kernel
set_option maxRecDepth 20000 in
theorem ggX5_cue_X0_placeEvent : GoodIn wsX5_cue wsX0_placeEvent := goodIn_r _ [8, 9, 10, 59, 60, 61, 62, 63, 64, 65, 66, 67, 68, 69, 70, 71, 72, 73, 74, 75] (by decide +kernel) (by decide +kernel)
set_option maxRecDepth 20000 in
theorem gX5_cue_X0_placeEvent : GoodIn wsX5_cue (wsV RX5 130 RX0 yX0_placeEvent wsX0_placeEvent) := goodIn_app (goodIn_of _ (by decide +kernel)) ggX5_cue_X0_placeEvent
set_option maxRecDepth 20000 in
theorem ggX5_cue_X3_cueFrom : GoodIn wsX5_cue wsX3_cueFrom := goodIn_r _ [15, 16, 17, 18, 19, 14, 20, 21, 76, 77, 78, 79, 80, 81, 82] (by decide +kernel) (by decide +kernel)
set_option maxRecDepth 20000 in
theorem gX5_cue_X3_cueFrom : GoodIn wsX5_cue (wsV RX5 183 RX3 yX3_cueFrom wsX3_cueFrom) := goodIn_app (goodIn_of _ (by decide +kernel)) ggX5_cue_X3_cueFrom
set_option maxRecDepth 20000 in
theorem ggX5_cue_X3_fact : GoodIn wsX5_cue wsX3_fact := goodIn_r _ [20, 21, 76, 77, 78, 79, 80, 81, 82] (by decide +kernel) (by decide +kernel)
set_option maxRecDepth 20000 in
theorem gX5_cue_X3_fact : GoodIn wsX5_cue (wsV RX5 106 RX3 yX3_fact wsX3_fact) := goodIn_app (goodIn_of _ (by decide +kernel)) ggX5_cue_X3_fact
set_option maxRecDepth 20000 in
theorem ggX5_cue_X0_timeOfBeat : GoodIn wsX5_cue wsX0_timeOfBeat := goodIn_r _ [26, 9, 27, 28, 29, 30, 31, 32, 7, 33, 34, 35, 36, 37, 38, 39, 40, 41, 42, 43, 10, 44, 18, 19, 14, 20, 21, 45, 46, 47, 48, 49, 50, 51, 52, 59, 60, 61, 62, 63, 64, 65, 66, 67, 68, 69, 70, 71, 72, 73, 74, 75, 76, 77, 78, 79, 80, 81, 82] (by decide +kernel) (by decide +kernel)
set_option maxRecDepth 20000 in
theorem gX5_cue_X0_timeOfBeat : GoodIn wsX5_cue (wsV RX5 174 RX0 yX0_timeOfBeat wsX0_timeOfBeat) := goodIn_app (goodIn_of _ (by decide +kernel)) ggX5_cue_X0_timeOfBeat
theorem dX5_cue_0 : decode cX5_cue 0 = .ok (.aload_n 0, 1) := by decide +kernel
theorem dX5_cue_1 : decode cX5_cue 1 = .ok (.getfield 27, 3) := by decide +kernel
theorem dX5_cue_4 : decode cX5_cue 4 = .ok (.aload_n 0, 1) := by decide +kernel
theorem dX5_cue_5 : decode cX5_cue 5 = .ok (.getfield 36, 3) := by decide +kernel
theorem dX5_cue_8 : decode cX5_cue 8 = .ok (.invokevirtual 130, 3) := by decide +kernel
theorem dX5_cue_11 : decode cX5_cue 11 = .ok (.invokevirtual 183, 3) := by decide +kernel
theorem dX5_cue_14 : decode cX5_cue 14 = .ok (.istore_n 1, 1) := by decide +kernel
theorem dX5_cue_15 : decode cX5_cue 15 = .ok (.iload_n 1, 1) := by decide +kernel
theorem dX5_cue_16 : decode cX5_cue 16 = .ok (.iconst (-1), 1) := by decide +kernel
theorem dX5_cue_17 : decode cX5_cue 17 = .ok (.if_icmp .ne 9, 3) := by decide +kernel
theorem dX5_cue_20 : decode cX5_cue 20 = .ok (.ldc2_w 181, 3) := by decide +kernel
theorem dX5_cue_23 : decode cX5_cue 23 = .ok (.goto 19, 3) := by decide +kernel
theorem dX5_cue_26 : decode cX5_cue 26 = .ok (.aload_n 0, 1) := by decide +kernel
theorem dX5_cue_27 : decode cX5_cue 27 = .ok (.getfield 36, 3) := by decide +kernel
theorem dX5_cue_30 : decode cX5_cue 30 = .ok (.aload_n 0, 1) := by decide +kernel
theorem dX5_cue_31 : decode cX5_cue 31 = .ok (.getfield 27, 3) := by decide +kernel
theorem dX5_cue_34 : decode cX5_cue 34 = .ok (.iload_n 1, 1) := by decide +kernel
theorem dX5_cue_35 : decode cX5_cue 35 = .ok (.iconst 2, 1) := by decide +kernel
theorem dX5_cue_36 : decode cX5_cue 36 = .ok (.invokevirtual 106, 3) := by decide +kernel
theorem dX5_cue_39 : decode cX5_cue 39 = .ok (.invokevirtual 174, 3) := by decide +kernel
theorem dX5_cue_42 : decode cX5_cue 42 = .ok (.lreturn, 1) := by decide +kernel
theorem dX5_lead_0 : decode cX5_lead 0 = .ok (.iload_n 1, 1) := by decide +kernel
theorem dX5_lead_1 : decode cX5_lead 1 = .ok (.ifCond .lt 9, 3) := by decide +kernel
theorem dX5_lead_4 : decode cX5_lead 4 = .ok (.iload_n 1, 1) := by decide +kernel
theorem dX5_lead_5 : decode cX5_lead 5 = .ok (.ldc 186, 2) := by decide +kernel
theorem dX5_lead_7 : decode cX5_lead 7 = .ok (.if_icmp .le 13, 3) := by decide +kernel
theorem dX5_lead_10 : decode cX5_lead 10 = .ok (.new 47, 3) := by decide +kernel
theorem dX5_lead_13 : decode cX5_lead 13 = .ok (.dup, 1) := by decide +kernel
theorem dX5_lead_14 : decode cX5_lead 14 = .ok (.ldc 187, 2) := by decide +kernel
theorem dX5_lead_16 : decode cX5_lead 16 = .ok (.invokespecial 51, 3) := by decide +kernel
theorem dX5_lead_19 : decode cX5_lead 19 = .ok (.athrow, 1) := by decide +kernel
theorem dX5_lead_20 : decode cX5_lead 20 = .ok (.aload_n 0, 1) := by decide +kernel
theorem dX5_lead_21 : decode cX5_lead 21 = .ok (.getfield 40, 3) := by decide +kernel
theorem dX5_lead_24 : decode cX5_lead 24 = .ok (.istore_n 2, 1) := by decide +kernel
theorem dX5_lead_25 : decode cX5_lead 25 = .ok (.aload_n 0, 1) := by decide +kernel
theorem dX5_lead_26 : decode cX5_lead 26 = .ok (.iload_n 1, 1) := by decide +kernel
theorem dX5_lead_27 : decode cX5_lead 27 = .ok (.putfield 40, 3) := by decide +kernel
theorem dX5_lead_30 : decode cX5_lead 30 = .ok (.iload_n 2, 1) := by decide +kernel
theorem dX5_lead_31 : decode cX5_lead 31 = .ok (.ireturn, 1) := by decide +kernel
