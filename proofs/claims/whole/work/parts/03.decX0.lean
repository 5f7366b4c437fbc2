set_option maxRecDepth 20000 in
theorem ggX0_init_X1_init : GoodIn wsX0_init wsX1_init := goodIn_r _ [16, 17, 2, 3, 4, 18, 19, 27, 28, 29, 30, 31, 32, 33, 34, 35, 36] (by decide +kernel) (by decide +kernel)
set_option maxRecDepth 20000 in
theorem gX0_init_X1_init : GoodIn wsX0_init (wsX1_init) := ggX0_init_X1_init
theorem dX0_init_0 : decode cX0_init 0 = .ok (.aload_n 0, 1) := by decide +kernel
theorem dX0_init_1 : decode cX0_init 1 = .ok (.invokespecial 3, 3) := by decide +kernel
theorem dX0_init_4 : decode cX0_init 4 = .ok (.aload_n 0, 1) := by decide +kernel
theorem dX0_init_5 : decode cX0_init 5 = .ok (.iconst 4, 1) := by decide +kernel
theorem dX0_init_6 : decode cX0_init 6 = .ok (.newarray .int, 2) := by decide +kernel
theorem dX0_init_8 : decode cX0_init 8 = .ok (.dup, 1) := by decide +kernel
theorem dX0_init_9 : decode cX0_init 9 = .ok (.iconst 0, 1) := by decide +kernel
theorem dX0_init_10 : decode cX0_init 10 = .ok (.iconst 3, 1) := by decide +kernel
theorem dX0_init_11 : decode cX0_init 11 = .ok (.iastore, 1) := by decide +kernel
theorem dX0_init_12 : decode cX0_init 12 = .ok (.dup, 1) := by decide +kernel
theorem dX0_init_13 : decode cX0_init 13 = .ok (.iconst 1, 1) := by decide +kernel
theorem dX0_init_14 : decode cX0_init 14 = .ok (.iconst 2, 1) := by decide +kernel
theorem dX0_init_15 : decode cX0_init 15 = .ok (.iastore, 1) := by decide +kernel
theorem dX0_init_16 : decode cX0_init 16 = .ok (.dup, 1) := by decide +kernel
theorem dX0_init_17 : decode cX0_init 17 = .ok (.iconst 2, 1) := by decide +kernel
theorem dX0_init_18 : decode cX0_init 18 = .ok (.iconst 2, 1) := by decide +kernel
theorem dX0_init_19 : decode cX0_init 19 = .ok (.iastore, 1) := by decide +kernel
theorem dX0_init_20 : decode cX0_init 20 = .ok (.dup, 1) := by decide +kernel
theorem dX0_init_21 : decode cX0_init 21 = .ok (.iconst 3, 1) := by decide +kernel
theorem dX0_init_22 : decode cX0_init 22 = .ok (.bipush 6, 2) := by decide +kernel
theorem dX0_init_24 : decode cX0_init 24 = .ok (.iastore, 1) := by decide +kernel
theorem dX0_init_25 : decode cX0_init 25 = .ok (.putfield 9, 3) := by decide +kernel
theorem dX0_init_28 : decode cX0_init 28 = .ok (.aload_n 0, 1) := by decide +kernel
theorem dX0_init_29 : decode cX0_init 29 = .ok (.bipush 100, 2) := by decide +kernel
theorem dX0_init_31 : decode cX0_init 31 = .ok (.newarray .int, 2) := by decide +kernel
theorem dX0_init_33 : decode cX0_init 33 = .ok (.putfield 15, 3) := by decide +kernel
theorem dX0_init_36 : decode cX0_init 36 = .ok (.aload_n 0, 1) := by decide +kernel
theorem dX0_init_37 : decode cX0_init 37 = .ok (.bipush 100, 2) := by decide +kernel
theorem dX0_init_39 : decode cX0_init 39 = .ok (.newarray .int, 2) := by decide +kernel
theorem dX0_init_41 : decode cX0_init 41 = .ok (.putfield 18, 3) := by decide +kernel
theorem dX0_init_44 : decode cX0_init 44 = .ok (.aload_n 0, 1) := by decide +kernel
theorem dX0_init_45 : decode cX0_init 45 = .ok (.new 21, 3) := by decide +kernel
theorem dX0_init_48 : decode cX0_init 48 = .ok (.dup, 1) := by decide +kernel
theorem dX0_init_49 : decode cX0_init 49 = .ok (.aconst_null, 1) := by decide +kernel
theorem dX0_init_50 : decode cX0_init 50 = .ok (.invokespecial 23, 3) := by decide +kernel
theorem dX0_init_53 : decode cX0_init 53 = .ok (.putfield 26, 3) := by decide +kernel
theorem dX0_init_56 : decode cX0_init 56 = .ok (.aload_n 0, 1) := by decide +kernel
theorem dX0_init_57 : decode cX0_init 57 = .ok (.aload_n 0, 1) := by decide +kernel
theorem dX0_init_58 : decode cX0_init 58 = .ok (.getfield 26, 3) := by decide +kernel
theorem dX0_init_61 : decode cX0_init 61 = .ok (.putfield 30, 3) := by decide +kernel
theorem dX0_init_64 : decode cX0_init 64 = .ok (.aload_n 0, 1) := by decide +kernel
theorem dX0_init_65 : decode cX0_init 65 = .ok (.aload_n 1, 1) := by decide +kernel
theorem dX0_init_66 : decode cX0_init 66 = .ok (.putfield 33, 3) := by decide +kernel
theorem dX0_init_69 : decode cX0_init 69 = .ok (.return_, 1) := by decide +kernel
set_option maxRecDepth 20000 in
theorem ggX0_begin_X1_clear : GoodIn wsX0_begin wsX1_clear := goodIn_r _ [9, 10, 11, 12, 13, 14, 15, 16, 17, 18, 44, 45, 46, 47, 48, 49, 50, 51, 52, 53] (by decide +kernel) (by decide +kernel)
set_option maxRecDepth 20000 in
theorem gX0_begin_X1_clear : GoodIn wsX0_begin (wsV RX0 43 RX1 yX1_clear wsX1_clear) := goodIn_app (goodIn_of _ (by decide +kernel)) ggX0_begin_X1_clear
set_option maxRecDepth 20000 in
theorem ggX0_begin_X1_offer : GoodIn wsX0_begin wsX1_offer := goodIn_r _ [22, 10, 44, 45, 46, 47, 48, 49, 50, 51, 52, 53] (by decide +kernel) (by decide +kernel)
set_option maxRecDepth 20000 in
theorem gX0_begin_X1_offer : GoodIn wsX0_begin (wsV RX0 47 RX1 yX1_offer wsX1_offer) := goodIn_app (goodIn_of _ (by decide +kernel)) ggX0_begin_X1_offer
set_option maxRecDepth 20000 in
theorem ggX0_begin_X0_forget : GoodIn wsX0_begin wsX0_forget := goodIn_r _ [27, 2, 28, 29, 30, 31, 32, 33, 34, 35, 36] (by decide +kernel) (by decide +kernel)
set_option maxRecDepth 20000 in
theorem gX0_begin_X0_forget : GoodIn wsX0_begin (wsV RX0 54 RX0 yX0_forget wsX0_forget) := goodIn_app (goodIn_of _ (by decide +kernel)) ggX0_begin_X0_forget
theorem dX0_begin_0 : decode cX0_begin 0 = .ok (.aload_n 0, 1) := by decide +kernel
theorem dX0_begin_1 : decode cX0_begin 1 = .ok (.aload_n 1, 1) := by decide +kernel
theorem dX0_begin_2 : decode cX0_begin 2 = .ok (.putfield 33, 3) := by decide +kernel
theorem dX0_begin_5 : decode cX0_begin 5 = .ok (.aload_n 0, 1) := by decide +kernel
theorem dX0_begin_6 : decode cX0_begin 6 = .ok (.getfield 26, 3) := by decide +kernel
theorem dX0_begin_9 : decode cX0_begin 9 = .ok (.aload_n 0, 1) := by decide +kernel
theorem dX0_begin_10 : decode cX0_begin 10 = .ok (.getfield 33, 3) := by decide +kernel
theorem dX0_begin_13 : decode cX0_begin 13 = .ok (.getfield 37, 3) := by decide +kernel
theorem dX0_begin_16 : decode cX0_begin 16 = .ok (.invokevirtual 43, 3) := by decide +kernel
theorem dX0_begin_19 : decode cX0_begin 19 = .ok (.aload_n 0, 1) := by decide +kernel
theorem dX0_begin_20 : decode cX0_begin 20 = .ok (.getfield 26, 3) := by decide +kernel
theorem dX0_begin_23 : decode cX0_begin 23 = .ok (.iconst 0, 1) := by decide +kernel
theorem dX0_begin_24 : decode cX0_begin 24 = .ok (.iconst 0, 1) := by decide +kernel
theorem dX0_begin_25 : decode cX0_begin 25 = .ok (.invokevirtual 47, 3) := by decide +kernel
theorem dX0_begin_28 : decode cX0_begin 28 = .ok (.aload_n 0, 1) := by decide +kernel
theorem dX0_begin_29 : decode cX0_begin 29 = .ok (.getfield 26, 3) := by decide +kernel
theorem dX0_begin_32 : decode cX0_begin 32 = .ok (.iconst 0, 1) := by decide +kernel
theorem dX0_begin_33 : decode cX0_begin 33 = .ok (.putfield 51, 3) := by decide +kernel
theorem dX0_begin_36 : decode cX0_begin 36 = .ok (.aload_n 0, 1) := by decide +kernel
theorem dX0_begin_37 : decode cX0_begin 37 = .ok (.invokevirtual 54, 3) := by decide +kernel
theorem dX0_begin_40 : decode cX0_begin 40 = .ok (.return_, 1) := by decide +kernel
theorem dX0_forget_0 : decode cX0_forget 0 = .ok (.aload_n 0, 1) := by decide +kernel
theorem dX0_forget_1 : decode cX0_forget 1 = .ok (.aload_n 0, 1) := by decide +kernel
theorem dX0_forget_2 : decode cX0_forget 2 = .ok (.getfield 26, 3) := by decide +kernel
theorem dX0_forget_5 : decode cX0_forget 5 = .ok (.putfield 30, 3) := by decide +kernel
theorem dX0_forget_8 : decode cX0_forget 8 = .ok (.aload_n 0, 1) := by decide +kernel
theorem dX0_forget_9 : decode cX0_forget 9 = .ok (.iconst 0, 1) := by decide +kernel
theorem dX0_forget_10 : decode cX0_forget 10 = .ok (.putfield 57, 3) := by decide +kernel
theorem dX0_forget_13 : decode cX0_forget 13 = .ok (.return_, 1) := by decide +kernel
theorem dX0_takeBack_0 : decode cX0_takeBack 0 = .ok (.aload_n 0, 1) := by decide +kernel
theorem dX0_takeBack_1 : decode cX0_takeBack 1 = .ok (.getfield 30, 3) := by decide +kernel
theorem dX0_takeBack_4 : decode cX0_takeBack 4 = .ok (.getfield 60, 3) := by decide +kernel
theorem dX0_takeBack_7 : decode cX0_takeBack 7 = .ok (.astore_n 1, 1) := by decide +kernel
theorem dX0_takeBack_8 : decode cX0_takeBack 8 = .ok (.aload_n 1, 1) := by decide +kernel
theorem dX0_takeBack_9 : decode cX0_takeBack 9 = .ok (.ifnonnull 5, 3) := by decide +kernel
theorem dX0_takeBack_12 : decode cX0_takeBack 12 = .ok (.iconst 0, 1) := by decide +kernel
theorem dX0_takeBack_13 : decode cX0_takeBack 13 = .ok (.ireturn, 1) := by decide +kernel
theorem dX0_takeBack_14 : decode cX0_takeBack 14 = .ok (.aload_n 0, 1) := by decide +kernel
theorem dX0_takeBack_15 : decode cX0_takeBack 15 = .ok (.aload_n 1, 1) := by decide +kernel
theorem dX0_takeBack_16 : decode cX0_takeBack 16 = .ok (.putfield 30, 3) := by decide +kernel
theorem dX0_takeBack_19 : decode cX0_takeBack 19 = .ok (.aload_n 0, 1) := by decide +kernel
theorem dX0_takeBack_20 : decode cX0_takeBack 20 = .ok (.dup, 1) := by decide +kernel
theorem dX0_takeBack_21 : decode cX0_takeBack 21 = .ok (.getfield 57, 3) := by decide +kernel
theorem dX0_takeBack_24 : decode cX0_takeBack 24 = .ok (.iconst 1, 1) := by decide +kernel
theorem dX0_takeBack_25 : decode cX0_takeBack 25 = .ok (.isub, 1) := by decide +kernel
theorem dX0_takeBack_26 : decode cX0_takeBack 26 = .ok (.putfield 57, 3) := by decide +kernel
theorem dX0_takeBack_29 : decode cX0_takeBack 29 = .ok (.iconst 1, 1) := by decide +kernel
theorem dX0_takeBack_30 : decode cX0_takeBack 30 = .ok (.ireturn, 1) := by decide +kernel
theorem dX0_hasPrice_0 : decode cX0_hasPrice 0 = .ok (.iload_n 1, 1) := by decide +kernel
theorem dX0_hasPrice_1 : decode cX0_hasPrice 1 = .ok (.ifCond .lt 16, 3) := by decide +kernel
theorem dX0_hasPrice_4 : decode cX0_hasPrice 4 = .ok (.iload_n 1, 1) := by decide +kernel
theorem dX0_hasPrice_5 : decode cX0_hasPrice 5 = .ok (.aload_n 0, 1) := by decide +kernel
theorem dX0_hasPrice_6 : decode cX0_hasPrice 6 = .ok (.getfield 9, 3) := by decide +kernel
theorem dX0_hasPrice_9 : decode cX0_hasPrice 9 = .ok (.arraylength, 1) := by decide +kernel
theorem dX0_hasPrice_10 : decode cX0_hasPrice 10 = .ok (.if_icmp .ge 7, 3) := by decide +kernel
theorem dX0_hasPrice_13 : decode cX0_hasPrice 13 = .ok (.iconst 1, 1) := by decide +kernel
theorem dX0_hasPrice_14 : decode cX0_hasPrice 14 = .ok (.goto 4, 3) := by decide +kernel
theorem dX0_hasPrice_17 : decode cX0_hasPrice 17 = .ok (.iconst 0, 1) := by decide +kernel
theorem dX0_hasPrice_18 : decode cX0_hasPrice 18 = .ok (.ireturn, 1) := by decide +kernel
set_option maxRecDepth 20000 in
theorem ggX0_changePrice_X0_priceOf : GoodIn wsX0_changePrice wsX0_priceOf := goodIn_r _ [6, 1, 7, 8, 9, 5, 10, 11, 12, 13, 14, 15, 16, 17] (by decide +kernel) (by decide +kernel)
set_option maxRecDepth 20000 in
theorem gX0_changePrice_X0_priceOf : GoodIn wsX0_changePrice (wsV RX0 63 RX0 yX0_priceOf wsX0_priceOf) := goodIn_app (goodIn_of _ (by decide +kernel)) ggX0_changePrice_X0_priceOf
set_option maxRecDepth 20000 in
theorem ggX0_changePrice_X0_hasPrice : GoodIn wsX0_changePrice wsX0_hasPrice := goodIn_r _ [10, 1, 11, 12, 13, 14, 15, 16, 17] (by decide +kernel) (by decide +kernel)
set_option maxRecDepth 20000 in
theorem gX0_changePrice_X0_hasPrice : GoodIn wsX0_changePrice (wsV RX0 67 RX0 yX0_hasPrice wsX0_hasPrice) := goodIn_app (goodIn_of _ (by decide +kernel)) ggX0_changePrice_X0_hasPrice
theorem dX0_changePrice_0 : decode cX0_changePrice 0 = .ok (.aload_n 0, 1) := by decide +kernel
theorem dX0_changePrice_1 : decode cX0_changePrice 1 = .ok (.iload_n 1, 1) := by decide +kernel
theorem dX0_changePrice_2 : decode cX0_changePrice 2 = .ok (.invokevirtual 63, 3) := by decide +kernel
theorem dX0_changePrice_5 : decode cX0_changePrice 5 = .ok (.istore_n 3, 1) := by decide +kernel
theorem dX0_changePrice_6 : decode cX0_changePrice 6 = .ok (.aload_n 0, 1) := by decide +kernel
theorem dX0_changePrice_7 : decode cX0_changePrice 7 = .ok (.iload_n 1, 1) := by decide +kernel
theorem dX0_changePrice_8 : decode cX0_changePrice 8 = .ok (.invokevirtual 67, 3) := by decide +kernel
theorem dX0_changePrice_11 : decode cX0_changePrice 11 = .ok (.ifCond .eq 10, 3) := by decide +kernel
theorem dX0_changePrice_14 : decode cX0_changePrice 14 = .ok (.aload_n 0, 1) := by decide +kernel
theorem dX0_changePrice_15 : decode cX0_changePrice 15 = .ok (.getfield 9, 3) := by decide +kernel
theorem dX0_changePrice_18 : decode cX0_changePrice 18 = .ok (.iload_n 1, 1) := by decide +kernel
theorem dX0_changePrice_19 : decode cX0_changePrice 19 = .ok (.iload_n 2, 1) := by decide +kernel
theorem dX0_changePrice_20 : decode cX0_changePrice 20 = .ok (.iastore, 1) := by decide +kernel
theorem dX0_changePrice_21 : decode cX0_changePrice 21 = .ok (.iload_n 3, 1) := by decide +kernel
theorem dX0_changePrice_22 : decode cX0_changePrice 22 = .ok (.ireturn, 1) := by decide +kernel
set_option maxRecDepth 20000 in
theorem ggX0_priceOf_X0_hasPrice : GoodIn wsX0_priceOf wsX0_hasPrice := goodIn_r _ [6, 1, 7, 8, 9, 10, 11, 12, 13] (by decide +kernel) (by decide +kernel)
set_option maxRecDepth 20000 in
theorem gX0_priceOf_X0_hasPrice : GoodIn wsX0_priceOf (wsV RX0 67 RX0 yX0_hasPrice wsX0_hasPrice) := goodIn_app (goodIn_of _ (by decide +kernel)) ggX0_priceOf_X0_hasPrice
theorem dX0_priceOf_0 : decode cX0_priceOf 0 = .ok (.aload_n 0, 1) := by decide +kernel
theorem dX0_priceOf_1 : decode cX0_priceOf 1 = .ok (.iload_n 1, 1) := by decide +kernel
theorem dX0_priceOf_2 : decode cX0_priceOf 2 = .ok (.invokevirtual 67, 3) := by decide +kernel
theorem dX0_priceOf_5 : decode cX0_priceOf 5 = .ok (.ifCond .eq 12, 3) := by decide +kernel
theorem dX0_priceOf_8 : decode cX0_priceOf 8 = .ok (.aload_n 0, 1) := by decide +kernel
theorem dX0_priceOf_9 : decode cX0_priceOf 9 = .ok (.getfield 9, 3) := by decide +kernel
theorem dX0_priceOf_12 : decode cX0_priceOf 12 = .ok (.iload_n 1, 1) := by decide +kernel
theorem dX0_priceOf_13 : decode cX0_priceOf 13 = .ok (.iaload, 1) := by decide +kernel
theorem dX0_priceOf_14 : decode cX0_priceOf 14 = .ok (.goto 4, 3) := by decide +kernel
theorem dX0_priceOf_17 : decode cX0_priceOf 17 = .ok (.iconst (-1), 1) := by decide +kernel
theorem dX0_priceOf_18 : decode cX0_priceOf 18 = .ok (.ireturn, 1) := by decide +kernel
theorem dX0_latestTime_0 : decode cX0_latestTime 0 = .ok (.aload_n 0, 1) := by decide +kernel
theorem dX0_latestTime_1 : decode cX0_latestTime 1 = .ok (.getfield 57, 3) := by decide +kernel
theorem dX0_latestTime_4 : decode cX0_latestTime 4 = .ok (.ifCond .ne 7, 3) := by decide +kernel
theorem dX0_latestTime_7 : decode cX0_latestTime 7 = .ok (.iconst 0, 1) := by decide +kernel
theorem dX0_latestTime_8 : decode cX0_latestTime 8 = .ok (.goto 10, 3) := by decide +kernel
theorem dX0_latestTime_11 : decode cX0_latestTime 11 = .ok (.aload_n 0, 1) := by decide +kernel
theorem dX0_latestTime_12 : decode cX0_latestTime 12 = .ok (.getfield 30, 3) := by decide +kernel
theorem dX0_latestTime_15 : decode cX0_latestTime 15 = .ok (.getfield 71, 3) := by decide +kernel
theorem dX0_latestTime_18 : decode cX0_latestTime 18 = .ok (.ireturn, 1) := by decide +kernel
theorem dX0_placeEvent_0 : decode cX0_placeEvent 0 = .ok (.aload_n 0, 1) := by decide +kernel
theorem dX0_placeEvent_1 : decode cX0_placeEvent 1 = .ok (.getfield 30, 3) := by decide +kernel
theorem dX0_placeEvent_4 : decode cX0_placeEvent 4 = .ok (.getfield 74, 3) := by decide +kernel
theorem dX0_placeEvent_7 : decode cX0_placeEvent 7 = .ok (.ireturn, 1) := by decide +kernel
theorem dX0_placeBits_0 : decode cX0_placeBits 0 = .ok (.aload_n 0, 1) := by decide +kernel
theorem dX0_placeBits_1 : decode cX0_placeBits 1 = .ok (.getfield 30, 3) := by decide +kernel
theorem dX0_placeBits_4 : decode cX0_placeBits 4 = .ok (.getfield 77, 3) := by decide +kernel
theorem dX0_placeBits_7 : decode cX0_placeBits 7 = .ok (.ireturn, 1) := by decide +kernel
theorem dX0_placeCost_0 : decode cX0_placeCost 0 = .ok (.aload_n 0, 1) := by decide +kernel
theorem dX0_placeCost_1 : decode cX0_placeCost 1 = .ok (.getfield 30, 3) := by decide +kernel
theorem dX0_placeCost_4 : decode cX0_placeCost 4 = .ok (.getfield 51, 3) := by decide +kernel
theorem dX0_placeCost_7 : decode cX0_placeCost 7 = .ok (.ireturn, 1) := by decide +kernel
theorem dX0_anchors_0 : decode cX0_anchors 0 = .ok (.aload_n 0, 1) := by decide +kernel
theorem dX0_anchors_1 : decode cX0_anchors 1 = .ok (.getfield 30, 3) := by decide +kernel
theorem dX0_anchors_4 : decode cX0_anchors 4 = .ok (.getfield 80, 3) := by decide +kernel
theorem dX0_anchors_7 : decode cX0_anchors 7 = .ok (.ireturn, 1) := by decide +kernel
set_option maxRecDepth 20000 in
theorem ggX0_costOf_X3_fact : GoodIn wsX0_costOf wsX3_fact := goodIn_r _ [8, 9, 24, 25, 26, 27, 28, 29, 30] (by decide +kernel) (by decide +kernel)
set_option maxRecDepth 20000 in
theorem gX0_costOf_X3_fact : GoodIn wsX0_costOf (wsV RX0 83 RX3 yX3_fact wsX3_fact) := goodIn_app (goodIn_of _ (by decide +kernel)) ggX0_costOf_X3_fact
set_option maxRecDepth 20000 in
theorem ggX0_costOf_X1_costAt : GoodIn wsX0_costOf wsX1_costAt := goodIn_r _ [14, 15, 16, 31, 32, 33, 34, 35, 36, 37, 38, 39, 40] (by decide +kernel) (by decide +kernel)
set_option maxRecDepth 20000 in
theorem gX0_costOf_X1_costAt : GoodIn wsX0_costOf (wsV RX0 87 RX1 yX1_costAt wsX1_costAt) := goodIn_app (goodIn_of _ (by decide +kernel)) ggX0_costOf_X1_costAt
theorem dX0_costOf_0 : decode cX0_costOf 0 = .ok (.aload_n 0, 1) := by decide +kernel
theorem dX0_costOf_1 : decode cX0_costOf 1 = .ok (.getfield 30, 3) := by decide +kernel
theorem dX0_costOf_4 : decode cX0_costOf 4 = .ok (.aload_n 0, 1) := by decide +kernel
theorem dX0_costOf_5 : decode cX0_costOf 5 = .ok (.getfield 33, 3) := by decide +kernel
theorem dX0_costOf_8 : decode cX0_costOf 8 = .ok (.iload_n 1, 1) := by decide +kernel
theorem dX0_costOf_9 : decode cX0_costOf 9 = .ok (.bipush 13, 2) := by decide +kernel
theorem dX0_costOf_11 : decode cX0_costOf 11 = .ok (.invokevirtual 83, 3) := by decide +kernel
theorem dX0_costOf_14 : decode cX0_costOf 14 = .ok (.iload_n 2, 1) := by decide +kernel
theorem dX0_costOf_15 : decode cX0_costOf 15 = .ok (.iadd, 1) := by decide +kernel
theorem dX0_costOf_16 : decode cX0_costOf 16 = .ok (.invokevirtual 87, 3) := by decide +kernel
theorem dX0_costOf_19 : decode cX0_costOf 19 = .ok (.istore_n 3, 1) := by decide +kernel
theorem dX0_costOf_20 : decode cX0_costOf 20 = .ok (.iload_n 3, 1) := by decide +kernel
theorem dX0_costOf_21 : decode cX0_costOf 21 = .ok (.ldc 90, 2) := by decide +kernel
theorem dX0_costOf_23 : decode cX0_costOf 23 = .ok (.if_icmp .lt 7, 3) := by decide +kernel
theorem dX0_costOf_26 : decode cX0_costOf 26 = .ok (.iconst (-1), 1) := by decide +kernel
theorem dX0_costOf_27 : decode cX0_costOf 27 = .ok (.goto 4, 3) := by decide +kernel
theorem dX0_costOf_30 : decode cX0_costOf 30 = .ok (.iload_n 3, 1) := by decide +kernel
theorem dX0_costOf_31 : decode cX0_costOf 31 = .ok (.ireturn, 1) := by decide +kernel
set_option maxRecDepth 20000 in
theorem ggX0_leadOverOtherMeasures_X3_fact : GoodIn wsX0_leadOverOtherMeasures wsX3_fact := goodIn_r _ [15, 16, 51, 52, 53, 54, 55, 56, 57] (by decide +kernel) (by decide +kernel)
set_option maxRecDepth 20000 in
theorem gX0_leadOverOtherMeasures_X3_fact : GoodIn wsX0_leadOverOtherMeasures (wsV RX0 83 RX3 yX3_fact wsX3_fact) := goodIn_app (goodIn_of _ (by decide +kernel)) ggX0_leadOverOtherMeasures_X3_fact
set_option maxRecDepth 20000 in
theorem ggX0_leadOverOtherMeasures_X0_leastOf : GoodIn wsX0_leadOverOtherMeasures wsX0_leastOf := goodIn_r _ [21, 1, 4, 2, 6, 7, 8, 9, 11, 12, 13, 14, 15, 16, 22, 23, 24, 25, 26, 27, 28, 29, 30, 31, 32, 33, 34, 35, 36, 37, 38, 39, 40, 51, 52, 53, 54, 55, 56, 57, 41, 42, 43, 44, 45, 46, 47, 48, 49, 50] (by decide +kernel) (by decide +kernel)
set_option maxRecDepth 20000 in
theorem gX0_leadOverOtherMeasures_X0_leastOf : GoodIn wsX0_leadOverOtherMeasures (wsV RX0 94 RX0 yX0_leastOf wsX0_leastOf) := goodIn_app (goodIn_of _ (by decide +kernel)) ggX0_leadOverOtherMeasures_X0_leastOf
theorem dX0_leadOverOtherMeasures_0 : decode cX0_leadOverOtherMeasures 0 = .ok (.aload_n 0, 1) := by decide +kernel
theorem dX0_leadOverOtherMeasures_1 : decode cX0_leadOverOtherMeasures 1 = .ok (.getfield 33, 3) := by decide +kernel
theorem dX0_leadOverOtherMeasures_4 : decode cX0_leadOverOtherMeasures 4 = .ok (.aload_n 0, 1) := by decide +kernel
theorem dX0_leadOverOtherMeasures_5 : decode cX0_leadOverOtherMeasures 5 = .ok (.getfield 30, 3) := by decide +kernel
theorem dX0_leadOverOtherMeasures_8 : decode cX0_leadOverOtherMeasures 8 = .ok (.getfield 74, 3) := by decide +kernel
theorem dX0_leadOverOtherMeasures_11 : decode cX0_leadOverOtherMeasures 11 = .ok (.iconst 4, 1) := by decide +kernel
theorem dX0_leadOverOtherMeasures_12 : decode cX0_leadOverOtherMeasures 12 = .ok (.invokevirtual 83, 3) := by decide +kernel
theorem dX0_leadOverOtherMeasures_15 : decode cX0_leadOverOtherMeasures 15 = .ok (.istore_n 1, 1) := by decide +kernel
theorem dX0_leadOverOtherMeasures_16 : decode cX0_leadOverOtherMeasures 16 = .ok (.ldc 90, 2) := by decide +kernel
theorem dX0_leadOverOtherMeasures_18 : decode cX0_leadOverOtherMeasures 18 = .ok (.istore_n 2, 1) := by decide +kernel
theorem dX0_leadOverOtherMeasures_19 : decode cX0_leadOverOtherMeasures 19 = .ok (.iconst 0, 1) := by decide +kernel
theorem dX0_leadOverOtherMeasures_20 : decode cX0_leadOverOtherMeasures 20 = .ok (.istore_n 3, 1) := by decide +kernel
theorem dX0_leadOverOtherMeasures_21 : decode cX0_leadOverOtherMeasures 21 = .ok (.iload_n 3, 1) := by decide +kernel
theorem dX0_leadOverOtherMeasures_22 : decode cX0_leadOverOtherMeasures 22 = .ok (.aload_n 0, 1) := by decide +kernel
theorem dX0_leadOverOtherMeasures_23 : decode cX0_leadOverOtherMeasures 23 = .ok (.getfield 33, 3) := by decide +kernel
theorem dX0_leadOverOtherMeasures_26 : decode cX0_leadOverOtherMeasures 26 = .ok (.getfield 91, 3) := by decide +kernel
theorem dX0_leadOverOtherMeasures_29 : decode cX0_leadOverOtherMeasures 29 = .ok (.if_icmp .ge 32, 3) := by decide +kernel
theorem dX0_leadOverOtherMeasures_32 : decode cX0_leadOverOtherMeasures 32 = .ok (.aload_n 0, 1) := by decide +kernel
theorem dX0_leadOverOtherMeasures_33 : decode cX0_leadOverOtherMeasures 33 = .ok (.getfield 33, 3) := by decide +kernel
theorem dX0_leadOverOtherMeasures_36 : decode cX0_leadOverOtherMeasures 36 = .ok (.iload_n 3, 1) := by decide +kernel
theorem dX0_leadOverOtherMeasures_37 : decode cX0_leadOverOtherMeasures 37 = .ok (.iconst 4, 1) := by decide +kernel
theorem dX0_leadOverOtherMeasures_38 : decode cX0_leadOverOtherMeasures 38 = .ok (.invokevirtual 83, 3) := by decide +kernel
theorem dX0_leadOverOtherMeasures_41 : decode cX0_leadOverOtherMeasures 41 = .ok (.iload_n 1, 1) := by decide +kernel
theorem dX0_leadOverOtherMeasures_42 : decode cX0_leadOverOtherMeasures 42 = .ok (.if_icmp .eq 13, 3) := by decide +kernel
theorem dX0_leadOverOtherMeasures_45 : decode cX0_leadOverOtherMeasures 45 = .ok (.iload_n 2, 1) := by decide +kernel
theorem dX0_leadOverOtherMeasures_46 : decode cX0_leadOverOtherMeasures 46 = .ok (.aload_n 0, 1) := by decide +kernel
theorem dX0_leadOverOtherMeasures_47 : decode cX0_leadOverOtherMeasures 47 = .ok (.iload_n 3, 1) := by decide +kernel
theorem dX0_leadOverOtherMeasures_48 : decode cX0_leadOverOtherMeasures 48 = .ok (.invokevirtual 94, 3) := by decide +kernel
theorem dX0_leadOverOtherMeasures_51 : decode cX0_leadOverOtherMeasures 51 = .ok (.invokestatic 97, 3) := by decide +kernel
theorem dX0_leadOverOtherMeasures_54 : decode cX0_leadOverOtherMeasures 54 = .ok (.istore_n 2, 1) := by decide +kernel
theorem dX0_leadOverOtherMeasures_55 : decode cX0_leadOverOtherMeasures 55 = .ok (.iinc 3 1, 3) := by decide +kernel
theorem dX0_leadOverOtherMeasures_58 : decode cX0_leadOverOtherMeasures 58 = .ok (.goto (-37), 3) := by decide +kernel
theorem dX0_leadOverOtherMeasures_61 : decode cX0_leadOverOtherMeasures 61 = .ok (.iload_n 2, 1) := by decide +kernel
theorem dX0_leadOverOtherMeasures_62 : decode cX0_leadOverOtherMeasures 62 = .ok (.ldc 90, 2) := by decide +kernel
theorem dX0_leadOverOtherMeasures_64 : decode cX0_leadOverOtherMeasures 64 = .ok (.if_icmp .lt 7, 3) := by decide +kernel
theorem dX0_leadOverOtherMeasures_67 : decode cX0_leadOverOtherMeasures 67 = .ok (.iconst (-1), 1) := by decide +kernel
theorem dX0_leadOverOtherMeasures_68 : decode cX0_leadOverOtherMeasures 68 = .ok (.goto 12, 3) := by decide +kernel
theorem dX0_leadOverOtherMeasures_71 : decode cX0_leadOverOtherMeasures 71 = .ok (.iload_n 2, 1) := by decide +kernel
theorem dX0_leadOverOtherMeasures_72 : decode cX0_leadOverOtherMeasures 72 = .ok (.aload_n 0, 1) := by decide +kernel
theorem dX0_leadOverOtherMeasures_73 : decode cX0_leadOverOtherMeasures 73 = .ok (.getfield 30, 3) := by decide +kernel
theorem dX0_leadOverOtherMeasures_76 : decode cX0_leadOverOtherMeasures 76 = .ok (.getfield 51, 3) := by decide +kernel
theorem dX0_leadOverOtherMeasures_79 : decode cX0_leadOverOtherMeasures 79 = .ok (.isub, 1) := by decide +kernel
theorem dX0_leadOverOtherMeasures_80 : decode cX0_leadOverOtherMeasures 80 = .ok (.ireturn, 1) := by decide +kernel
set_option maxRecDepth 20000 in
theorem ggX0_leastOf_X3_fact : GoodIn wsX0_leastOf wsX3_fact := goodIn_r _ [12, 13, 33, 34, 35, 36, 37, 38, 39] (by decide +kernel) (by decide +kernel)
set_option maxRecDepth 20000 in
theorem gX0_leastOf_X3_fact : GoodIn wsX0_leastOf (wsV RX0 83 RX3 yX3_fact wsX3_fact) := goodIn_app (goodIn_of _ (by decide +kernel)) ggX0_leastOf_X3_fact
set_option maxRecDepth 20000 in
theorem ggX0_leastOf_X3_allBits : GoodIn wsX0_leastOf wsX3_allBits := goodIn_r _ [17, 18, 9, 10, 11, 12, 13, 33, 34, 35, 36, 37, 38, 39] (by decide +kernel) (by decide +kernel)
set_option maxRecDepth 20000 in
theorem gX0_leastOf_X3_allBits : GoodIn wsX0_leastOf (wsV RX0 102 RX3 yX3_allBits wsX3_allBits) := goodIn_app (goodIn_of _ (by decide +kernel)) ggX0_leastOf_X3_allBits
set_option maxRecDepth 20000 in
theorem ggX0_leastOf_X1_costAt : GoodIn wsX0_leastOf wsX1_costAt := goodIn_r _ [23, 24, 25, 40, 41, 42, 43, 44, 45, 46, 47, 48, 49] (by decide +kernel) (by decide +kernel)
set_option maxRecDepth 20000 in
theorem gX0_leastOf_X1_costAt : GoodIn wsX0_leastOf (wsV RX0 87 RX1 yX1_costAt wsX1_costAt) := goodIn_app (goodIn_of _ (by decide +kernel)) ggX0_leastOf_X1_costAt
theorem dX0_leastOf_0 : decode cX0_leastOf 0 = .ok (.aload_n 0, 1) := by decide +kernel
theorem dX0_leastOf_1 : decode cX0_leastOf 1 = .ok (.getfield 33, 3) := by decide +kernel
theorem dX0_leastOf_4 : decode cX0_leastOf 4 = .ok (.iload_n 1, 1) := by decide +kernel
theorem dX0_leastOf_5 : decode cX0_leastOf 5 = .ok (.bipush 13, 2) := by decide +kernel
theorem dX0_leastOf_7 : decode cX0_leastOf 7 = .ok (.invokevirtual 83, 3) := by decide +kernel
theorem dX0_leastOf_10 : decode cX0_leastOf 10 = .ok (.istore_n 2, 1) := by decide +kernel
theorem dX0_leastOf_11 : decode cX0_leastOf 11 = .ok (.iload_n 2, 1) := by decide +kernel
theorem dX0_leastOf_12 : decode cX0_leastOf 12 = .ok (.aload_n 0, 1) := by decide +kernel
theorem dX0_leastOf_13 : decode cX0_leastOf 13 = .ok (.getfield 33, 3) := by decide +kernel
theorem dX0_leastOf_16 : decode cX0_leastOf 16 = .ok (.iload_n 1, 1) := by decide +kernel
theorem dX0_leastOf_17 : decode cX0_leastOf 17 = .ok (.invokevirtual 102, 3) := by decide +kernel
theorem dX0_leastOf_20 : decode cX0_leastOf 20 = .ok (.iadd, 1) := by decide +kernel
theorem dX0_leastOf_21 : decode cX0_leastOf 21 = .ok (.istore_n 3, 1) := by decide +kernel
theorem dX0_leastOf_22 : decode cX0_leastOf 22 = .ok (.ldc 90, 2) := by decide +kernel
theorem dX0_leastOf_24 : decode cX0_leastOf 24 = .ok (.istore 4, 2) := by decide +kernel
theorem dX0_leastOf_26 : decode cX0_leastOf 26 = .ok (.iload_n 2, 1) := by decide +kernel
theorem dX0_leastOf_27 : decode cX0_leastOf 27 = .ok (.istore 5, 2) := by decide +kernel
theorem dX0_leastOf_29 : decode cX0_leastOf 29 = .ok (.iload 5, 2) := by decide +kernel
theorem dX0_leastOf_31 : decode cX0_leastOf 31 = .ok (.iload_n 3, 1) := by decide +kernel
theorem dX0_leastOf_32 : decode cX0_leastOf 32 = .ok (.if_icmp .gt 25, 3) := by decide +kernel
theorem dX0_leastOf_35 : decode cX0_leastOf 35 = .ok (.iload 4, 2) := by decide +kernel
theorem dX0_leastOf_37 : decode cX0_leastOf 37 = .ok (.aload_n 0, 1) := by decide +kernel
theorem dX0_leastOf_38 : decode cX0_leastOf 38 = .ok (.getfield 30, 3) := by decide +kernel
theorem dX0_leastOf_41 : decode cX0_leastOf 41 = .ok (.iload 5, 2) := by decide +kernel
theorem dX0_leastOf_43 : decode cX0_leastOf 43 = .ok (.invokevirtual 87, 3) := by decide +kernel
theorem dX0_leastOf_46 : decode cX0_leastOf 46 = .ok (.invokestatic 97, 3) := by decide +kernel
theorem dX0_leastOf_49 : decode cX0_leastOf 49 = .ok (.istore 4, 2) := by decide +kernel
theorem dX0_leastOf_51 : decode cX0_leastOf 51 = .ok (.iinc 5 1, 3) := by decide +kernel
theorem dX0_leastOf_54 : decode cX0_leastOf 54 = .ok (.goto (-25), 3) := by decide +kernel
theorem dX0_leastOf_57 : decode cX0_leastOf 57 = .ok (.iload 4, 2) := by decide +kernel
theorem dX0_leastOf_59 : decode cX0_leastOf 59 = .ok (.ireturn, 1) := by decide +kernel
set_option maxRecDepth 20000 in
theorem ggX0_hear_X1_init : GoodIn wsX0_hear wsX1_init := goodIn_r _ [13, 14, 15, 16, 17, 18, 19, 131, 132, 133, 134, 135, 136, 137, 138, 139, 140] (by decide +kernel) (by decide +kernel)
set_option maxRecDepth 20000 in
theorem gX0_hear_X1_init : GoodIn wsX0_hear (wsX1_init) := ggX0_hear_X1_init
set_option maxRecDepth 20000 in
theorem ggX0_hear_X1_clear : GoodIn wsX0_hear wsX1_clear := goodIn_r _ [23, 18, 17, 24, 25, 26, 27, 28, 29, 30, 131, 132, 133, 134, 135, 136, 137, 138, 139, 140] (by decide +kernel) (by decide +kernel)
set_option maxRecDepth 20000 in
theorem gX0_hear_X1_clear : GoodIn wsX0_hear (wsV RX0 43 RX1 yX1_clear wsX1_clear) := goodIn_app (goodIn_of _ (by decide +kernel)) ggX0_hear_X1_clear
set_option maxRecDepth 20000 in
theorem ggX0_hear_X0_makeSilentMoves : GoodIn wsX0_hear wsX0_makeSilentMoves := goodIn_r _ [35, 1, 36, 6, 9, 37, 38, 39, 40, 41, 42, 43, 44, 45, 34, 46, 47, 48, 49, 50, 51, 52, 53, 54, 55, 56, 57, 58, 59, 60, 61, 62, 63, 64, 5, 65, 18, 24, 66, 67, 68, 69, 70, 71, 72, 73, 74, 75, 76, 77, 78, 79, 80, 81, 82, 83, 84, 85, 86, 87, 88, 89, 90, 91, 92, 93, 94, 95, 124, 125, 126, 127, 128, 129, 130, 131, 132, 133, 134, 135, 136, 137, 138, 139, 140, 141, 142, 143, 144, 145, 146, 147] (by decide +kernel) (by decide +kernel)
set_option maxRecDepth 20000 in
theorem gX0_hear_X0_makeSilentMoves : GoodIn wsX0_hear (wsV RX0 108 RX0 yX0_makeSilentMoves wsX0_makeSilentMoves) := goodIn_app (goodIn_of _ (by decide +kernel)) ggX0_hear_X0_makeSilentMoves
set_option maxRecDepth 20000 in
theorem ggX0_hear_X0_takeNote : GoodIn wsX0_hear wsX0_takeNote := goodIn_r _ [99, 6, 37, 1, 52, 53, 54, 34, 55, 42, 56, 57, 58, 59, 60, 61, 71, 72, 73, 74, 75, 100, 101, 102, 103, 104, 105, 40, 106, 62, 63, 64, 5, 65, 18, 24, 43, 44, 45, 46, 47, 48, 49, 50, 51, 107, 108, 109, 110, 124, 125, 126, 127, 128, 129, 130, 141, 142, 143, 144, 145, 146, 147, 131, 132, 133, 134, 135, 136, 137, 138, 139, 140] (by decide +kernel) (by decide +kernel)
set_option maxRecDepth 20000 in
theorem gX0_hear_X0_takeNote : GoodIn wsX0_hear (wsV RX0 111 RX0 yX0_takeNote wsX0_takeNote) := goodIn_app (goodIn_of _ (by decide +kernel)) ggX0_hear_X0_takeNote
set_option maxRecDepth 20000 in
theorem ggX0_hear_X0_findPlace : GoodIn wsX0_hear wsX0_findPlace := goodIn_r _ [114, 6, 36, 115, 116, 56, 57, 58, 59, 60, 61, 71, 72, 73, 74, 75, 62, 63, 64, 5, 65, 18, 24, 124, 125, 126, 127, 128, 129, 130, 131, 132, 133, 134, 135, 136, 137, 138, 139, 140, 141, 142, 143, 144, 145, 146, 147] (by decide +kernel) (by decide +kernel)
set_option maxRecDepth 20000 in
theorem gX0_hear_X0_findPlace : GoodIn wsX0_hear (wsV RX0 115 RX0 yX0_findPlace wsX0_findPlace) := goodIn_app (goodIn_of _ (by decide +kernel)) ggX0_hear_X0_findPlace
set_option maxRecDepth 20000 in
theorem ggX0_hear_X0_dropAnchor : GoodIn wsX0_hear wsX0_dropAnchor := goodIn_r _ [120, 1, 121, 115, 122, 123, 124, 125, 126, 127, 128, 129, 130, 131, 132, 133, 134, 135, 136, 137, 138, 139, 140] (by decide +kernel) (by decide +kernel)
set_option maxRecDepth 20000 in
theorem gX0_hear_X0_dropAnchor : GoodIn wsX0_hear (wsV RX0 119 RX0 yX0_dropAnchor wsX0_dropAnchor) := goodIn_app (goodIn_of _ (by decide +kernel)) ggX0_hear_X0_dropAnchor
theorem dX0_hear_0 : decode cX0_hear 0 = .ok (.aload_n 0, 1) := by decide +kernel
theorem dX0_hear_1 : decode cX0_hear 1 = .ok (.getfield 30, 3) := by decide +kernel
theorem dX0_hear_4 : decode cX0_hear 4 = .ok (.getfield 105, 3) := by decide +kernel
theorem dX0_hear_7 : decode cX0_hear 7 = .ok (.astore_n 3, 1) := by decide +kernel
theorem dX0_hear_8 : decode cX0_hear 8 = .ok (.aload_n 3, 1) := by decide +kernel
theorem dX0_hear_9 : decode cX0_hear 9 = .ok (.ifnonnull 23, 3) := by decide +kernel
theorem dX0_hear_12 : decode cX0_hear 12 = .ok (.new 21, 3) := by decide +kernel
theorem dX0_hear_15 : decode cX0_hear 15 = .ok (.dup, 1) := by decide +kernel
theorem dX0_hear_16 : decode cX0_hear 16 = .ok (.aload_n 0, 1) := by decide +kernel
theorem dX0_hear_17 : decode cX0_hear 17 = .ok (.getfield 30, 3) := by decide +kernel
theorem dX0_hear_20 : decode cX0_hear 20 = .ok (.invokespecial 23, 3) := by decide +kernel
theorem dX0_hear_23 : decode cX0_hear 23 = .ok (.astore_n 3, 1) := by decide +kernel
theorem dX0_hear_24 : decode cX0_hear 24 = .ok (.aload_n 0, 1) := by decide +kernel
theorem dX0_hear_25 : decode cX0_hear 25 = .ok (.getfield 30, 3) := by decide +kernel
theorem dX0_hear_28 : decode cX0_hear 28 = .ok (.aload_n 3, 1) := by decide +kernel
theorem dX0_hear_29 : decode cX0_hear 29 = .ok (.putfield 105, 3) := by decide +kernel
theorem dX0_hear_32 : decode cX0_hear 32 = .ok (.aload_n 3, 1) := by decide +kernel
theorem dX0_hear_33 : decode cX0_hear 33 = .ok (.aload_n 0, 1) := by decide +kernel
theorem dX0_hear_34 : decode cX0_hear 34 = .ok (.getfield 33, 3) := by decide +kernel
theorem dX0_hear_37 : decode cX0_hear 37 = .ok (.getfield 37, 3) := by decide +kernel
theorem dX0_hear_40 : decode cX0_hear 40 = .ok (.invokevirtual 43, 3) := by decide +kernel
theorem dX0_hear_43 : decode cX0_hear 43 = .ok (.aload_n 3, 1) := by decide +kernel
theorem dX0_hear_44 : decode cX0_hear 44 = .ok (.iload_n 2, 1) := by decide +kernel
theorem dX0_hear_45 : decode cX0_hear 45 = .ok (.putfield 71, 3) := by decide +kernel
theorem dX0_hear_48 : decode cX0_hear 48 = .ok (.aload_n 0, 1) := by decide +kernel
theorem dX0_hear_49 : decode cX0_hear 49 = .ok (.invokevirtual 108, 3) := by decide +kernel
theorem dX0_hear_52 : decode cX0_hear 52 = .ok (.iconst 0, 1) := by decide +kernel
theorem dX0_hear_53 : decode cX0_hear 53 = .ok (.istore 4, 2) := by decide +kernel
theorem dX0_hear_55 : decode cX0_hear 55 = .ok (.iload 4, 2) := by decide +kernel
theorem dX0_hear_57 : decode cX0_hear 57 = .ok (.aload_n 0, 1) := by decide +kernel
theorem dX0_hear_58 : decode cX0_hear 58 = .ok (.getfield 33, 3) := by decide +kernel
theorem dX0_hear_61 : decode cX0_hear 61 = .ok (.getfield 91, 3) := by decide +kernel
theorem dX0_hear_64 : decode cX0_hear 64 = .ok (.if_icmp .ge 24, 3) := by decide +kernel
theorem dX0_hear_67 : decode cX0_hear 67 = .ok (.aload_n 0, 1) := by decide +kernel
theorem dX0_hear_68 : decode cX0_hear 68 = .ok (.iload 4, 2) := by decide +kernel
theorem dX0_hear_70 : decode cX0_hear 70 = .ok (.iload_n 1, 1) := by decide +kernel
theorem dX0_hear_71 : decode cX0_hear 71 = .ok (.aload_n 3, 1) := by decide +kernel
theorem dX0_hear_72 : decode cX0_hear 72 = .ok (.invokevirtual 111, 3) := by decide +kernel
theorem dX0_hear_75 : decode cX0_hear 75 = .ok (.aload_n 0, 1) := by decide +kernel
theorem dX0_hear_76 : decode cX0_hear 76 = .ok (.iload 4, 2) := by decide +kernel
theorem dX0_hear_78 : decode cX0_hear 78 = .ok (.aload_n 3, 1) := by decide +kernel
theorem dX0_hear_79 : decode cX0_hear 79 = .ok (.invokevirtual 115, 3) := by decide +kernel
theorem dX0_hear_82 : decode cX0_hear 82 = .ok (.iinc 4 1, 3) := by decide +kernel
theorem dX0_hear_85 : decode cX0_hear 85 = .ok (.goto (-30), 3) := by decide +kernel
theorem dX0_hear_88 : decode cX0_hear 88 = .ok (.aload_n 0, 1) := by decide +kernel
theorem dX0_hear_89 : decode cX0_hear 89 = .ok (.aload_n 3, 1) := by decide +kernel
theorem dX0_hear_90 : decode cX0_hear 90 = .ok (.invokevirtual 119, 3) := by decide +kernel
theorem dX0_hear_93 : decode cX0_hear 93 = .ok (.aload_n 0, 1) := by decide +kernel
theorem dX0_hear_94 : decode cX0_hear 94 = .ok (.aload_n 3, 1) := by decide +kernel
theorem dX0_hear_95 : decode cX0_hear 95 = .ok (.putfield 30, 3) := by decide +kernel
theorem dX0_hear_98 : decode cX0_hear 98 = .ok (.aload_n 0, 1) := by decide +kernel
theorem dX0_hear_99 : decode cX0_hear 99 = .ok (.dup, 1) := by decide +kernel
theorem dX0_hear_100 : decode cX0_hear 100 = .ok (.getfield 57, 3) := by decide +kernel
theorem dX0_hear_103 : decode cX0_hear 103 = .ok (.iconst 1, 1) := by decide +kernel
theorem dX0_hear_104 : decode cX0_hear 104 = .ok (.iadd, 1) := by decide +kernel
theorem dX0_hear_105 : decode cX0_hear 105 = .ok (.putfield 57, 3) := by decide +kernel
theorem dX0_hear_108 : decode cX0_hear 108 = .ok (.return_, 1) := by decide +kernel
theorem dX0_hasRow_0 : decode cX0_hasRow 0 = .ok (.iload_n 1, 1) := by decide +kernel
theorem dX0_hasRow_1 : decode cX0_hasRow 1 = .ok (.ifCond .lt 25, 3) := by decide +kernel
theorem dX0_hasRow_4 : decode cX0_hasRow 4 = .ok (.iload_n 1, 1) := by decide +kernel
theorem dX0_hasRow_5 : decode cX0_hasRow 5 = .ok (.aload_n 0, 1) := by decide +kernel
theorem dX0_hasRow_6 : decode cX0_hasRow 6 = .ok (.getfield 15, 3) := by decide +kernel
theorem dX0_hasRow_9 : decode cX0_hasRow 9 = .ok (.arraylength, 1) := by decide +kernel
theorem dX0_hasRow_10 : decode cX0_hasRow 10 = .ok (.if_icmp .ge 16, 3) := by decide +kernel
theorem dX0_hasRow_13 : decode cX0_hasRow 13 = .ok (.iload_n 1, 1) := by decide +kernel
theorem dX0_hasRow_14 : decode cX0_hasRow 14 = .ok (.aload_n 0, 1) := by decide +kernel
theorem dX0_hasRow_15 : decode cX0_hasRow 15 = .ok (.getfield 18, 3) := by decide +kernel
theorem dX0_hasRow_18 : decode cX0_hasRow 18 = .ok (.arraylength, 1) := by decide +kernel
theorem dX0_hasRow_19 : decode cX0_hasRow 19 = .ok (.if_icmp .ge 7, 3) := by decide +kernel
theorem dX0_hasRow_22 : decode cX0_hasRow 22 = .ok (.iconst 1, 1) := by decide +kernel
theorem dX0_hasRow_23 : decode cX0_hasRow 23 = .ok (.goto 4, 3) := by decide +kernel
theorem dX0_hasRow_26 : decode cX0_hasRow 26 = .ok (.iconst 0, 1) := by decide +kernel
theorem dX0_hasRow_27 : decode cX0_hasRow 27 = .ok (.ireturn, 1) := by decide +kernel
set_option maxRecDepth 20000 in
theorem ggX0_makeSilentMoves_X0_priceOf : GoodIn wsX0_makeSilentMoves wsX0_priceOf := goodIn_r _ [15, 16, 17, 18, 19, 14, 20, 68, 69, 70, 71, 72, 73, 74] (by decide +kernel) (by decide +kernel)
set_option maxRecDepth 20000 in
theorem gX0_makeSilentMoves_X0_priceOf : GoodIn wsX0_makeSilentMoves (wsV RX0 63 RX0 yX0_priceOf wsX0_priceOf) := goodIn_app (goodIn_of _ (by decide +kernel)) ggX0_makeSilentMoves_X0_priceOf
set_option maxRecDepth 20000 in
theorem ggX0_makeSilentMoves_X0_hasRow : GoodIn wsX0_makeSilentMoves wsX0_hasRow := goodIn_r _ [24, 5, 10, 68, 69, 70, 71, 72, 73, 74] (by decide +kernel) (by decide +kernel)
set_option maxRecDepth 20000 in
theorem gX0_makeSilentMoves_X0_hasRow : GoodIn wsX0_makeSilentMoves (wsV RX0 122 RX0 yX0_hasRow wsX0_hasRow) := goodIn_app (goodIn_of _ (by decide +kernel)) ggX0_makeSilentMoves_X0_hasRow
set_option maxRecDepth 20000 in
theorem ggX0_makeSilentMoves_X3_fact : GoodIn wsX0_makeSilentMoves wsX3_fact := goodIn_r _ [29, 30, 85, 86, 87, 88, 89, 90, 91] (by decide +kernel) (by decide +kernel)
set_option maxRecDepth 20000 in
theorem gX0_makeSilentMoves_X3_fact : GoodIn wsX0_makeSilentMoves (wsV RX0 83 RX3 yX3_fact wsX3_fact) := goodIn_app (goodIn_of _ (by decide +kernel)) ggX0_makeSilentMoves_X3_fact
set_option maxRecDepth 20000 in
theorem ggX0_makeSilentMoves_X1_costAt : GoodIn wsX0_makeSilentMoves wsX1_costAt := goodIn_r _ [35, 36, 37, 75, 76, 77, 78, 79, 80, 81, 82, 83, 84] (by decide +kernel) (by decide +kernel)
set_option maxRecDepth 20000 in
theorem gX0_makeSilentMoves_X1_costAt : GoodIn wsX0_makeSilentMoves (wsV RX0 87 RX1 yX1_costAt wsX1_costAt) := goodIn_app (goodIn_of _ (by decide +kernel)) ggX0_makeSilentMoves_X1_costAt
set_option maxRecDepth 20000 in
theorem ggX0_makeSilentMoves_X0_departureFrom : GoodIn wsX0_makeSilentMoves wsX0_departureFrom := goodIn_r _ [41, 3, 42, 1, 6, 7, 8, 9, 25, 26, 27, 28, 29, 30, 43, 44, 45, 46, 47, 48, 49, 50, 51, 52, 53, 54, 31, 32, 33, 34, 35, 36, 37, 11, 12, 13, 14, 15, 16, 17, 18, 19, 20, 68, 69, 70, 71, 72, 73, 74, 85, 86, 87, 88, 89, 90, 91, 75, 76, 77, 78, 79, 80, 81, 82, 83, 84] (by decide +kernel) (by decide +kernel)
set_option maxRecDepth 20000 in
theorem gX0_makeSilentMoves_X0_departureFrom : GoodIn wsX0_makeSilentMoves (wsV RX0 125 RX0 yX0_departureFrom wsX0_departureFrom) := goodIn_app (goodIn_of _ (by decide +kernel)) ggX0_makeSilentMoves_X0_departureFrom
set_option maxRecDepth 20000 in
theorem ggX0_makeSilentMoves_X0_walkOn : GoodIn wsX0_makeSilentMoves wsX0_walkOn := goodIn_r _ [58, 3, 4, 10, 5, 6, 7, 8, 9, 21, 22, 23, 14, 24, 25, 26, 27, 28, 29, 30, 11, 12, 13, 15, 16, 17, 18, 19, 20, 59, 60, 61, 62, 63, 64, 65, 66, 67, 68, 69, 70, 71, 72, 73, 74, 85, 86, 87, 88, 89, 90, 91] (by decide +kernel) (by decide +kernel)
set_option maxRecDepth 20000 in
theorem gX0_makeSilentMoves_X0_walkOn : GoodIn wsX0_makeSilentMoves (wsV RX0 128 RX0 yX0_walkOn wsX0_walkOn) := goodIn_app (goodIn_of _ (by decide +kernel)) ggX0_makeSilentMoves_X0_walkOn
theorem dX0_makeSilentMoves_0 : decode cX0_makeSilentMoves 0 = .ok (.aload_n 0, 1) := by decide +kernel
theorem dX0_makeSilentMoves_1 : decode cX0_makeSilentMoves 1 = .ok (.getfield 30, 3) := by decide +kernel
theorem dX0_makeSilentMoves_4 : decode cX0_makeSilentMoves 4 = .ok (.getfield 51, 3) := by decide +kernel
theorem dX0_makeSilentMoves_7 : decode cX0_makeSilentMoves 7 = .ok (.aload_n 0, 1) := by decide +kernel
theorem dX0_makeSilentMoves_8 : decode cX0_makeSilentMoves 8 = .ok (.iconst 3, 1) := by decide +kernel
theorem dX0_makeSilentMoves_9 : decode cX0_makeSilentMoves 9 = .ok (.invokevirtual 63, 3) := by decide +kernel
theorem dX0_makeSilentMoves_12 : decode cX0_makeSilentMoves 12 = .ok (.iadd, 1) := by decide +kernel
theorem dX0_makeSilentMoves_13 : decode cX0_makeSilentMoves 13 = .ok (.istore_n 1, 1) := by decide +kernel
theorem dX0_makeSilentMoves_14 : decode cX0_makeSilentMoves 14 = .ok (.iconst 0, 1) := by decide +kernel
theorem dX0_makeSilentMoves_15 : decode cX0_makeSilentMoves 15 = .ok (.istore_n 2, 1) := by decide +kernel
theorem dX0_makeSilentMoves_16 : decode cX0_makeSilentMoves 16 = .ok (.iload_n 2, 1) := by decide +kernel
theorem dX0_makeSilentMoves_17 : decode cX0_makeSilentMoves 17 = .ok (.aload_n 0, 1) := by decide +kernel
theorem dX0_makeSilentMoves_18 : decode cX0_makeSilentMoves 18 = .ok (.getfield 33, 3) := by decide +kernel
theorem dX0_makeSilentMoves_21 : decode cX0_makeSilentMoves 21 = .ok (.getfield 91, 3) := by decide +kernel
theorem dX0_makeSilentMoves_24 : decode cX0_makeSilentMoves 24 = .ok (.if_icmp .ge 87, 3) := by decide +kernel
theorem dX0_makeSilentMoves_27 : decode cX0_makeSilentMoves 27 = .ok (.aload_n 0, 1) := by decide +kernel
theorem dX0_makeSilentMoves_28 : decode cX0_makeSilentMoves 28 = .ok (.iload_n 2, 1) := by decide +kernel
theorem dX0_makeSilentMoves_29 : decode cX0_makeSilentMoves 29 = .ok (.invokevirtual 122, 3) := by decide +kernel
theorem dX0_makeSilentMoves_32 : decode cX0_makeSilentMoves 32 = .ok (.ifCond .eq 79, 3) := by decide +kernel
theorem dX0_makeSilentMoves_35 : decode cX0_makeSilentMoves 35 = .ok (.aload_n 0, 1) := by decide +kernel
theorem dX0_makeSilentMoves_36 : decode cX0_makeSilentMoves 36 = .ok (.getfield 30, 3) := by decide +kernel
theorem dX0_makeSilentMoves_39 : decode cX0_makeSilentMoves 39 = .ok (.aload_n 0, 1) := by decide +kernel
theorem dX0_makeSilentMoves_40 : decode cX0_makeSilentMoves 40 = .ok (.getfield 33, 3) := by decide +kernel
theorem dX0_makeSilentMoves_43 : decode cX0_makeSilentMoves 43 = .ok (.iload_n 2, 1) := by decide +kernel
theorem dX0_makeSilentMoves_44 : decode cX0_makeSilentMoves 44 = .ok (.bipush 13, 2) := by decide +kernel
theorem dX0_makeSilentMoves_46 : decode cX0_makeSilentMoves 46 = .ok (.invokevirtual 83, 3) := by decide +kernel
theorem dX0_makeSilentMoves_49 : decode cX0_makeSilentMoves 49 = .ok (.invokevirtual 87, 3) := by decide +kernel
theorem dX0_makeSilentMoves_52 : decode cX0_makeSilentMoves 52 = .ok (.istore_n 3, 1) := by decide +kernel
theorem dX0_makeSilentMoves_53 : decode cX0_makeSilentMoves 53 = .ok (.aload_n 0, 1) := by decide +kernel
theorem dX0_makeSilentMoves_54 : decode cX0_makeSilentMoves 54 = .ok (.getfield 33, 3) := by decide +kernel
theorem dX0_makeSilentMoves_57 : decode cX0_makeSilentMoves 57 = .ok (.iload_n 2, 1) := by decide +kernel
theorem dX0_makeSilentMoves_58 : decode cX0_makeSilentMoves 58 = .ok (.bipush 6, 2) := by decide +kernel
theorem dX0_makeSilentMoves_60 : decode cX0_makeSilentMoves 60 = .ok (.invokevirtual 83, 3) := by decide +kernel
theorem dX0_makeSilentMoves_63 : decode cX0_makeSilentMoves 63 = .ok (.iconst 1, 1) := by decide +kernel
theorem dX0_makeSilentMoves_64 : decode cX0_makeSilentMoves 64 = .ok (.if_icmp .ne 7, 3) := by decide +kernel
theorem dX0_makeSilentMoves_67 : decode cX0_makeSilentMoves 67 = .ok (.iconst 1, 1) := by decide +kernel
theorem dX0_makeSilentMoves_68 : decode cX0_makeSilentMoves 68 = .ok (.goto 4, 3) := by decide +kernel
theorem dX0_makeSilentMoves_71 : decode cX0_makeSilentMoves 71 = .ok (.iconst 0, 1) := by decide +kernel
theorem dX0_makeSilentMoves_72 : decode cX0_makeSilentMoves 72 = .ok (.istore 4, 2) := by decide +kernel
theorem dX0_makeSilentMoves_74 : decode cX0_makeSilentMoves 74 = .ok (.aload_n 0, 1) := by decide +kernel
theorem dX0_makeSilentMoves_75 : decode cX0_makeSilentMoves 75 = .ok (.getfield 15, 3) := by decide +kernel
theorem dX0_makeSilentMoves_78 : decode cX0_makeSilentMoves 78 = .ok (.iload_n 2, 1) := by decide +kernel
theorem dX0_makeSilentMoves_79 : decode cX0_makeSilentMoves 79 = .ok (.iload 4, 2) := by decide +kernel
theorem dX0_makeSilentMoves_81 : decode cX0_makeSilentMoves 81 = .ok (.ifCond .eq 11, 3) := by decide +kernel
theorem dX0_makeSilentMoves_84 : decode cX0_makeSilentMoves 84 = .ok (.iload_n 3, 1) := by decide +kernel
theorem dX0_makeSilentMoves_85 : decode cX0_makeSilentMoves 85 = .ok (.iload_n 1, 1) := by decide +kernel
theorem dX0_makeSilentMoves_86 : decode cX0_makeSilentMoves 86 = .ok (.invokestatic 97, 3) := by decide +kernel
theorem dX0_makeSilentMoves_89 : decode cX0_makeSilentMoves 89 = .ok (.goto 4, 3) := by decide +kernel
theorem dX0_makeSilentMoves_92 : decode cX0_makeSilentMoves 92 = .ok (.iload_n 3, 1) := by decide +kernel
theorem dX0_makeSilentMoves_93 : decode cX0_makeSilentMoves 93 = .ok (.iastore, 1) := by decide +kernel
theorem dX0_makeSilentMoves_94 : decode cX0_makeSilentMoves 94 = .ok (.aload_n 0, 1) := by decide +kernel
theorem dX0_makeSilentMoves_95 : decode cX0_makeSilentMoves 95 = .ok (.getfield 18, 3) := by decide +kernel
theorem dX0_makeSilentMoves_98 : decode cX0_makeSilentMoves 98 = .ok (.iload_n 2, 1) := by decide +kernel
theorem dX0_makeSilentMoves_99 : decode cX0_makeSilentMoves 99 = .ok (.aload_n 0, 1) := by decide +kernel
theorem dX0_makeSilentMoves_100 : decode cX0_makeSilentMoves 100 = .ok (.iload_n 2, 1) := by decide +kernel
theorem dX0_makeSilentMoves_101 : decode cX0_makeSilentMoves 101 = .ok (.invokevirtual 125, 3) := by decide +kernel
theorem dX0_makeSilentMoves_104 : decode cX0_makeSilentMoves 104 = .ok (.iastore, 1) := by decide +kernel
theorem dX0_makeSilentMoves_105 : decode cX0_makeSilentMoves 105 = .ok (.iinc 2 1, 3) := by decide +kernel
theorem dX0_makeSilentMoves_108 : decode cX0_makeSilentMoves 108 = .ok (.goto (-92), 3) := by decide +kernel
theorem dX0_makeSilentMoves_111 : decode cX0_makeSilentMoves 111 = .ok (.iconst 1, 1) := by decide +kernel
theorem dX0_makeSilentMoves_112 : decode cX0_makeSilentMoves 112 = .ok (.istore_n 2, 1) := by decide +kernel
theorem dX0_makeSilentMoves_113 : decode cX0_makeSilentMoves 113 = .ok (.iconst 0, 1) := by decide +kernel
theorem dX0_makeSilentMoves_114 : decode cX0_makeSilentMoves 114 = .ok (.istore_n 3, 1) := by decide +kernel
theorem dX0_makeSilentMoves_115 : decode cX0_makeSilentMoves 115 = .ok (.iload_n 3, 1) := by decide +kernel
theorem dX0_makeSilentMoves_116 : decode cX0_makeSilentMoves 116 = .ok (.bipush 100, 2) := by decide +kernel
theorem dX0_makeSilentMoves_118 : decode cX0_makeSilentMoves 118 = .ok (.if_icmp .gt 18, 3) := by decide +kernel
theorem dX0_makeSilentMoves_121 : decode cX0_makeSilentMoves 121 = .ok (.iload_n 2, 1) := by decide +kernel
theorem dX0_makeSilentMoves_122 : decode cX0_makeSilentMoves 122 = .ok (.ifCond .eq 14, 3) := by decide +kernel
theorem dX0_makeSilentMoves_125 : decode cX0_makeSilentMoves 125 = .ok (.aload_n 0, 1) := by decide +kernel
theorem dX0_makeSilentMoves_126 : decode cX0_makeSilentMoves 126 = .ok (.invokevirtual 128, 3) := by decide +kernel
theorem dX0_makeSilentMoves_129 : decode cX0_makeSilentMoves 129 = .ok (.istore_n 2, 1) := by decide +kernel
theorem dX0_makeSilentMoves_130 : decode cX0_makeSilentMoves 130 = .ok (.iinc 3 1, 3) := by decide +kernel
theorem dX0_makeSilentMoves_133 : decode cX0_makeSilentMoves 133 = .ok (.goto (-18), 3) := by decide +kernel
theorem dX0_makeSilentMoves_136 : decode cX0_makeSilentMoves 136 = .ok (.return_, 1) := by decide +kernel
set_option maxRecDepth 20000 in
theorem ggX0_departureFrom_X3_fact : GoodIn wsX0_departureFrom wsX3_fact := goodIn_r _ [12, 13, 50, 51, 52, 53, 54, 55, 56] (by decide +kernel) (by decide +kernel)
set_option maxRecDepth 20000 in
theorem gX0_departureFrom_X3_fact : GoodIn wsX0_departureFrom (wsV RX0 83 RX3 yX3_fact wsX3_fact) := goodIn_app (goodIn_of _ (by decide +kernel)) ggX0_departureFrom_X3_fact
set_option maxRecDepth 20000 in
theorem ggX0_departureFrom_X3_allBits : GoodIn wsX0_departureFrom wsX3_allBits := goodIn_r _ [17, 18, 9, 10, 11, 12, 13, 50, 51, 52, 53, 54, 55, 56] (by decide +kernel) (by decide +kernel)
set_option maxRecDepth 20000 in
theorem gX0_departureFrom_X3_allBits : GoodIn wsX0_departureFrom (wsV RX0 102 RX3 yX3_allBits wsX3_allBits) := goodIn_app (goodIn_of _ (by decide +kernel)) ggX0_departureFrom_X3_allBits
set_option maxRecDepth 20000 in
theorem ggX0_departureFrom_J6_bitCount_0f7a4 : GoodIn wsX0_departureFrom wsJ6_bitCount_0f7a4 := goodIn_r _ [22, 23, 24, 25] (by decide +kernel) (by decide +kernel)
set_option maxRecDepth 20000 in
theorem gX0_departureFrom_J6_bitCount_0f7a4 : GoodIn wsX0_departureFrom (va_wsS RX0 132 yJ6_bitCount_0f7a4 wsJ6_bitCount_0f7a4) := goodIn_app (goodIn_of _ (by decide +kernel)) ggX0_departureFrom_J6_bitCount_0f7a4
set_option maxRecDepth 20000 in
theorem ggX0_departureFrom_X1_costAt : GoodIn wsX0_departureFrom wsX1_costAt := goodIn_r _ [30, 31, 32, 57, 58, 59, 60, 61, 62, 63, 64, 65, 66] (by decide +kernel) (by decide +kernel)
set_option maxRecDepth 20000 in
theorem gX0_departureFrom_X1_costAt : GoodIn wsX0_departureFrom (wsV RX0 87 RX1 yX1_costAt wsX1_costAt) := goodIn_app (goodIn_of _ (by decide +kernel)) ggX0_departureFrom_X1_costAt
set_option maxRecDepth 20000 in
theorem ggX0_departureFrom_X0_priceOf : GoodIn wsX0_departureFrom wsX0_priceOf := goodIn_r _ [37, 38, 39, 40, 41, 36, 42, 43, 44, 45, 46, 47, 48, 49] (by decide +kernel) (by decide +kernel)
set_option maxRecDepth 20000 in
theorem gX0_departureFrom_X0_priceOf : GoodIn wsX0_departureFrom (wsV RX0 63 RX0 yX0_priceOf wsX0_priceOf) := goodIn_app (goodIn_of _ (by decide +kernel)) ggX0_departureFrom_X0_priceOf
theorem dX0_departureFrom_0 : decode cX0_departureFrom 0 = .ok (.aload_n 0, 1) := by decide +kernel
theorem dX0_departureFrom_1 : decode cX0_departureFrom 1 = .ok (.getfield 33, 3) := by decide +kernel
theorem dX0_departureFrom_4 : decode cX0_departureFrom 4 = .ok (.iload_n 1, 1) := by decide +kernel
theorem dX0_departureFrom_5 : decode cX0_departureFrom 5 = .ok (.bipush 13, 2) := by decide +kernel
theorem dX0_departureFrom_7 : decode cX0_departureFrom 7 = .ok (.invokevirtual 83, 3) := by decide +kernel
theorem dX0_departureFrom_10 : decode cX0_departureFrom 10 = .ok (.istore_n 2, 1) := by decide +kernel
theorem dX0_departureFrom_11 : decode cX0_departureFrom 11 = .ok (.aload_n 0, 1) := by decide +kernel
theorem dX0_departureFrom_12 : decode cX0_departureFrom 12 = .ok (.getfield 33, 3) := by decide +kernel
theorem dX0_departureFrom_15 : decode cX0_departureFrom 15 = .ok (.iload_n 1, 1) := by decide +kernel
theorem dX0_departureFrom_16 : decode cX0_departureFrom 16 = .ok (.invokevirtual 102, 3) := by decide +kernel
theorem dX0_departureFrom_19 : decode cX0_departureFrom 19 = .ok (.istore_n 3, 1) := by decide +kernel
theorem dX0_departureFrom_20 : decode cX0_departureFrom 20 = .ok (.ldc 90, 2) := by decide +kernel
theorem dX0_departureFrom_22 : decode cX0_departureFrom 22 = .ok (.istore 4, 2) := by decide +kernel
theorem dX0_departureFrom_24 : decode cX0_departureFrom 24 = .ok (.iconst 1, 1) := by decide +kernel
theorem dX0_departureFrom_25 : decode cX0_departureFrom 25 = .ok (.istore 5, 2) := by decide +kernel
theorem dX0_departureFrom_27 : decode cX0_departureFrom 27 = .ok (.iload 5, 2) := by decide +kernel
theorem dX0_departureFrom_29 : decode cX0_departureFrom 29 = .ok (.iload_n 3, 1) := by decide +kernel
theorem dX0_departureFrom_30 : decode cX0_departureFrom 30 = .ok (.if_icmp .gt 45, 3) := by decide +kernel
theorem dX0_departureFrom_33 : decode cX0_departureFrom 33 = .ok (.iload_n 3, 1) := by decide +kernel
theorem dX0_departureFrom_34 : decode cX0_departureFrom 34 = .ok (.iload 5, 2) := by decide +kernel
theorem dX0_departureFrom_36 : decode cX0_departureFrom 36 = .ok (.isub, 1) := by decide +kernel
theorem dX0_departureFrom_37 : decode cX0_departureFrom 37 = .ok (.invokestatic 132, 3) := by decide +kernel
theorem dX0_departureFrom_40 : decode cX0_departureFrom 40 = .ok (.istore 6, 2) := by decide +kernel
theorem dX0_departureFrom_42 : decode cX0_departureFrom 42 = .ok (.iload 4, 2) := by decide +kernel
theorem dX0_departureFrom_44 : decode cX0_departureFrom 44 = .ok (.aload_n 0, 1) := by decide +kernel
theorem dX0_departureFrom_45 : decode cX0_departureFrom 45 = .ok (.getfield 30, 3) := by decide +kernel
theorem dX0_departureFrom_48 : decode cX0_departureFrom 48 = .ok (.iload_n 2, 1) := by decide +kernel
theorem dX0_departureFrom_49 : decode cX0_departureFrom 49 = .ok (.iload 5, 2) := by decide +kernel
theorem dX0_departureFrom_51 : decode cX0_departureFrom 51 = .ok (.iadd, 1) := by decide +kernel
theorem dX0_departureFrom_52 : decode cX0_departureFrom 52 = .ok (.invokevirtual 87, 3) := by decide +kernel
theorem dX0_departureFrom_55 : decode cX0_departureFrom 55 = .ok (.iload 6, 2) := by decide +kernel
theorem dX0_departureFrom_57 : decode cX0_departureFrom 57 = .ok (.aload_n 0, 1) := by decide +kernel
theorem dX0_departureFrom_58 : decode cX0_departureFrom 58 = .ok (.iconst 2, 1) := by decide +kernel
theorem dX0_departureFrom_59 : decode cX0_departureFrom 59 = .ok (.invokevirtual 63, 3) := by decide +kernel
theorem dX0_departureFrom_62 : decode cX0_departureFrom 62 = .ok (.imul, 1) := by decide +kernel
theorem dX0_departureFrom_63 : decode cX0_departureFrom 63 = .ok (.iadd, 1) := by decide +kernel
theorem dX0_departureFrom_64 : decode cX0_departureFrom 64 = .ok (.invokestatic 97, 3) := by decide +kernel
theorem dX0_departureFrom_67 : decode cX0_departureFrom 67 = .ok (.istore 4, 2) := by decide +kernel
theorem dX0_departureFrom_69 : decode cX0_departureFrom 69 = .ok (.iinc 5 1, 3) := by decide +kernel
theorem dX0_departureFrom_72 : decode cX0_departureFrom 72 = .ok (.goto (-45), 3) := by decide +kernel
theorem dX0_departureFrom_75 : decode cX0_departureFrom 75 = .ok (.iload 4, 2) := by decide +kernel
theorem dX0_departureFrom_77 : decode cX0_departureFrom 77 = .ok (.ireturn, 1) := by decide +kernel
set_option maxRecDepth 20000 in
theorem ggX0_walkOn_X0_hasRow : GoodIn wsX0_walkOn wsX0_hasRow := goodIn_r _ [13, 4, 3, 38, 39, 40, 41, 42, 43, 44] (by decide +kernel) (by decide +kernel)
set_option maxRecDepth 20000 in
theorem gX0_walkOn_X0_hasRow : GoodIn wsX0_walkOn (wsV RX0 122 RX0 yX0_hasRow wsX0_hasRow) := goodIn_app (goodIn_of _ (by decide +kernel)) ggX0_walkOn_X0_hasRow
set_option maxRecDepth 20000 in
theorem ggX0_walkOn_X3_fact : GoodIn wsX0_walkOn wsX3_fact := goodIn_r _ [18, 19, 45, 46, 47, 48, 49, 50, 51] (by decide +kernel) (by decide +kernel)
set_option maxRecDepth 20000 in
theorem gX0_walkOn_X3_fact : GoodIn wsX0_walkOn (wsV RX0 83 RX3 yX3_fact wsX3_fact) := goodIn_app (goodIn_of _ (by decide +kernel)) ggX0_walkOn_X3_fact
set_option maxRecDepth 20000 in
theorem ggX0_walkOn_X0_priceOf : GoodIn wsX0_walkOn wsX0_priceOf := goodIn_r _ [23, 24, 25, 26, 27, 12, 28, 38, 39, 40, 41, 42, 43, 44] (by decide +kernel) (by decide +kernel)
set_option maxRecDepth 20000 in
theorem gX0_walkOn_X0_priceOf : GoodIn wsX0_walkOn (wsV RX0 63 RX0 yX0_priceOf wsX0_priceOf) := goodIn_app (goodIn_of _ (by decide +kernel)) ggX0_walkOn_X0_priceOf
set_option maxRecDepth 20000 in
theorem ggX0_walkOn_X0_arrive : GoodIn wsX0_walkOn wsX0_arrive := goodIn_r _ [32, 1, 4, 9, 10, 11, 12, 13, 3, 33, 34, 35, 17, 36, 37, 38, 39, 40, 41, 42, 43, 44, 45, 46, 47, 48, 49, 50, 51] (by decide +kernel) (by decide +kernel)
set_option maxRecDepth 20000 in
theorem gX0_walkOn_X0_arrive : GoodIn wsX0_walkOn (wsV RX0 137 RX0 yX0_arrive wsX0_arrive) := goodIn_app (goodIn_of _ (by decide +kernel)) ggX0_walkOn_X0_arrive
theorem dX0_walkOn_0 : decode cX0_walkOn 0 = .ok (.iconst 0, 1) := by decide +kernel
theorem dX0_walkOn_1 : decode cX0_walkOn 1 = .ok (.istore_n 1, 1) := by decide +kernel
theorem dX0_walkOn_2 : decode cX0_walkOn 2 = .ok (.iconst 0, 1) := by decide +kernel
theorem dX0_walkOn_3 : decode cX0_walkOn 3 = .ok (.istore_n 2, 1) := by decide +kernel
theorem dX0_walkOn_4 : decode cX0_walkOn 4 = .ok (.iload_n 2, 1) := by decide +kernel
theorem dX0_walkOn_5 : decode cX0_walkOn 5 = .ok (.aload_n 0, 1) := by decide +kernel
theorem dX0_walkOn_6 : decode cX0_walkOn 6 = .ok (.getfield 33, 3) := by decide +kernel
theorem dX0_walkOn_9 : decode cX0_walkOn 9 = .ok (.getfield 91, 3) := by decide +kernel
theorem dX0_walkOn_12 : decode cX0_walkOn 12 = .ok (.if_icmp .ge 83, 3) := by decide +kernel
theorem dX0_walkOn_15 : decode cX0_walkOn 15 = .ok (.aload_n 0, 1) := by decide +kernel
theorem dX0_walkOn_16 : decode cX0_walkOn 16 = .ok (.iload_n 2, 1) := by decide +kernel
theorem dX0_walkOn_17 : decode cX0_walkOn 17 = .ok (.invokevirtual 122, 3) := by decide +kernel
theorem dX0_walkOn_20 : decode cX0_walkOn 20 = .ok (.ifCond .eq 75, 3) := by decide +kernel
theorem dX0_walkOn_23 : decode cX0_walkOn 23 = .ok (.aload_n 0, 1) := by decide +kernel
theorem dX0_walkOn_24 : decode cX0_walkOn 24 = .ok (.getfield 33, 3) := by decide +kernel
theorem dX0_walkOn_27 : decode cX0_walkOn 27 = .ok (.iload_n 2, 1) := by decide +kernel
theorem dX0_walkOn_28 : decode cX0_walkOn 28 = .ok (.iconst 1, 1) := by decide +kernel
theorem dX0_walkOn_29 : decode cX0_walkOn 29 = .ok (.invokevirtual 83, 3) := by decide +kernel
theorem dX0_walkOn_32 : decode cX0_walkOn 32 = .ok (.istore_n 3, 1) := by decide +kernel
theorem dX0_walkOn_33 : decode cX0_walkOn 33 = .ok (.aload_n 0, 1) := by decide +kernel
theorem dX0_walkOn_34 : decode cX0_walkOn 34 = .ok (.getfield 18, 3) := by decide +kernel
theorem dX0_walkOn_37 : decode cX0_walkOn 37 = .ok (.iload_n 2, 1) := by decide +kernel
theorem dX0_walkOn_38 : decode cX0_walkOn 38 = .ok (.iaload, 1) := by decide +kernel
theorem dX0_walkOn_39 : decode cX0_walkOn 39 = .ok (.aload_n 0, 1) := by decide +kernel
theorem dX0_walkOn_40 : decode cX0_walkOn 40 = .ok (.getfield 15, 3) := by decide +kernel
theorem dX0_walkOn_43 : decode cX0_walkOn 43 = .ok (.iload_n 2, 1) := by decide +kernel
theorem dX0_walkOn_44 : decode cX0_walkOn 44 = .ok (.iaload, 1) := by decide +kernel
theorem dX0_walkOn_45 : decode cX0_walkOn 45 = .ok (.iload_n 3, 1) := by decide +kernel
theorem dX0_walkOn_46 : decode cX0_walkOn 46 = .ok (.aload_n 0, 1) := by decide +kernel
theorem dX0_walkOn_47 : decode cX0_walkOn 47 = .ok (.iconst 2, 1) := by decide +kernel
theorem dX0_walkOn_48 : decode cX0_walkOn 48 = .ok (.invokevirtual 63, 3) := by decide +kernel
theorem dX0_walkOn_51 : decode cX0_walkOn 51 = .ok (.imul, 1) := by decide +kernel
theorem dX0_walkOn_52 : decode cX0_walkOn 52 = .ok (.iadd, 1) := by decide +kernel
theorem dX0_walkOn_53 : decode cX0_walkOn 53 = .ok (.invokestatic 97, 3) := by decide +kernel
theorem dX0_walkOn_56 : decode cX0_walkOn 56 = .ok (.istore 4, 2) := by decide +kernel
theorem dX0_walkOn_58 : decode cX0_walkOn 58 = .ok (.aload_n 0, 1) := by decide +kernel
theorem dX0_walkOn_59 : decode cX0_walkOn 59 = .ok (.iload_n 2, 1) := by decide +kernel
theorem dX0_walkOn_60 : decode cX0_walkOn 60 = .ok (.iconst 1, 1) := by decide +kernel
theorem dX0_walkOn_61 : decode cX0_walkOn 61 = .ok (.iadd, 1) := by decide +kernel
theorem dX0_walkOn_62 : decode cX0_walkOn 62 = .ok (.iload 4, 2) := by decide +kernel
theorem dX0_walkOn_64 : decode cX0_walkOn 64 = .ok (.invokevirtual 137, 3) := by decide +kernel
theorem dX0_walkOn_67 : decode cX0_walkOn 67 = .ok (.pop, 1) := by decide +kernel
theorem dX0_walkOn_68 : decode cX0_walkOn 68 = .ok (.aload_n 0, 1) := by decide +kernel
theorem dX0_walkOn_69 : decode cX0_walkOn 69 = .ok (.aload_n 0, 1) := by decide +kernel
theorem dX0_walkOn_70 : decode cX0_walkOn 70 = .ok (.getfield 33, 3) := by decide +kernel
theorem dX0_walkOn_73 : decode cX0_walkOn 73 = .ok (.iload_n 2, 1) := by decide +kernel
theorem dX0_walkOn_74 : decode cX0_walkOn 74 = .ok (.bipush 8, 2) := by decide +kernel
theorem dX0_walkOn_76 : decode cX0_walkOn 76 = .ok (.invokevirtual 83, 3) := by decide +kernel
theorem dX0_walkOn_79 : decode cX0_walkOn 79 = .ok (.iload 4, 2) := by decide +kernel
theorem dX0_walkOn_81 : decode cX0_walkOn 81 = .ok (.invokevirtual 137, 3) := by decide +kernel
theorem dX0_walkOn_84 : decode cX0_walkOn 84 = .ok (.ifCond .eq 5, 3) := by decide +kernel
theorem dX0_walkOn_87 : decode cX0_walkOn 87 = .ok (.iconst 1, 1) := by decide +kernel
theorem dX0_walkOn_88 : decode cX0_walkOn 88 = .ok (.istore_n 1, 1) := by decide +kernel
theorem dX0_walkOn_89 : decode cX0_walkOn 89 = .ok (.iinc 2 1, 3) := by decide +kernel
theorem dX0_walkOn_92 : decode cX0_walkOn 92 = .ok (.goto (-88), 3) := by decide +kernel
theorem dX0_walkOn_95 : decode cX0_walkOn 95 = .ok (.iload_n 1, 1) := by decide +kernel
theorem dX0_walkOn_96 : decode cX0_walkOn 96 = .ok (.ireturn, 1) := by decide +kernel
set_option maxRecDepth 20000 in
theorem ggX0_arrive_X0_hasRow : GoodIn wsX0_arrive wsX0_hasRow := goodIn_r _ [7, 2, 8, 15, 16, 17, 18, 19, 20, 21] (by decide +kernel) (by decide +kernel)
set_option maxRecDepth 20000 in
theorem gX0_arrive_X0_hasRow : GoodIn wsX0_arrive (wsV RX0 122 RX0 yX0_hasRow wsX0_hasRow) := goodIn_app (goodIn_of _ (by decide +kernel)) ggX0_arrive_X0_hasRow
set_option maxRecDepth 20000 in
theorem ggX0_arrive_X3_has : GoodIn wsX0_arrive wsX3_has := goodIn_r _ [13, 14, 22, 23, 24, 25, 26, 27, 28] (by decide +kernel) (by decide +kernel)
set_option maxRecDepth 20000 in
theorem gX0_arrive_X3_has : GoodIn wsX0_arrive (wsV RX0 141 RX3 yX3_has wsX3_has) := goodIn_app (goodIn_of _ (by decide +kernel)) ggX0_arrive_X3_has
theorem dX0_arrive_0 : decode cX0_arrive 0 = .ok (.aload_n 0, 1) := by decide +kernel
theorem dX0_arrive_1 : decode cX0_arrive 1 = .ok (.iload_n 1, 1) := by decide +kernel
theorem dX0_arrive_2 : decode cX0_arrive 2 = .ok (.invokevirtual 122, 3) := by decide +kernel
theorem dX0_arrive_5 : decode cX0_arrive 5 = .ok (.ifCond .eq 24, 3) := by decide +kernel
theorem dX0_arrive_8 : decode cX0_arrive 8 = .ok (.aload_n 0, 1) := by decide +kernel
theorem dX0_arrive_9 : decode cX0_arrive 9 = .ok (.getfield 33, 3) := by decide +kernel
theorem dX0_arrive_12 : decode cX0_arrive 12 = .ok (.iload_n 1, 1) := by decide +kernel
theorem dX0_arrive_13 : decode cX0_arrive 13 = .ok (.invokevirtual 141, 3) := by decide +kernel
theorem dX0_arrive_16 : decode cX0_arrive 16 = .ok (.ifCond .eq 13, 3) := by decide +kernel
theorem dX0_arrive_19 : decode cX0_arrive 19 = .ok (.iload_n 2, 1) := by decide +kernel
theorem dX0_arrive_20 : decode cX0_arrive 20 = .ok (.aload_n 0, 1) := by decide +kernel
theorem dX0_arrive_21 : decode cX0_arrive 21 = .ok (.getfield 15, 3) := by decide +kernel
theorem dX0_arrive_24 : decode cX0_arrive 24 = .ok (.iload_n 1, 1) := by decide +kernel
theorem dX0_arrive_25 : decode cX0_arrive 25 = .ok (.iaload, 1) := by decide +kernel
theorem dX0_arrive_26 : decode cX0_arrive 26 = .ok (.if_icmp .lt 5, 3) := by decide +kernel
theorem dX0_arrive_29 : decode cX0_arrive 29 = .ok (.iconst 0, 1) := by decide +kernel
theorem dX0_arrive_30 : decode cX0_arrive 30 = .ok (.ireturn, 1) := by decide +kernel
theorem dX0_arrive_31 : decode cX0_arrive 31 = .ok (.aload_n 0, 1) := by decide +kernel
theorem dX0_arrive_32 : decode cX0_arrive 32 = .ok (.getfield 15, 3) := by decide +kernel
theorem dX0_arrive_35 : decode cX0_arrive 35 = .ok (.iload_n 1, 1) := by decide +kernel
theorem dX0_arrive_36 : decode cX0_arrive 36 = .ok (.iload_n 2, 1) := by decide +kernel
theorem dX0_arrive_37 : decode cX0_arrive 37 = .ok (.iastore, 1) := by decide +kernel
theorem dX0_arrive_38 : decode cX0_arrive 38 = .ok (.iconst 1, 1) := by decide +kernel
theorem dX0_arrive_39 : decode cX0_arrive 39 = .ok (.ireturn, 1) := by decide +kernel
set_option maxRecDepth 20000 in
theorem ggX0_takeNote_X0_hasRow : GoodIn wsX0_takeNote wsX0_hasRow := goodIn_r _ [8, 2, 9, 49, 50, 51, 52, 53, 54, 55] (by decide +kernel) (by decide +kernel)
set_option maxRecDepth 20000 in
theorem gX0_takeNote_X0_hasRow : GoodIn wsX0_takeNote (wsV RX0 122 RX0 yX0_hasRow wsX0_hasRow) := goodIn_app (goodIn_of _ (by decide +kernel)) ggX0_takeNote_X0_hasRow
set_option maxRecDepth 20000 in
theorem ggX0_takeNote_X3_fact : GoodIn wsX0_takeNote wsX3_fact := goodIn_r _ [14, 15, 56, 57, 58, 59, 60, 61, 62] (by decide +kernel) (by decide +kernel)
set_option maxRecDepth 20000 in
theorem gX0_takeNote_X3_fact : GoodIn wsX0_takeNote (wsV RX0 83 RX3 yX3_fact wsX3_fact) := goodIn_app (goodIn_of _ (by decide +kernel)) ggX0_takeNote_X3_fact
set_option maxRecDepth 20000 in
theorem ggX0_takeNote_X3_allBits : GoodIn wsX0_takeNote wsX3_allBits := goodIn_r _ [19, 20, 11, 12, 13, 14, 15, 56, 57, 58, 59, 60, 61, 62] (by decide +kernel) (by decide +kernel)
set_option maxRecDepth 20000 in
theorem gX0_takeNote_X3_allBits : GoodIn wsX0_takeNote (wsV RX0 102 RX3 yX3_allBits wsX3_allBits) := goodIn_app (goodIn_of _ (by decide +kernel)) ggX0_takeNote_X3_allBits
set_option maxRecDepth 20000 in
theorem ggX0_takeNote_X3_rightBit : GoodIn wsX0_takeNote wsX3_rightBit := goodIn_r _ [24, 25, 26, 27, 28, 20, 11, 12, 13, 14, 15, 56, 57, 58, 59, 60, 61, 62] (by decide +kernel) (by decide +kernel)
set_option maxRecDepth 20000 in
theorem gX0_takeNote_X3_rightBit : GoodIn wsX0_takeNote (wsV RX0 144 RX3 yX3_rightBit wsX3_rightBit) := goodIn_app (goodIn_of _ (by decide +kernel)) ggX0_takeNote_X3_rightBit
set_option maxRecDepth 20000 in
theorem ggX0_takeNote_X1_costAt : GoodIn wsX0_takeNote wsX1_costAt := goodIn_r _ [33, 34, 35, 63, 64, 65, 66, 67, 68, 69, 70, 71, 72] (by decide +kernel) (by decide +kernel)
set_option maxRecDepth 20000 in
theorem gX0_takeNote_X1_costAt : GoodIn wsX0_takeNote (wsV RX0 87 RX1 yX1_costAt wsX1_costAt) := goodIn_app (goodIn_of _ (by decide +kernel)) ggX0_takeNote_X1_costAt
set_option maxRecDepth 20000 in
theorem ggX0_takeNote_X0_priceOf : GoodIn wsX0_takeNote wsX0_priceOf := goodIn_r _ [39, 40, 41, 42, 43, 7, 44, 49, 50, 51, 52, 53, 54, 55] (by decide +kernel) (by decide +kernel)
set_option maxRecDepth 20000 in
theorem gX0_takeNote_X0_priceOf : GoodIn wsX0_takeNote (wsV RX0 63 RX0 yX0_priceOf wsX0_priceOf) := goodIn_app (goodIn_of _ (by decide +kernel)) ggX0_takeNote_X0_priceOf
set_option maxRecDepth 20000 in
theorem ggX0_takeNote_X1_offer : GoodIn wsX0_takeNote wsX1_offer := goodIn_r _ [48, 34, 63, 64, 65, 66, 67, 68, 69, 70, 71, 72] (by decide +kernel) (by decide +kernel)
set_option maxRecDepth 20000 in
theorem gX0_takeNote_X1_offer : GoodIn wsX0_takeNote (wsV RX0 47 RX1 yX1_offer wsX1_offer) := goodIn_app (goodIn_of _ (by decide +kernel)) ggX0_takeNote_X1_offer
theorem dX0_takeNote_0 : decode cX0_takeNote 0 = .ok (.aload_n 0, 1) := by decide +kernel
theorem dX0_takeNote_1 : decode cX0_takeNote 1 = .ok (.iload_n 1, 1) := by decide +kernel
theorem dX0_takeNote_2 : decode cX0_takeNote 2 = .ok (.invokevirtual 122, 3) := by decide +kernel
theorem dX0_takeNote_5 : decode cX0_takeNote 5 = .ok (.ifCond .ne 4, 3) := by decide +kernel
theorem dX0_takeNote_8 : decode cX0_takeNote 8 = .ok (.return_, 1) := by decide +kernel
theorem dX0_takeNote_9 : decode cX0_takeNote 9 = .ok (.aload_n 0, 1) := by decide +kernel
theorem dX0_takeNote_10 : decode cX0_takeNote 10 = .ok (.getfield 33, 3) := by decide +kernel
theorem dX0_takeNote_13 : decode cX0_takeNote 13 = .ok (.iload_n 1, 1) := by decide +kernel
theorem dX0_takeNote_14 : decode cX0_takeNote 14 = .ok (.bipush 13, 2) := by decide +kernel
theorem dX0_takeNote_16 : decode cX0_takeNote 16 = .ok (.invokevirtual 83, 3) := by decide +kernel
theorem dX0_takeNote_19 : decode cX0_takeNote 19 = .ok (.istore 4, 2) := by decide +kernel
theorem dX0_takeNote_21 : decode cX0_takeNote 21 = .ok (.aload_n 0, 1) := by decide +kernel
theorem dX0_takeNote_22 : decode cX0_takeNote 22 = .ok (.getfield 33, 3) := by decide +kernel
theorem dX0_takeNote_25 : decode cX0_takeNote 25 = .ok (.iload_n 1, 1) := by decide +kernel
theorem dX0_takeNote_26 : decode cX0_takeNote 26 = .ok (.invokevirtual 102, 3) := by decide +kernel
theorem dX0_takeNote_29 : decode cX0_takeNote 29 = .ok (.istore 5, 2) := by decide +kernel
theorem dX0_takeNote_31 : decode cX0_takeNote 31 = .ok (.aload_n 0, 1) := by decide +kernel
theorem dX0_takeNote_32 : decode cX0_takeNote 32 = .ok (.getfield 33, 3) := by decide +kernel
theorem dX0_takeNote_35 : decode cX0_takeNote 35 = .ok (.iload_n 1, 1) := by decide +kernel
theorem dX0_takeNote_36 : decode cX0_takeNote 36 = .ok (.iload_n 2, 1) := by decide +kernel
theorem dX0_takeNote_37 : decode cX0_takeNote 37 = .ok (.invokevirtual 144, 3) := by decide +kernel
theorem dX0_takeNote_40 : decode cX0_takeNote 40 = .ok (.istore 6, 2) := by decide +kernel
theorem dX0_takeNote_42 : decode cX0_takeNote 42 = .ok (.aload_n 0, 1) := by decide +kernel
theorem dX0_takeNote_43 : decode cX0_takeNote 43 = .ok (.getfield 33, 3) := by decide +kernel
theorem dX0_takeNote_46 : decode cX0_takeNote 46 = .ok (.iload_n 1, 1) := by decide +kernel
theorem dX0_takeNote_47 : decode cX0_takeNote 47 = .ok (.iconst 0, 1) := by decide +kernel
theorem dX0_takeNote_48 : decode cX0_takeNote 48 = .ok (.invokevirtual 83, 3) := by decide +kernel
theorem dX0_takeNote_51 : decode cX0_takeNote 51 = .ok (.iconst 2, 1) := by decide +kernel
theorem dX0_takeNote_52 : decode cX0_takeNote 52 = .ok (.if_icmp .ne 7, 3) := by decide +kernel
theorem dX0_takeNote_55 : decode cX0_takeNote 55 = .ok (.iconst 1, 1) := by decide +kernel
theorem dX0_takeNote_56 : decode cX0_takeNote 56 = .ok (.goto 4, 3) := by decide +kernel
theorem dX0_takeNote_59 : decode cX0_takeNote 59 = .ok (.iconst 0, 1) := by decide +kernel
theorem dX0_takeNote_60 : decode cX0_takeNote 60 = .ok (.istore 7, 2) := by decide +kernel
theorem dX0_takeNote_62 : decode cX0_takeNote 62 = .ok (.iconst 0, 1) := by decide +kernel
theorem dX0_takeNote_63 : decode cX0_takeNote 63 = .ok (.istore 8, 2) := by decide +kernel
theorem dX0_takeNote_65 : decode cX0_takeNote 65 = .ok (.iload 8, 2) := by decide +kernel
theorem dX0_takeNote_67 : decode cX0_takeNote 67 = .ok (.iload 5, 2) := by decide +kernel
theorem dX0_takeNote_69 : decode cX0_takeNote 69 = .ok (.if_icmp .gt 119, 3) := by decide +kernel
theorem dX0_takeNote_72 : decode cX0_takeNote 72 = .ok (.iload 8, 2) := by decide +kernel
theorem dX0_takeNote_74 : decode cX0_takeNote 74 = .ok (.ifCond .ne 12, 3) := by decide +kernel
theorem dX0_takeNote_77 : decode cX0_takeNote 77 = .ok (.aload_n 0, 1) := by decide +kernel
theorem dX0_takeNote_78 : decode cX0_takeNote 78 = .ok (.getfield 15, 3) := by decide +kernel
theorem dX0_takeNote_81 : decode cX0_takeNote 81 = .ok (.iload_n 1, 1) := by decide +kernel
theorem dX0_takeNote_82 : decode cX0_takeNote 82 = .ok (.iaload, 1) := by decide +kernel
theorem dX0_takeNote_83 : decode cX0_takeNote 83 = .ok (.goto 15, 3) := by decide +kernel
theorem dX0_takeNote_86 : decode cX0_takeNote 86 = .ok (.aload_n 0, 1) := by decide +kernel
theorem dX0_takeNote_87 : decode cX0_takeNote 87 = .ok (.getfield 30, 3) := by decide +kernel
theorem dX0_takeNote_90 : decode cX0_takeNote 90 = .ok (.iload 4, 2) := by decide +kernel
theorem dX0_takeNote_92 : decode cX0_takeNote 92 = .ok (.iload 8, 2) := by decide +kernel
theorem dX0_takeNote_94 : decode cX0_takeNote 94 = .ok (.iadd, 1) := by decide +kernel
theorem dX0_takeNote_95 : decode cX0_takeNote 95 = .ok (.invokevirtual 87, 3) := by decide +kernel
theorem dX0_takeNote_98 : decode cX0_takeNote 98 = .ok (.istore 9, 2) := by decide +kernel
theorem dX0_takeNote_100 : decode cX0_takeNote 100 = .ok (.aload_n 3, 1) := by decide +kernel
theorem dX0_takeNote_101 : decode cX0_takeNote 101 = .ok (.iload 4, 2) := by decide +kernel
theorem dX0_takeNote_103 : decode cX0_takeNote 103 = .ok (.iload 8, 2) := by decide +kernel
theorem dX0_takeNote_105 : decode cX0_takeNote 105 = .ok (.iadd, 1) := by decide +kernel
theorem dX0_takeNote_106 : decode cX0_takeNote 106 = .ok (.iload 9, 2) := by decide +kernel
theorem dX0_takeNote_108 : decode cX0_takeNote 108 = .ok (.aload_n 0, 1) := by decide +kernel
theorem dX0_takeNote_109 : decode cX0_takeNote 109 = .ok (.iconst 1, 1) := by decide +kernel
theorem dX0_takeNote_110 : decode cX0_takeNote 110 = .ok (.invokevirtual 63, 3) := by decide +kernel
theorem dX0_takeNote_113 : decode cX0_takeNote 113 = .ok (.iadd, 1) := by decide +kernel
theorem dX0_takeNote_114 : decode cX0_takeNote 114 = .ok (.invokevirtual 47, 3) := by decide +kernel
theorem dX0_takeNote_117 : decode cX0_takeNote 117 = .ok (.iload 8, 2) := by decide +kernel
theorem dX0_takeNote_119 : decode cX0_takeNote 119 = .ok (.iload 5, 2) := by decide +kernel
theorem dX0_takeNote_121 : decode cX0_takeNote 121 = .ok (.if_icmp .eq 29, 3) := by decide +kernel
theorem dX0_takeNote_124 : decode cX0_takeNote 124 = .ok (.iload 8, 2) := by decide +kernel
theorem dX0_takeNote_126 : decode cX0_takeNote 126 = .ok (.iload 8, 2) := by decide +kernel
theorem dX0_takeNote_128 : decode cX0_takeNote 128 = .ok (.iconst 1, 1) := by decide +kernel
theorem dX0_takeNote_129 : decode cX0_takeNote 129 = .ok (.iadd, 1) := by decide +kernel
theorem dX0_takeNote_130 : decode cX0_takeNote 130 = .ok (.ior, 1) := by decide +kernel
theorem dX0_takeNote_131 : decode cX0_takeNote 131 = .ok (.istore 10, 2) := by decide +kernel
theorem dX0_takeNote_133 : decode cX0_takeNote 133 = .ok (.aload_n 3, 1) := by decide +kernel
theorem dX0_takeNote_134 : decode cX0_takeNote 134 = .ok (.iload 4, 2) := by decide +kernel
theorem dX0_takeNote_136 : decode cX0_takeNote 136 = .ok (.iload 10, 2) := by decide +kernel
theorem dX0_takeNote_138 : decode cX0_takeNote 138 = .ok (.iadd, 1) := by decide +kernel
theorem dX0_takeNote_139 : decode cX0_takeNote 139 = .ok (.iload 9, 2) := by decide +kernel
theorem dX0_takeNote_141 : decode cX0_takeNote 141 = .ok (.aload_n 0, 1) := by decide +kernel
theorem dX0_takeNote_142 : decode cX0_takeNote 142 = .ok (.iconst 0, 1) := by decide +kernel
theorem dX0_takeNote_143 : decode cX0_takeNote 143 = .ok (.invokevirtual 63, 3) := by decide +kernel
theorem dX0_takeNote_146 : decode cX0_takeNote 146 = .ok (.iadd, 1) := by decide +kernel
theorem dX0_takeNote_147 : decode cX0_takeNote 147 = .ok (.invokevirtual 47, 3) := by decide +kernel
theorem dX0_takeNote_150 : decode cX0_takeNote 150 = .ok (.iload 6, 2) := by decide +kernel
theorem dX0_takeNote_152 : decode cX0_takeNote 152 = .ok (.ifCond .eq 30, 3) := by decide +kernel
theorem dX0_takeNote_155 : decode cX0_takeNote 155 = .ok (.iload 7, 2) := by decide +kernel
theorem dX0_takeNote_157 : decode cX0_takeNote 157 = .ok (.ifCond .ne 11, 3) := by decide +kernel
theorem dX0_takeNote_160 : decode cX0_takeNote 160 = .ok (.iload 8, 2) := by decide +kernel
theorem dX0_takeNote_162 : decode cX0_takeNote 162 = .ok (.iload 6, 2) := by decide +kernel
theorem dX0_takeNote_164 : decode cX0_takeNote 164 = .ok (.iand, 1) := by decide +kernel
theorem dX0_takeNote_165 : decode cX0_takeNote 165 = .ok (.ifCond .ne 17, 3) := by decide +kernel
theorem dX0_takeNote_168 : decode cX0_takeNote 168 = .ok (.aload_n 3, 1) := by decide +kernel
theorem dX0_takeNote_169 : decode cX0_takeNote 169 = .ok (.iload 4, 2) := by decide +kernel
theorem dX0_takeNote_171 : decode cX0_takeNote 171 = .ok (.iload 8, 2) := by decide +kernel
theorem dX0_takeNote_173 : decode cX0_takeNote 173 = .ok (.iload 6, 2) := by decide +kernel
theorem dX0_takeNote_175 : decode cX0_takeNote 175 = .ok (.ior, 1) := by decide +kernel
theorem dX0_takeNote_176 : decode cX0_takeNote 176 = .ok (.iadd, 1) := by decide +kernel
theorem dX0_takeNote_177 : decode cX0_takeNote 177 = .ok (.iload 9, 2) := by decide +kernel
theorem dX0_takeNote_179 : decode cX0_takeNote 179 = .ok (.invokevirtual 47, 3) := by decide +kernel
theorem dX0_takeNote_182 : decode cX0_takeNote 182 = .ok (.iinc 8 1, 3) := by decide +kernel
theorem dX0_takeNote_185 : decode cX0_takeNote 185 = .ok (.goto (-120), 3) := by decide +kernel
theorem dX0_takeNote_188 : decode cX0_takeNote 188 = .ok (.return_, 1) := by decide +kernel
set_option maxRecDepth 20000 in
theorem ggX0_findPlace_X3_fact : GoodIn wsX0_findPlace wsX3_fact := goodIn_r _ [9, 10, 40, 41, 42, 43, 44, 45, 46] (by decide +kernel) (by decide +kernel)
set_option maxRecDepth 20000 in
theorem gX0_findPlace_X3_fact : GoodIn wsX0_findPlace (wsV RX0 83 RX3 yX3_fact wsX3_fact) := goodIn_app (goodIn_of _ (by decide +kernel)) ggX0_findPlace_X3_fact
set_option maxRecDepth 20000 in
theorem ggX0_findPlace_X3_allBits : GoodIn wsX0_findPlace wsX3_allBits := goodIn_r _ [14, 15, 6, 7, 8, 9, 10, 40, 41, 42, 43, 44, 45, 46] (by decide +kernel) (by decide +kernel)
set_option maxRecDepth 20000 in
theorem gX0_findPlace_X3_allBits : GoodIn wsX0_findPlace (wsV RX0 102 RX3 yX3_allBits wsX3_allBits) := goodIn_app (goodIn_of _ (by decide +kernel)) ggX0_findPlace_X3_allBits
set_option maxRecDepth 20000 in
theorem ggX0_findPlace_X1_costAt : GoodIn wsX0_findPlace wsX1_costAt := goodIn_r _ [20, 21, 22, 30, 31, 32, 33, 34, 35, 36, 37, 38, 39] (by decide +kernel) (by decide +kernel)
set_option maxRecDepth 20000 in
theorem gX0_findPlace_X1_costAt : GoodIn wsX0_findPlace (wsV RX0 87 RX1 yX1_costAt wsX1_costAt) := goodIn_app (goodIn_of _ (by decide +kernel)) ggX0_findPlace_X1_costAt
theorem dX0_findPlace_0 : decode cX0_findPlace 0 = .ok (.aload_n 0, 1) := by decide +kernel
theorem dX0_findPlace_1 : decode cX0_findPlace 1 = .ok (.getfield 33, 3) := by decide +kernel
theorem dX0_findPlace_4 : decode cX0_findPlace 4 = .ok (.iload_n 1, 1) := by decide +kernel
theorem dX0_findPlace_5 : decode cX0_findPlace 5 = .ok (.bipush 13, 2) := by decide +kernel
theorem dX0_findPlace_7 : decode cX0_findPlace 7 = .ok (.invokevirtual 83, 3) := by decide +kernel
theorem dX0_findPlace_10 : decode cX0_findPlace 10 = .ok (.istore_n 3, 1) := by decide +kernel
theorem dX0_findPlace_11 : decode cX0_findPlace 11 = .ok (.aload_n 0, 1) := by decide +kernel
theorem dX0_findPlace_12 : decode cX0_findPlace 12 = .ok (.getfield 33, 3) := by decide +kernel
theorem dX0_findPlace_15 : decode cX0_findPlace 15 = .ok (.iload_n 1, 1) := by decide +kernel
theorem dX0_findPlace_16 : decode cX0_findPlace 16 = .ok (.invokevirtual 102, 3) := by decide +kernel
theorem dX0_findPlace_19 : decode cX0_findPlace 19 = .ok (.istore 4, 2) := by decide +kernel
theorem dX0_findPlace_21 : decode cX0_findPlace 21 = .ok (.iconst 0, 1) := by decide +kernel
theorem dX0_findPlace_22 : decode cX0_findPlace 22 = .ok (.istore 5, 2) := by decide +kernel
theorem dX0_findPlace_24 : decode cX0_findPlace 24 = .ok (.iload 5, 2) := by decide +kernel
theorem dX0_findPlace_26 : decode cX0_findPlace 26 = .ok (.iload 4, 2) := by decide +kernel
theorem dX0_findPlace_28 : decode cX0_findPlace 28 = .ok (.if_icmp .gt 45, 3) := by decide +kernel
theorem dX0_findPlace_31 : decode cX0_findPlace 31 = .ok (.aload_n 2, 1) := by decide +kernel
theorem dX0_findPlace_32 : decode cX0_findPlace 32 = .ok (.iload_n 3, 1) := by decide +kernel
theorem dX0_findPlace_33 : decode cX0_findPlace 33 = .ok (.iload 5, 2) := by decide +kernel
theorem dX0_findPlace_35 : decode cX0_findPlace 35 = .ok (.iadd, 1) := by decide +kernel
theorem dX0_findPlace_36 : decode cX0_findPlace 36 = .ok (.invokevirtual 87, 3) := by decide +kernel
theorem dX0_findPlace_39 : decode cX0_findPlace 39 = .ok (.istore 6, 2) := by decide +kernel
theorem dX0_findPlace_41 : decode cX0_findPlace 41 = .ok (.iload 6, 2) := by decide +kernel
theorem dX0_findPlace_43 : decode cX0_findPlace 43 = .ok (.aload_n 2, 1) := by decide +kernel
theorem dX0_findPlace_44 : decode cX0_findPlace 44 = .ok (.getfield 51, 3) := by decide +kernel
theorem dX0_findPlace_47 : decode cX0_findPlace 47 = .ok (.if_icmp .ge 20, 3) := by decide +kernel
theorem dX0_findPlace_50 : decode cX0_findPlace 50 = .ok (.aload_n 2, 1) := by decide +kernel
theorem dX0_findPlace_51 : decode cX0_findPlace 51 = .ok (.iload 6, 2) := by decide +kernel
theorem dX0_findPlace_53 : decode cX0_findPlace 53 = .ok (.putfield 51, 3) := by decide +kernel
theorem dX0_findPlace_56 : decode cX0_findPlace 56 = .ok (.aload_n 2, 1) := by decide +kernel
theorem dX0_findPlace_57 : decode cX0_findPlace 57 = .ok (.iload_n 1, 1) := by decide +kernel
theorem dX0_findPlace_58 : decode cX0_findPlace 58 = .ok (.putfield 74, 3) := by decide +kernel
theorem dX0_findPlace_61 : decode cX0_findPlace 61 = .ok (.aload_n 2, 1) := by decide +kernel
theorem dX0_findPlace_62 : decode cX0_findPlace 62 = .ok (.iload 5, 2) := by decide +kernel
theorem dX0_findPlace_64 : decode cX0_findPlace 64 = .ok (.putfield 77, 3) := by decide +kernel
theorem dX0_findPlace_67 : decode cX0_findPlace 67 = .ok (.iinc 5 1, 3) := by decide +kernel
theorem dX0_findPlace_70 : decode cX0_findPlace 70 = .ok (.goto (-46), 3) := by decide +kernel
theorem dX0_findPlace_73 : decode cX0_findPlace 73 = .ok (.return_, 1) := by decide +kernel
theorem dX0_dropAnchor_0 : decode cX0_dropAnchor 0 = .ok (.aload_n 0, 1) := by decide +kernel
theorem dX0_dropAnchor_1 : decode cX0_dropAnchor 1 = .ok (.getfield 30, 3) := by decide +kernel
theorem dX0_dropAnchor_4 : decode cX0_dropAnchor 4 = .ok (.getfield 147, 3) := by decide +kernel
theorem dX0_dropAnchor_7 : decode cX0_dropAnchor 7 = .ok (.astore_n 2, 1) := by decide +kernel
theorem dX0_dropAnchor_8 : decode cX0_dropAnchor 8 = .ok (.aload_n 2, 1) := by decide +kernel
theorem dX0_dropAnchor_9 : decode cX0_dropAnchor 9 = .ok (.ifnull 14, 3) := by decide +kernel
theorem dX0_dropAnchor_12 : decode cX0_dropAnchor 12 = .ok (.aload_n 1, 1) := by decide +kernel
theorem dX0_dropAnchor_13 : decode cX0_dropAnchor 13 = .ok (.getfield 74, 3) := by decide +kernel
theorem dX0_dropAnchor_16 : decode cX0_dropAnchor 16 = .ok (.aload_n 2, 1) := by decide +kernel
theorem dX0_dropAnchor_17 : decode cX0_dropAnchor 17 = .ok (.getfield 74, 3) := by decide +kernel
theorem dX0_dropAnchor_20 : decode cX0_dropAnchor 20 = .ok (.if_icmp .ge 16, 3) := by decide +kernel
theorem dX0_dropAnchor_23 : decode cX0_dropAnchor 23 = .ok (.aload_n 1, 1) := by decide +kernel
theorem dX0_dropAnchor_24 : decode cX0_dropAnchor 24 = .ok (.aload_n 1, 1) := by decide +kernel
theorem dX0_dropAnchor_25 : decode cX0_dropAnchor 25 = .ok (.putfield 147, 3) := by decide +kernel
theorem dX0_dropAnchor_28 : decode cX0_dropAnchor 28 = .ok (.aload_n 1, 1) := by decide +kernel
theorem dX0_dropAnchor_29 : decode cX0_dropAnchor 29 = .ok (.iconst 1, 1) := by decide +kernel
theorem dX0_dropAnchor_30 : decode cX0_dropAnchor 30 = .ok (.putfield 80, 3) := by decide +kernel
theorem dX0_dropAnchor_33 : decode cX0_dropAnchor 33 = .ok (.goto 59, 3) := by decide +kernel
theorem dX0_dropAnchor_36 : decode cX0_dropAnchor 36 = .ok (.aload_n 1, 1) := by decide +kernel
theorem dX0_dropAnchor_37 : decode cX0_dropAnchor 37 = .ok (.getfield 74, 3) := by decide +kernel
theorem dX0_dropAnchor_40 : decode cX0_dropAnchor 40 = .ok (.aload_n 0, 1) := by decide +kernel
theorem dX0_dropAnchor_41 : decode cX0_dropAnchor 41 = .ok (.getfield 30, 3) := by decide +kernel
theorem dX0_dropAnchor_44 : decode cX0_dropAnchor 44 = .ok (.getfield 74, 3) := by decide +kernel
theorem dX0_dropAnchor_47 : decode cX0_dropAnchor 47 = .ok (.if_icmp .eq 29, 3) := by decide +kernel
theorem dX0_dropAnchor_50 : decode cX0_dropAnchor 50 = .ok (.aload_n 1, 1) := by decide +kernel
theorem dX0_dropAnchor_51 : decode cX0_dropAnchor 51 = .ok (.aload_n 1, 1) := by decide +kernel
theorem dX0_dropAnchor_52 : decode cX0_dropAnchor 52 = .ok (.putfield 147, 3) := by decide +kernel
theorem dX0_dropAnchor_55 : decode cX0_dropAnchor 55 = .ok (.aload_n 1, 1) := by decide +kernel
theorem dX0_dropAnchor_56 : decode cX0_dropAnchor 56 = .ok (.aload_n 2, 1) := by decide +kernel
theorem dX0_dropAnchor_57 : decode cX0_dropAnchor 57 = .ok (.putfield 150, 3) := by decide +kernel
theorem dX0_dropAnchor_60 : decode cX0_dropAnchor 60 = .ok (.aload_n 1, 1) := by decide +kernel
theorem dX0_dropAnchor_61 : decode cX0_dropAnchor 61 = .ok (.aload_n 0, 1) := by decide +kernel
theorem dX0_dropAnchor_62 : decode cX0_dropAnchor 62 = .ok (.getfield 30, 3) := by decide +kernel
theorem dX0_dropAnchor_65 : decode cX0_dropAnchor 65 = .ok (.getfield 80, 3) := by decide +kernel
theorem dX0_dropAnchor_68 : decode cX0_dropAnchor 68 = .ok (.iconst 1, 1) := by decide +kernel
theorem dX0_dropAnchor_69 : decode cX0_dropAnchor 69 = .ok (.iadd, 1) := by decide +kernel
theorem dX0_dropAnchor_70 : decode cX0_dropAnchor 70 = .ok (.putfield 80, 3) := by decide +kernel
theorem dX0_dropAnchor_73 : decode cX0_dropAnchor 73 = .ok (.goto 19, 3) := by decide +kernel
theorem dX0_dropAnchor_76 : decode cX0_dropAnchor 76 = .ok (.aload_n 1, 1) := by decide +kernel
theorem dX0_dropAnchor_77 : decode cX0_dropAnchor 77 = .ok (.aload_n 2, 1) := by decide +kernel
theorem dX0_dropAnchor_78 : decode cX0_dropAnchor 78 = .ok (.putfield 147, 3) := by decide +kernel
theorem dX0_dropAnchor_81 : decode cX0_dropAnchor 81 = .ok (.aload_n 1, 1) := by decide +kernel
theorem dX0_dropAnchor_82 : decode cX0_dropAnchor 82 = .ok (.aload_n 0, 1) := by decide +kernel
theorem dX0_dropAnchor_83 : decode cX0_dropAnchor 83 = .ok (.getfield 30, 3) := by decide +kernel
theorem dX0_dropAnchor_86 : decode cX0_dropAnchor 86 = .ok (.getfield 80, 3) := by decide +kernel
theorem dX0_dropAnchor_89 : decode cX0_dropAnchor 89 = .ok (.putfield 80, 3) := by decide +kernel
theorem dX0_dropAnchor_92 : decode cX0_dropAnchor 92 = .ok (.return_, 1) := by decide +kernel
theorem dX0_tempoBase_0 : decode cX0_tempoBase 0 = .ok (.aload_n 0, 1) := by decide +kernel
theorem dX0_tempoBase_1 : decode cX0_tempoBase 1 = .ok (.getfield 30, 3) := by decide +kernel
theorem dX0_tempoBase_4 : decode cX0_tempoBase 4 = .ok (.getfield 147, 3) := by decide +kernel
theorem dX0_tempoBase_7 : decode cX0_tempoBase 7 = .ok (.astore_n 1, 1) := by decide +kernel
theorem dX0_tempoBase_8 : decode cX0_tempoBase 8 = .ok (.aload_n 1, 1) := by decide +kernel
theorem dX0_tempoBase_9 : decode cX0_tempoBase 9 = .ok (.ifnull 10, 3) := by decide +kernel
theorem dX0_tempoBase_12 : decode cX0_tempoBase 12 = .ok (.aload_n 1, 1) := by decide +kernel
theorem dX0_tempoBase_13 : decode cX0_tempoBase 13 = .ok (.getfield 150, 3) := by decide +kernel
theorem dX0_tempoBase_16 : decode cX0_tempoBase 16 = .ok (.ifnonnull 5, 3) := by decide +kernel
theorem dX0_tempoBase_19 : decode cX0_tempoBase 19 = .ok (.aconst_null, 1) := by decide +kernel
theorem dX0_tempoBase_20 : decode cX0_tempoBase 20 = .ok (.areturn, 1) := by decide +kernel
theorem dX0_tempoBase_21 : decode cX0_tempoBase 21 = .ok (.aload_n 1, 1) := by decide +kernel
theorem dX0_tempoBase_22 : decode cX0_tempoBase 22 = .ok (.astore_n 2, 1) := by decide +kernel
theorem dX0_tempoBase_23 : decode cX0_tempoBase 23 = .ok (.iconst 0, 1) := by decide +kernel
theorem dX0_tempoBase_24 : decode cX0_tempoBase 24 = .ok (.istore_n 3, 1) := by decide +kernel
theorem dX0_tempoBase_25 : decode cX0_tempoBase 25 = .ok (.iload_n 3, 1) := by decide +kernel
theorem dX0_tempoBase_26 : decode cX0_tempoBase 26 = .ok (.iconst 4, 1) := by decide +kernel
theorem dX0_tempoBase_27 : decode cX0_tempoBase 27 = .ok (.if_icmp .ge 21, 3) := by decide +kernel
theorem dX0_tempoBase_30 : decode cX0_tempoBase 30 = .ok (.aload_n 2, 1) := by decide +kernel
theorem dX0_tempoBase_31 : decode cX0_tempoBase 31 = .ok (.getfield 150, 3) := by decide +kernel
theorem dX0_tempoBase_34 : decode cX0_tempoBase 34 = .ok (.ifnull 14, 3) := by decide +kernel
theorem dX0_tempoBase_37 : decode cX0_tempoBase 37 = .ok (.aload_n 2, 1) := by decide +kernel
theorem dX0_tempoBase_38 : decode cX0_tempoBase 38 = .ok (.getfield 150, 3) := by decide +kernel
theorem dX0_tempoBase_41 : decode cX0_tempoBase 41 = .ok (.astore_n 2, 1) := by decide +kernel
theorem dX0_tempoBase_42 : decode cX0_tempoBase 42 = .ok (.iinc 3 1, 3) := by decide +kernel
theorem dX0_tempoBase_45 : decode cX0_tempoBase 45 = .ok (.goto (-20), 3) := by decide +kernel
theorem dX0_tempoBase_48 : decode cX0_tempoBase 48 = .ok (.aload_n 2, 1) := by decide +kernel
theorem dX0_tempoBase_49 : decode cX0_tempoBase 49 = .ok (.areturn, 1) := by decide +kernel
set_option maxRecDepth 20000 in
theorem ggX0_beatOf_X3_fact : GoodIn wsX0_beatOf wsX3_fact := goodIn_r _ [7, 8, 26, 27, 28, 29, 30, 31, 32] (by decide +kernel) (by decide +kernel)
set_option maxRecDepth 20000 in
theorem gX0_beatOf_X3_fact : GoodIn wsX0_beatOf (wsV RX0 83 RX3 yX3_fact wsX3_fact) := goodIn_app (goodIn_of _ (by decide +kernel)) ggX0_beatOf_X3_fact
theorem dX0_beatOf_0 : decode cX0_beatOf 0 = .ok (.aload_n 0, 1) := by decide +kernel
theorem dX0_beatOf_1 : decode cX0_beatOf 1 = .ok (.getfield 33, 3) := by decide +kernel
theorem dX0_beatOf_4 : decode cX0_beatOf 4 = .ok (.aload_n 1, 1) := by decide +kernel
theorem dX0_beatOf_5 : decode cX0_beatOf 5 = .ok (.getfield 74, 3) := by decide +kernel
theorem dX0_beatOf_8 : decode cX0_beatOf 8 = .ok (.iconst 2, 1) := by decide +kernel
theorem dX0_beatOf_9 : decode cX0_beatOf 9 = .ok (.invokevirtual 83, 3) := by decide +kernel
theorem dX0_beatOf_12 : decode cX0_beatOf 12 = .ok (.ireturn, 1) := by decide +kernel
set_option maxRecDepth 20000 in
theorem ggX0_tempoUpper_X0_tempoBase : GoodIn wsX0_tempoUpper wsX0_tempoBase := goodIn_r _ [8, 1, 2, 9, 10, 11, 12, 13, 14, 15, 16, 17, 18, 19, 20, 21, 22, 23, 24, 25, 26] (by decide +kernel) (by decide +kernel)
set_option maxRecDepth 20000 in
theorem gX0_tempoUpper_X0_tempoBase : GoodIn wsX0_tempoUpper (wsV RX0 153 RX0 yX0_tempoBase wsX0_tempoBase) := goodIn_app (goodIn_of _ (by decide +kernel)) ggX0_tempoUpper_X0_tempoBase
theorem dX0_tempoUpper_0 : decode cX0_tempoUpper 0 = .ok (.aload_n 0, 1) := by decide +kernel
theorem dX0_tempoUpper_1 : decode cX0_tempoUpper 1 = .ok (.getfield 30, 3) := by decide +kernel
theorem dX0_tempoUpper_4 : decode cX0_tempoUpper 4 = .ok (.getfield 147, 3) := by decide +kernel
theorem dX0_tempoUpper_7 : decode cX0_tempoUpper 7 = .ok (.astore_n 1, 1) := by decide +kernel
theorem dX0_tempoUpper_8 : decode cX0_tempoUpper 8 = .ok (.aload_n 0, 1) := by decide +kernel
theorem dX0_tempoUpper_9 : decode cX0_tempoUpper 9 = .ok (.invokevirtual 153, 3) := by decide +kernel
theorem dX0_tempoUpper_12 : decode cX0_tempoUpper 12 = .ok (.astore_n 2, 1) := by decide +kernel
theorem dX0_tempoUpper_13 : decode cX0_tempoUpper 13 = .ok (.aload_n 2, 1) := by decide +kernel
theorem dX0_tempoUpper_14 : decode cX0_tempoUpper 14 = .ok (.ifnull 7, 3) := by decide +kernel
theorem dX0_tempoUpper_17 : decode cX0_tempoUpper 17 = .ok (.aload_n 1, 1) := by decide +kernel
theorem dX0_tempoUpper_18 : decode cX0_tempoUpper 18 = .ok (.ifnonnull 9, 3) := by decide +kernel
theorem dX0_tempoUpper_21 : decode cX0_tempoUpper 21 = .ok (.sipush 500, 3) := by decide +kernel
theorem dX0_tempoUpper_24 : decode cX0_tempoUpper 24 = .ok (.goto 12, 3) := by decide +kernel
theorem dX0_tempoUpper_27 : decode cX0_tempoUpper 27 = .ok (.aload_n 1, 1) := by decide +kernel
theorem dX0_tempoUpper_28 : decode cX0_tempoUpper 28 = .ok (.getfield 71, 3) := by decide +kernel
theorem dX0_tempoUpper_31 : decode cX0_tempoUpper 31 = .ok (.aload_n 2, 1) := by decide +kernel
theorem dX0_tempoUpper_32 : decode cX0_tempoUpper 32 = .ok (.getfield 71, 3) := by decide +kernel
theorem dX0_tempoUpper_35 : decode cX0_tempoUpper 35 = .ok (.isub, 1) := by decide +kernel
theorem dX0_tempoUpper_36 : decode cX0_tempoUpper 36 = .ok (.ireturn, 1) := by decide +kernel
set_option maxRecDepth 20000 in
theorem ggX0_tempoLower_X0_tempoBase : GoodIn wsX0_tempoLower wsX0_tempoBase := goodIn_r _ [7, 1, 2, 8, 21, 22, 23, 24, 25, 26, 27, 28, 29, 30, 31, 32, 33, 34, 35, 36, 37] (by decide +kernel) (by decide +kernel)
set_option maxRecDepth 20000 in
theorem gX0_tempoLower_X0_tempoBase : GoodIn wsX0_tempoLower (wsV RX0 153 RX0 yX0_tempoBase wsX0_tempoBase) := goodIn_app (goodIn_of _ (by decide +kernel)) ggX0_tempoLower_X0_tempoBase
set_option maxRecDepth 20000 in
theorem ggX0_tempoLower_X0_beatOf : GoodIn wsX0_tempoLower wsX0_beatOf := goodIn_r _ [12, 13, 14, 15, 16, 17, 18, 19, 20, 21, 22, 23, 24, 25, 26, 27, 28, 29, 30, 31, 32, 33, 34, 35, 36, 37, 38, 39, 40, 41, 42, 43, 44] (by decide +kernel) (by decide +kernel)
set_option maxRecDepth 20000 in
theorem gX0_tempoLower_X0_beatOf : GoodIn wsX0_tempoLower (wsV RX0 157 RX0 yX0_beatOf wsX0_beatOf) := goodIn_app (goodIn_of _ (by decide +kernel)) ggX0_tempoLower_X0_beatOf
theorem dX0_tempoLower_0 : decode cX0_tempoLower 0 = .ok (.aload_n 0, 1) := by decide +kernel
theorem dX0_tempoLower_1 : decode cX0_tempoLower 1 = .ok (.getfield 30, 3) := by decide +kernel
theorem dX0_tempoLower_4 : decode cX0_tempoLower 4 = .ok (.getfield 147, 3) := by decide +kernel
theorem dX0_tempoLower_7 : decode cX0_tempoLower 7 = .ok (.astore_n 1, 1) := by decide +kernel
theorem dX0_tempoLower_8 : decode cX0_tempoLower 8 = .ok (.aload_n 0, 1) := by decide +kernel
theorem dX0_tempoLower_9 : decode cX0_tempoLower 9 = .ok (.invokevirtual 153, 3) := by decide +kernel
theorem dX0_tempoLower_12 : decode cX0_tempoLower 12 = .ok (.astore_n 2, 1) := by decide +kernel
theorem dX0_tempoLower_13 : decode cX0_tempoLower 13 = .ok (.aload_n 2, 1) := by decide +kernel
theorem dX0_tempoLower_14 : decode cX0_tempoLower 14 = .ok (.ifnull 7, 3) := by decide +kernel
theorem dX0_tempoLower_17 : decode cX0_tempoLower 17 = .ok (.aload_n 1, 1) := by decide +kernel
theorem dX0_tempoLower_18 : decode cX0_tempoLower 18 = .ok (.ifnonnull 7, 3) := by decide +kernel
theorem dX0_tempoLower_21 : decode cX0_tempoLower 21 = .ok (.iconst 1, 1) := by decide +kernel
theorem dX0_tempoLower_22 : decode cX0_tempoLower 22 = .ok (.goto 14, 3) := by decide +kernel
theorem dX0_tempoLower_25 : decode cX0_tempoLower 25 = .ok (.aload_n 0, 1) := by decide +kernel
theorem dX0_tempoLower_26 : decode cX0_tempoLower 26 = .ok (.aload_n 1, 1) := by decide +kernel
theorem dX0_tempoLower_27 : decode cX0_tempoLower 27 = .ok (.invokevirtual 157, 3) := by decide +kernel
theorem dX0_tempoLower_30 : decode cX0_tempoLower 30 = .ok (.aload_n 0, 1) := by decide +kernel
theorem dX0_tempoLower_31 : decode cX0_tempoLower 31 = .ok (.aload_n 2, 1) := by decide +kernel
theorem dX0_tempoLower_32 : decode cX0_tempoLower 32 = .ok (.invokevirtual 157, 3) := by decide +kernel
theorem dX0_tempoLower_35 : decode cX0_tempoLower 35 = .ok (.isub, 1) := by decide +kernel
theorem dX0_tempoLower_36 : decode cX0_tempoLower 36 = .ok (.ireturn, 1) := by decide +kernel
set_option maxRecDepth 20000 in
theorem ggX0_timeOfBeat_X0_tempoLower : GoodIn wsX0_timeOfBeat wsX0_tempoLower := goodIn_r _ [9, 1, 2, 10, 11, 12, 8, 13, 14, 15, 16, 17, 18, 19, 20, 21, 22, 23, 24, 25, 26, 35, 36, 37, 38, 39, 40, 41, 42, 43, 44, 45, 46, 47, 48, 49, 50, 51, 52, 53, 54, 55, 56, 57, 58] (by decide +kernel) (by decide +kernel)
set_option maxRecDepth 20000 in
theorem gX0_timeOfBeat_X0_tempoLower : GoodIn wsX0_timeOfBeat (wsV RX0 163 RX0 yX0_tempoLower wsX0_tempoLower) := goodIn_app (goodIn_of _ (by decide +kernel)) ggX0_timeOfBeat_X0_tempoLower
set_option maxRecDepth 20000 in
theorem ggX0_timeOfBeat_X0_tempoUpper : GoodIn wsX0_timeOfBeat wsX0_tempoUpper := goodIn_r _ [30, 1, 2, 4, 10, 11, 12, 8, 13, 14, 35, 36, 37, 38, 39, 40, 41, 42, 43, 44, 45, 46, 47, 48, 49, 50, 51] (by decide +kernel) (by decide +kernel)
set_option maxRecDepth 20000 in
theorem gX0_timeOfBeat_X0_tempoUpper : GoodIn wsX0_timeOfBeat (wsV RX0 167 RX0 yX0_tempoUpper wsX0_tempoUpper) := goodIn_app (goodIn_of _ (by decide +kernel)) ggX0_timeOfBeat_X0_tempoUpper
set_option maxRecDepth 20000 in
theorem ggX0_timeOfBeat_X0_beatOf : GoodIn wsX0_timeOfBeat wsX0_beatOf := goodIn_r _ [18, 19, 20, 21, 22, 23, 24, 25, 26, 35, 36, 37, 38, 39, 40, 41, 42, 43, 44, 45, 46, 47, 48, 49, 50, 51, 52, 53, 54, 55, 56, 57, 58] (by decide +kernel) (by decide +kernel)
set_option maxRecDepth 20000 in
theorem gX0_timeOfBeat_X0_beatOf : GoodIn wsX0_timeOfBeat (wsV RX0 157 RX0 yX0_beatOf wsX0_beatOf) := goodIn_app (goodIn_of _ (by decide +kernel)) ggX0_timeOfBeat_X0_beatOf
set_option maxRecDepth 20000 in
theorem ggX0_timeOfBeat_J9_floorDiv_f86c9 : GoodIn wsX0_timeOfBeat wsJ9_floorDiv_f86c9 := goodIn_r _ [34] (by decide +kernel) (by decide +kernel)
set_option maxRecDepth 20000 in
theorem gX0_timeOfBeat_J9_floorDiv_f86c9 : GoodIn wsX0_timeOfBeat (va_wsS RX0 170 yJ9_floorDiv_f86c9 wsJ9_floorDiv_f86c9) := goodIn_app (goodIn_of _ (by decide +kernel)) ggX0_timeOfBeat_J9_floorDiv_f86c9
theorem dX0_timeOfBeat_0 : decode cX0_timeOfBeat 0 = .ok (.aload_n 0, 1) := by decide +kernel
theorem dX0_timeOfBeat_1 : decode cX0_timeOfBeat 1 = .ok (.getfield 30, 3) := by decide +kernel
theorem dX0_timeOfBeat_4 : decode cX0_timeOfBeat 4 = .ok (.getfield 147, 3) := by decide +kernel
theorem dX0_timeOfBeat_7 : decode cX0_timeOfBeat 7 = .ok (.astore_n 2, 1) := by decide +kernel
theorem dX0_timeOfBeat_8 : decode cX0_timeOfBeat 8 = .ok (.aload_n 2, 1) := by decide +kernel
theorem dX0_timeOfBeat_9 : decode cX0_timeOfBeat 9 = .ok (.ifnonnull 7, 3) := by decide +kernel
theorem dX0_timeOfBeat_12 : decode cX0_timeOfBeat 12 = .ok (.ldc2_w 161, 3) := by decide +kernel
theorem dX0_timeOfBeat_15 : decode cX0_timeOfBeat 15 = .ok (.lreturn, 1) := by decide +kernel
theorem dX0_timeOfBeat_16 : decode cX0_timeOfBeat 16 = .ok (.aload_n 0, 1) := by decide +kernel
theorem dX0_timeOfBeat_17 : decode cX0_timeOfBeat 17 = .ok (.invokevirtual 163, 3) := by decide +kernel
theorem dX0_timeOfBeat_20 : decode cX0_timeOfBeat 20 = .ok (.i2l, 1) := by decide +kernel
theorem dX0_timeOfBeat_21 : decode cX0_timeOfBeat 21 = .ok (.lstore_n 3, 1) := by decide +kernel
theorem dX0_timeOfBeat_22 : decode cX0_timeOfBeat 22 = .ok (.aload_n 0, 1) := by decide +kernel
theorem dX0_timeOfBeat_23 : decode cX0_timeOfBeat 23 = .ok (.invokevirtual 167, 3) := by decide +kernel
theorem dX0_timeOfBeat_26 : decode cX0_timeOfBeat 26 = .ok (.i2l, 1) := by decide +kernel
theorem dX0_timeOfBeat_27 : decode cX0_timeOfBeat 27 = .ok (.iload_n 1, 1) := by decide +kernel
theorem dX0_timeOfBeat_28 : decode cX0_timeOfBeat 28 = .ok (.aload_n 0, 1) := by decide +kernel
theorem dX0_timeOfBeat_29 : decode cX0_timeOfBeat 29 = .ok (.aload_n 2, 1) := by decide +kernel
theorem dX0_timeOfBeat_30 : decode cX0_timeOfBeat 30 = .ok (.invokevirtual 157, 3) := by decide +kernel
theorem dX0_timeOfBeat_33 : decode cX0_timeOfBeat 33 = .ok (.isub, 1) := by decide +kernel
theorem dX0_timeOfBeat_34 : decode cX0_timeOfBeat 34 = .ok (.i2l, 1) := by decide +kernel
theorem dX0_timeOfBeat_35 : decode cX0_timeOfBeat 35 = .ok (.lmul, 1) := by decide +kernel
theorem dX0_timeOfBeat_36 : decode cX0_timeOfBeat 36 = .ok (.lstore 5, 2) := by decide +kernel
theorem dX0_timeOfBeat_38 : decode cX0_timeOfBeat 38 = .ok (.lload_n 3, 1) := by decide +kernel
theorem dX0_timeOfBeat_39 : decode cX0_timeOfBeat 39 = .ok (.lconst 0, 1) := by decide +kernel
theorem dX0_timeOfBeat_40 : decode cX0_timeOfBeat 40 = .ok (.lcmp, 1) := by decide +kernel
theorem dX0_timeOfBeat_41 : decode cX0_timeOfBeat 41 = .ok (.ifCond .gt 11, 3) := by decide +kernel
theorem dX0_timeOfBeat_44 : decode cX0_timeOfBeat 44 = .ok (.aload_n 2, 1) := by decide +kernel
theorem dX0_timeOfBeat_45 : decode cX0_timeOfBeat 45 = .ok (.getfield 71, 3) := by decide +kernel
theorem dX0_timeOfBeat_48 : decode cX0_timeOfBeat 48 = .ok (.i2l, 1) := by decide +kernel
theorem dX0_timeOfBeat_49 : decode cX0_timeOfBeat 49 = .ok (.goto 15, 3) := by decide +kernel
theorem dX0_timeOfBeat_52 : decode cX0_timeOfBeat 52 = .ok (.aload_n 2, 1) := by decide +kernel
theorem dX0_timeOfBeat_53 : decode cX0_timeOfBeat 53 = .ok (.getfield 71, 3) := by decide +kernel
theorem dX0_timeOfBeat_56 : decode cX0_timeOfBeat 56 = .ok (.i2l, 1) := by decide +kernel
theorem dX0_timeOfBeat_57 : decode cX0_timeOfBeat 57 = .ok (.lload 5, 2) := by decide +kernel
theorem dX0_timeOfBeat_59 : decode cX0_timeOfBeat 59 = .ok (.lload_n 3, 1) := by decide +kernel
theorem dX0_timeOfBeat_60 : decode cX0_timeOfBeat 60 = .ok (.invokestatic 170, 3) := by decide +kernel
theorem dX0_timeOfBeat_63 : decode cX0_timeOfBeat 63 = .ok (.ladd, 1) := by decide +kernel
theorem dX0_timeOfBeat_64 : decode cX0_timeOfBeat 64 = .ok (.lreturn, 1) := by decide +kernel
