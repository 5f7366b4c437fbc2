theorem dX3_init_0 : decode cX3_init 0 = .ok (.aload_n 0, 1) := by decide +kernel
theorem dX3_init_1 : decode cX3_init 1 = .ok (.invokespecial 5, 3) := by decide +kernel
theorem dX3_init_4 : decode cX3_init 4 = .ok (.aload_n 0, 1) := by decide +kernel
theorem dX3_init_5 : decode cX3_init 5 = .ok (.sipush 1400, 3) := by decide +kernel
theorem dX3_init_8 : decode cX3_init 8 = .ok (.newarray .int, 2) := by decide +kernel
theorem dX3_init_10 : decode cX3_init 10 = .ok (.putfield 11, 3) := by decide +kernel
theorem dX3_init_13 : decode cX3_init 13 = .ok (.return_, 1) := by decide +kernel
theorem dX3_clear_0 : decode cX3_clear 0 = .ok (.aload_n 0, 1) := by decide +kernel
theorem dX3_clear_1 : decode cX3_clear 1 = .ok (.iconst 0, 1) := by decide +kernel
theorem dX3_clear_2 : decode cX3_clear 2 = .ok (.putfield 15, 3) := by decide +kernel
theorem dX3_clear_5 : decode cX3_clear 5 = .ok (.aload_n 0, 1) := by decide +kernel
theorem dX3_clear_6 : decode cX3_clear 6 = .ok (.iconst 0, 1) := by decide +kernel
theorem dX3_clear_7 : decode cX3_clear 7 = .ok (.putfield 19, 3) := by decide +kernel
theorem dX3_clear_10 : decode cX3_clear 10 = .ok (.aload_n 0, 1) := by decide +kernel
theorem dX3_clear_11 : decode cX3_clear 11 = .ok (.iconst 0, 1) := by decide +kernel
theorem dX3_clear_12 : decode cX3_clear 12 = .ok (.putfield 22, 3) := by decide +kernel
theorem dX3_clear_15 : decode cX3_clear 15 = .ok (.aload_n 0, 1) := by decide +kernel
theorem dX3_clear_16 : decode cX3_clear 16 = .ok (.iconst 0, 1) := by decide +kernel
theorem dX3_clear_17 : decode cX3_clear 17 = .ok (.putfield 25, 3) := by decide +kernel
theorem dX3_clear_20 : decode cX3_clear 20 = .ok (.aload_n 0, 1) := by decide +kernel
theorem dX3_clear_21 : decode cX3_clear 21 = .ok (.iconst 0, 1) := by decide +kernel
theorem dX3_clear_22 : decode cX3_clear 22 = .ok (.putfield 28, 3) := by decide +kernel
theorem dX3_clear_25 : decode cX3_clear 25 = .ok (.aload_n 0, 1) := by decide +kernel
theorem dX3_clear_26 : decode cX3_clear 26 = .ok (.iconst 0, 1) := by decide +kernel
theorem dX3_clear_27 : decode cX3_clear 27 = .ok (.putfield 31, 3) := by decide +kernel
theorem dX3_clear_30 : decode cX3_clear 30 = .ok (.return_, 1) := by decide +kernel
theorem dX3_has_0 : decode cX3_has 0 = .ok (.iload_n 1, 1) := by decide +kernel
theorem dX3_has_1 : decode cX3_has 1 = .ok (.ifCond .lt 15, 3) := by decide +kernel
theorem dX3_has_4 : decode cX3_has 4 = .ok (.iload_n 1, 1) := by decide +kernel
theorem dX3_has_5 : decode cX3_has 5 = .ok (.aload_n 0, 1) := by decide +kernel
theorem dX3_has_6 : decode cX3_has 6 = .ok (.getfield 15, 3) := by decide +kernel
theorem dX3_has_9 : decode cX3_has 9 = .ok (.if_icmp .ge 7, 3) := by decide +kernel
theorem dX3_has_12 : decode cX3_has 12 = .ok (.iconst 1, 1) := by decide +kernel
theorem dX3_has_13 : decode cX3_has 13 = .ok (.goto 4, 3) := by decide +kernel
theorem dX3_has_16 : decode cX3_has 16 = .ok (.iconst 0, 1) := by decide +kernel
theorem dX3_has_17 : decode cX3_has 17 = .ok (.ireturn, 1) := by decide +kernel
theorem dX3_fact_0 : decode cX3_fact 0 = .ok (.iload_n 1, 1) := by decide +kernel
theorem dX3_fact_1 : decode cX3_fact 1 = .ok (.ifCond .lt 19, 3) := by decide +kernel
theorem dX3_fact_4 : decode cX3_fact 4 = .ok (.iload_n 1, 1) := by decide +kernel
theorem dX3_fact_5 : decode cX3_fact 5 = .ok (.bipush 100, 2) := by decide +kernel
theorem dX3_fact_7 : decode cX3_fact 7 = .ok (.if_icmp .ge 13, 3) := by decide +kernel
theorem dX3_fact_10 : decode cX3_fact 10 = .ok (.iload_n 2, 1) := by decide +kernel
theorem dX3_fact_11 : decode cX3_fact 11 = .ok (.ifCond .lt 9, 3) := by decide +kernel
theorem dX3_fact_14 : decode cX3_fact 14 = .ok (.iload_n 2, 1) := by decide +kernel
theorem dX3_fact_15 : decode cX3_fact 15 = .ok (.bipush 14, 2) := by decide +kernel
theorem dX3_fact_17 : decode cX3_fact 17 = .ok (.if_icmp .lt 5, 3) := by decide +kernel
theorem dX3_fact_20 : decode cX3_fact 20 = .ok (.iconst (-1), 1) := by decide +kernel
theorem dX3_fact_21 : decode cX3_fact 21 = .ok (.ireturn, 1) := by decide +kernel
theorem dX3_fact_22 : decode cX3_fact 22 = .ok (.aload_n 0, 1) := by decide +kernel
theorem dX3_fact_23 : decode cX3_fact 23 = .ok (.getfield 11, 3) := by decide +kernel
theorem dX3_fact_26 : decode cX3_fact 26 = .ok (.iload_n 1, 1) := by decide +kernel
theorem dX3_fact_27 : decode cX3_fact 27 = .ok (.bipush 14, 2) := by decide +kernel
theorem dX3_fact_29 : decode cX3_fact 29 = .ok (.imul, 1) := by decide +kernel
theorem dX3_fact_30 : decode cX3_fact 30 = .ok (.iload_n 2, 1) := by decide +kernel
theorem dX3_fact_31 : decode cX3_fact 31 = .ok (.iadd, 1) := by decide +kernel
theorem dX3_fact_32 : decode cX3_fact 32 = .ok (.iaload, 1) := by decide +kernel
theorem dX3_fact_33 : decode cX3_fact 33 = .ok (.ireturn, 1) := by decide +kernel
theorem dX3_write_0 : decode cX3_write 0 = .ok (.iload_n 1, 1) := by decide +kernel
theorem dX3_write_1 : decode cX3_write 1 = .ok (.ifCond .lt 31, 3) := by decide +kernel
theorem dX3_write_4 : decode cX3_write 4 = .ok (.iload_n 1, 1) := by decide +kernel
theorem dX3_write_5 : decode cX3_write 5 = .ok (.bipush 100, 2) := by decide +kernel
theorem dX3_write_7 : decode cX3_write 7 = .ok (.if_icmp .ge 25, 3) := by decide +kernel
theorem dX3_write_10 : decode cX3_write 10 = .ok (.iload_n 2, 1) := by decide +kernel
theorem dX3_write_11 : decode cX3_write 11 = .ok (.ifCond .lt 21, 3) := by decide +kernel
theorem dX3_write_14 : decode cX3_write 14 = .ok (.iload_n 2, 1) := by decide +kernel
theorem dX3_write_15 : decode cX3_write 15 = .ok (.bipush 14, 2) := by decide +kernel
theorem dX3_write_17 : decode cX3_write 17 = .ok (.if_icmp .ge 15, 3) := by decide +kernel
theorem dX3_write_20 : decode cX3_write 20 = .ok (.aload_n 0, 1) := by decide +kernel
theorem dX3_write_21 : decode cX3_write 21 = .ok (.getfield 11, 3) := by decide +kernel
theorem dX3_write_24 : decode cX3_write 24 = .ok (.iload_n 1, 1) := by decide +kernel
theorem dX3_write_25 : decode cX3_write 25 = .ok (.bipush 14, 2) := by decide +kernel
theorem dX3_write_27 : decode cX3_write 27 = .ok (.imul, 1) := by decide +kernel
theorem dX3_write_28 : decode cX3_write 28 = .ok (.iload_n 2, 1) := by decide +kernel
theorem dX3_write_29 : decode cX3_write 29 = .ok (.iadd, 1) := by decide +kernel
theorem dX3_write_30 : decode cX3_write 30 = .ok (.iload_n 3, 1) := by decide +kernel
theorem dX3_write_31 : decode cX3_write 31 = .ok (.iastore, 1) := by decide +kernel
theorem dX3_write_32 : decode cX3_write 32 = .ok (.return_, 1) := by decide +kernel
theorem dX3_isFull_0 : decode cX3_isFull 0 = .ok (.aload_n 0, 1) := by decide +kernel
theorem dX3_isFull_1 : decode cX3_isFull 1 = .ok (.getfield 15, 3) := by decide +kernel
theorem dX3_isFull_4 : decode cX3_isFull 4 = .ok (.bipush 100, 2) := by decide +kernel
theorem dX3_isFull_6 : decode cX3_isFull 6 = .ok (.if_icmp .lt 7, 3) := by decide +kernel
theorem dX3_isFull_9 : decode cX3_isFull 9 = .ok (.iconst 1, 1) := by decide +kernel
theorem dX3_isFull_10 : decode cX3_isFull 10 = .ok (.goto 4, 3) := by decide +kernel
theorem dX3_isFull_13 : decode cX3_isFull 13 = .ok (.iconst 0, 1) := by decide +kernel
theorem dX3_isFull_14 : decode cX3_isFull 14 = .ok (.ireturn, 1) := by decide +kernel
set_option maxRecDepth 20000 in
theorem ggX3_openEvent_X3_write : GoodIn wsX3_openEvent wsX3_write := goodIn_r _ [10, 11, 12, 13, 14, 15, 16, 17, 18] (by decide +kernel) (by decide +kernel)
set_option maxRecDepth 20000 in
theorem gX3_openEvent_X3_write : GoodIn wsX3_openEvent (wsV RX3 34 RX3 yX3_write wsX3_write) := goodIn_app (goodIn_of _ (by decide +kernel)) ggX3_openEvent_X3_write
theorem dX3_openEvent_0 : decode cX3_openEvent 0 = .ok (.aload_n 0, 1) := by decide +kernel
theorem dX3_openEvent_1 : decode cX3_openEvent 1 = .ok (.aload_n 0, 1) := by decide +kernel
theorem dX3_openEvent_2 : decode cX3_openEvent 2 = .ok (.getfield 15, 3) := by decide +kernel
theorem dX3_openEvent_5 : decode cX3_openEvent 5 = .ok (.iconst 0, 1) := by decide +kernel
theorem dX3_openEvent_6 : decode cX3_openEvent 6 = .ok (.iload_n 1, 1) := by decide +kernel
theorem dX3_openEvent_7 : decode cX3_openEvent 7 = .ok (.invokevirtual 34, 3) := by decide +kernel
theorem dX3_openEvent_10 : decode cX3_openEvent 10 = .ok (.aload_n 0, 1) := by decide +kernel
theorem dX3_openEvent_11 : decode cX3_openEvent 11 = .ok (.aload_n 0, 1) := by decide +kernel
theorem dX3_openEvent_12 : decode cX3_openEvent 12 = .ok (.getfield 15, 3) := by decide +kernel
theorem dX3_openEvent_15 : decode cX3_openEvent 15 = .ok (.iconst 1, 1) := by decide +kernel
theorem dX3_openEvent_16 : decode cX3_openEvent 16 = .ok (.iconst 0, 1) := by decide +kernel
theorem dX3_openEvent_17 : decode cX3_openEvent 17 = .ok (.invokevirtual 34, 3) := by decide +kernel
theorem dX3_openEvent_20 : decode cX3_openEvent 20 = .ok (.aload_n 0, 1) := by decide +kernel
theorem dX3_openEvent_21 : decode cX3_openEvent 21 = .ok (.aload_n 0, 1) := by decide +kernel
theorem dX3_openEvent_22 : decode cX3_openEvent 22 = .ok (.getfield 15, 3) := by decide +kernel
theorem dX3_openEvent_25 : decode cX3_openEvent 25 = .ok (.iconst 2, 1) := by decide +kernel
theorem dX3_openEvent_26 : decode cX3_openEvent 26 = .ok (.aload_n 0, 1) := by decide +kernel
theorem dX3_openEvent_27 : decode cX3_openEvent 27 = .ok (.getfield 19, 3) := by decide +kernel
theorem dX3_openEvent_30 : decode cX3_openEvent 30 = .ok (.invokevirtual 34, 3) := by decide +kernel
theorem dX3_openEvent_33 : decode cX3_openEvent 33 = .ok (.aload_n 0, 1) := by decide +kernel
theorem dX3_openEvent_34 : decode cX3_openEvent 34 = .ok (.aload_n 0, 1) := by decide +kernel
theorem dX3_openEvent_35 : decode cX3_openEvent 35 = .ok (.getfield 15, 3) := by decide +kernel
theorem dX3_openEvent_38 : decode cX3_openEvent 38 = .ok (.iconst 4, 1) := by decide +kernel
theorem dX3_openEvent_39 : decode cX3_openEvent 39 = .ok (.aload_n 0, 1) := by decide +kernel
theorem dX3_openEvent_40 : decode cX3_openEvent 40 = .ok (.getfield 28, 3) := by decide +kernel
theorem dX3_openEvent_43 : decode cX3_openEvent 43 = .ok (.invokevirtual 34, 3) := by decide +kernel
theorem dX3_openEvent_46 : decode cX3_openEvent 46 = .ok (.aload_n 0, 1) := by decide +kernel
theorem dX3_openEvent_47 : decode cX3_openEvent 47 = .ok (.aload_n 0, 1) := by decide +kernel
theorem dX3_openEvent_48 : decode cX3_openEvent 48 = .ok (.getfield 15, 3) := by decide +kernel
theorem dX3_openEvent_51 : decode cX3_openEvent 51 = .ok (.iconst 5, 1) := by decide +kernel
theorem dX3_openEvent_52 : decode cX3_openEvent 52 = .ok (.aload_n 0, 1) := by decide +kernel
theorem dX3_openEvent_53 : decode cX3_openEvent 53 = .ok (.getfield 31, 3) := by decide +kernel
theorem dX3_openEvent_56 : decode cX3_openEvent 56 = .ok (.invokevirtual 34, 3) := by decide +kernel
theorem dX3_openEvent_59 : decode cX3_openEvent 59 = .ok (.aload_n 0, 1) := by decide +kernel
theorem dX3_openEvent_60 : decode cX3_openEvent 60 = .ok (.aload_n 0, 1) := by decide +kernel
theorem dX3_openEvent_61 : decode cX3_openEvent 61 = .ok (.getfield 15, 3) := by decide +kernel
theorem dX3_openEvent_64 : decode cX3_openEvent 64 = .ok (.bipush 6, 2) := by decide +kernel
theorem dX3_openEvent_66 : decode cX3_openEvent 66 = .ok (.iload_n 2, 1) := by decide +kernel
theorem dX3_openEvent_67 : decode cX3_openEvent 67 = .ok (.ifCond .eq 7, 3) := by decide +kernel
theorem dX3_openEvent_70 : decode cX3_openEvent 70 = .ok (.iconst 1, 1) := by decide +kernel
theorem dX3_openEvent_71 : decode cX3_openEvent 71 = .ok (.goto 4, 3) := by decide +kernel
theorem dX3_openEvent_74 : decode cX3_openEvent 74 = .ok (.iconst 0, 1) := by decide +kernel
theorem dX3_openEvent_75 : decode cX3_openEvent 75 = .ok (.invokevirtual 34, 3) := by decide +kernel
theorem dX3_openEvent_78 : decode cX3_openEvent 78 = .ok (.aload_n 0, 1) := by decide +kernel
theorem dX3_openEvent_79 : decode cX3_openEvent 79 = .ok (.aload_n 0, 1) := by decide +kernel
theorem dX3_openEvent_80 : decode cX3_openEvent 80 = .ok (.getfield 15, 3) := by decide +kernel
theorem dX3_openEvent_83 : decode cX3_openEvent 83 = .ok (.bipush 7, 2) := by decide +kernel
theorem dX3_openEvent_85 : decode cX3_openEvent 85 = .ok (.iload_n 3, 1) := by decide +kernel
theorem dX3_openEvent_86 : decode cX3_openEvent 86 = .ok (.ifCond .eq 7, 3) := by decide +kernel
theorem dX3_openEvent_89 : decode cX3_openEvent 89 = .ok (.iconst 1, 1) := by decide +kernel
theorem dX3_openEvent_90 : decode cX3_openEvent 90 = .ok (.goto 4, 3) := by decide +kernel
theorem dX3_openEvent_93 : decode cX3_openEvent 93 = .ok (.iconst 0, 1) := by decide +kernel
theorem dX3_openEvent_94 : decode cX3_openEvent 94 = .ok (.invokevirtual 34, 3) := by decide +kernel
theorem dX3_openEvent_97 : decode cX3_openEvent 97 = .ok (.aload_n 0, 1) := by decide +kernel
theorem dX3_openEvent_98 : decode cX3_openEvent 98 = .ok (.aload_n 0, 1) := by decide +kernel
theorem dX3_openEvent_99 : decode cX3_openEvent 99 = .ok (.getfield 15, 3) := by decide +kernel
theorem dX3_openEvent_102 : decode cX3_openEvent 102 = .ok (.bipush 8, 2) := by decide +kernel
theorem dX3_openEvent_104 : decode cX3_openEvent 104 = .ok (.iconst (-1), 1) := by decide +kernel
theorem dX3_openEvent_105 : decode cX3_openEvent 105 = .ok (.invokevirtual 34, 3) := by decide +kernel
theorem dX3_openEvent_108 : decode cX3_openEvent 108 = .ok (.aload_n 0, 1) := by decide +kernel
theorem dX3_openEvent_109 : decode cX3_openEvent 109 = .ok (.aload_n 0, 1) := by decide +kernel
theorem dX3_openEvent_110 : decode cX3_openEvent 110 = .ok (.getfield 15, 3) := by decide +kernel
theorem dX3_openEvent_113 : decode cX3_openEvent 113 = .ok (.bipush 13, 2) := by decide +kernel
theorem dX3_openEvent_115 : decode cX3_openEvent 115 = .ok (.aload_n 0, 1) := by decide +kernel
theorem dX3_openEvent_116 : decode cX3_openEvent 116 = .ok (.getfield 25, 3) := by decide +kernel
theorem dX3_openEvent_119 : decode cX3_openEvent 119 = .ok (.invokevirtual 34, 3) := by decide +kernel
theorem dX3_openEvent_122 : decode cX3_openEvent 122 = .ok (.return_, 1) := by decide +kernel
set_option maxRecDepth 20000 in
theorem ggX3_openPitches_X3_fact : GoodIn wsX3_openPitches wsX3_fact := goodIn_r _ [6, 7, 8, 9, 10, 11, 12, 13, 14] (by decide +kernel) (by decide +kernel)
set_option maxRecDepth 20000 in
theorem gX3_openPitches_X3_fact : GoodIn wsX3_openPitches (wsV RX3 38 RX3 yX3_fact wsX3_fact) := goodIn_app (goodIn_of _ (by decide +kernel)) ggX3_openPitches_X3_fact
theorem dX3_openPitches_0 : decode cX3_openPitches 0 = .ok (.aload_n 0, 1) := by decide +kernel
theorem dX3_openPitches_1 : decode cX3_openPitches 1 = .ok (.aload_n 0, 1) := by decide +kernel
theorem dX3_openPitches_2 : decode cX3_openPitches 2 = .ok (.getfield 15, 3) := by decide +kernel
theorem dX3_openPitches_5 : decode cX3_openPitches 5 = .ok (.iconst 1, 1) := by decide +kernel
theorem dX3_openPitches_6 : decode cX3_openPitches 6 = .ok (.invokevirtual 38, 3) := by decide +kernel
theorem dX3_openPitches_9 : decode cX3_openPitches 9 = .ok (.ireturn, 1) := by decide +kernel
set_option maxRecDepth 20000 in
theorem ggX3_openHasPitch_X3_openPitches : GoodIn wsX3_openHasPitch wsX3_openPitches := goodIn_r _ [6, 1, 7, 8, 9, 5, 10, 11, 12, 13, 14, 15, 16, 17, 18] (by decide +kernel) (by decide +kernel)
set_option maxRecDepth 20000 in
theorem gX3_openHasPitch_X3_openPitches : GoodIn wsX3_openHasPitch (wsV RX3 42 RX3 yX3_openPitches wsX3_openPitches) := goodIn_app (goodIn_of _ (by decide +kernel)) ggX3_openHasPitch_X3_openPitches
set_option maxRecDepth 20000 in
theorem ggX3_openHasPitch_X3_fact : GoodIn wsX3_openHasPitch wsX3_fact := goodIn_r _ [10, 11, 12, 13, 14, 15, 16, 17, 18] (by decide +kernel) (by decide +kernel)
set_option maxRecDepth 20000 in
theorem gX3_openHasPitch_X3_fact : GoodIn wsX3_openHasPitch (wsV RX3 38 RX3 yX3_fact wsX3_fact) := goodIn_app (goodIn_of _ (by decide +kernel)) ggX3_openHasPitch_X3_fact
theorem dX3_openHasPitch_0 : decode cX3_openHasPitch 0 = .ok (.aload_n 0, 1) := by decide +kernel
theorem dX3_openHasPitch_1 : decode cX3_openHasPitch 1 = .ok (.invokevirtual 42, 3) := by decide +kernel
theorem dX3_openHasPitch_4 : decode cX3_openHasPitch 4 = .ok (.istore_n 2, 1) := by decide +kernel
theorem dX3_openHasPitch_5 : decode cX3_openHasPitch 5 = .ok (.iconst 0, 1) := by decide +kernel
theorem dX3_openHasPitch_6 : decode cX3_openHasPitch 6 = .ok (.istore_n 3, 1) := by decide +kernel
theorem dX3_openHasPitch_7 : decode cX3_openHasPitch 7 = .ok (.iload_n 3, 1) := by decide +kernel
theorem dX3_openHasPitch_8 : decode cX3_openHasPitch 8 = .ok (.iload_n 2, 1) := by decide +kernel
theorem dX3_openHasPitch_9 : decode cX3_openHasPitch 9 = .ok (.if_icmp .ge 27, 3) := by decide +kernel
theorem dX3_openHasPitch_12 : decode cX3_openHasPitch 12 = .ok (.aload_n 0, 1) := by decide +kernel
theorem dX3_openHasPitch_13 : decode cX3_openHasPitch 13 = .ok (.aload_n 0, 1) := by decide +kernel
theorem dX3_openHasPitch_14 : decode cX3_openHasPitch 14 = .ok (.getfield 15, 3) := by decide +kernel
theorem dX3_openHasPitch_17 : decode cX3_openHasPitch 17 = .ok (.bipush 9, 2) := by decide +kernel
theorem dX3_openHasPitch_19 : decode cX3_openHasPitch 19 = .ok (.iload_n 3, 1) := by decide +kernel
theorem dX3_openHasPitch_20 : decode cX3_openHasPitch 20 = .ok (.iadd, 1) := by decide +kernel
theorem dX3_openHasPitch_21 : decode cX3_openHasPitch 21 = .ok (.invokevirtual 38, 3) := by decide +kernel
theorem dX3_openHasPitch_24 : decode cX3_openHasPitch 24 = .ok (.iload_n 1, 1) := by decide +kernel
theorem dX3_openHasPitch_25 : decode cX3_openHasPitch 25 = .ok (.if_icmp .ne 5, 3) := by decide +kernel
theorem dX3_openHasPitch_28 : decode cX3_openHasPitch 28 = .ok (.iconst 1, 1) := by decide +kernel
theorem dX3_openHasPitch_29 : decode cX3_openHasPitch 29 = .ok (.ireturn, 1) := by decide +kernel
theorem dX3_openHasPitch_30 : decode cX3_openHasPitch 30 = .ok (.iinc 3 1, 3) := by decide +kernel
theorem dX3_openHasPitch_33 : decode cX3_openHasPitch 33 = .ok (.goto (-26), 3) := by decide +kernel
theorem dX3_openHasPitch_36 : decode cX3_openHasPitch 36 = .ok (.iconst 0, 1) := by decide +kernel
theorem dX3_openHasPitch_37 : decode cX3_openHasPitch 37 = .ok (.ireturn, 1) := by decide +kernel
set_option maxRecDepth 20000 in
theorem ggX3_addPitch_X3_openPitches : GoodIn wsX3_addPitch wsX3_openPitches := goodIn_r _ [6, 1, 7, 8, 9, 5, 10, 11, 16, 17, 18, 19, 20, 21, 22] (by decide +kernel) (by decide +kernel)
set_option maxRecDepth 20000 in
theorem gX3_addPitch_X3_openPitches : GoodIn wsX3_addPitch (wsV RX3 42 RX3 yX3_openPitches wsX3_openPitches) := goodIn_app (goodIn_of _ (by decide +kernel)) ggX3_addPitch_X3_openPitches
set_option maxRecDepth 20000 in
theorem ggX3_addPitch_X3_write : GoodIn wsX3_addPitch wsX3_write := goodIn_r _ [15, 11, 16, 17, 18, 19, 20, 21, 22] (by decide +kernel) (by decide +kernel)
set_option maxRecDepth 20000 in
theorem gX3_addPitch_X3_write : GoodIn wsX3_addPitch (wsV RX3 34 RX3 yX3_write wsX3_write) := goodIn_app (goodIn_of _ (by decide +kernel)) ggX3_addPitch_X3_write
theorem dX3_addPitch_0 : decode cX3_addPitch 0 = .ok (.aload_n 0, 1) := by decide +kernel
theorem dX3_addPitch_1 : decode cX3_addPitch 1 = .ok (.invokevirtual 42, 3) := by decide +kernel
theorem dX3_addPitch_4 : decode cX3_addPitch 4 = .ok (.istore_n 2, 1) := by decide +kernel
theorem dX3_addPitch_5 : decode cX3_addPitch 5 = .ok (.iload_n 2, 1) := by decide +kernel
theorem dX3_addPitch_6 : decode cX3_addPitch 6 = .ok (.ifCond .lt 33, 3) := by decide +kernel
theorem dX3_addPitch_9 : decode cX3_addPitch 9 = .ok (.iload_n 2, 1) := by decide +kernel
theorem dX3_addPitch_10 : decode cX3_addPitch 10 = .ok (.iconst 4, 1) := by decide +kernel
theorem dX3_addPitch_11 : decode cX3_addPitch 11 = .ok (.if_icmp .ge 28, 3) := by decide +kernel
theorem dX3_addPitch_14 : decode cX3_addPitch 14 = .ok (.aload_n 0, 1) := by decide +kernel
theorem dX3_addPitch_15 : decode cX3_addPitch 15 = .ok (.aload_n 0, 1) := by decide +kernel
theorem dX3_addPitch_16 : decode cX3_addPitch 16 = .ok (.getfield 15, 3) := by decide +kernel
theorem dX3_addPitch_19 : decode cX3_addPitch 19 = .ok (.bipush 9, 2) := by decide +kernel
theorem dX3_addPitch_21 : decode cX3_addPitch 21 = .ok (.iload_n 2, 1) := by decide +kernel
theorem dX3_addPitch_22 : decode cX3_addPitch 22 = .ok (.iadd, 1) := by decide +kernel
theorem dX3_addPitch_23 : decode cX3_addPitch 23 = .ok (.iload_n 1, 1) := by decide +kernel
theorem dX3_addPitch_24 : decode cX3_addPitch 24 = .ok (.invokevirtual 34, 3) := by decide +kernel
theorem dX3_addPitch_27 : decode cX3_addPitch 27 = .ok (.aload_n 0, 1) := by decide +kernel
theorem dX3_addPitch_28 : decode cX3_addPitch 28 = .ok (.aload_n 0, 1) := by decide +kernel
theorem dX3_addPitch_29 : decode cX3_addPitch 29 = .ok (.getfield 15, 3) := by decide +kernel
theorem dX3_addPitch_32 : decode cX3_addPitch 32 = .ok (.iconst 1, 1) := by decide +kernel
theorem dX3_addPitch_33 : decode cX3_addPitch 33 = .ok (.iload_n 2, 1) := by decide +kernel
theorem dX3_addPitch_34 : decode cX3_addPitch 34 = .ok (.iconst 1, 1) := by decide +kernel
theorem dX3_addPitch_35 : decode cX3_addPitch 35 = .ok (.iadd, 1) := by decide +kernel
theorem dX3_addPitch_36 : decode cX3_addPitch 36 = .ok (.invokevirtual 34, 3) := by decide +kernel
theorem dX3_addPitch_39 : decode cX3_addPitch 39 = .ok (.return_, 1) := by decide +kernel
set_option maxRecDepth 20000 in
theorem ggX3_closeEvent_X3_isFull : GoodIn wsX3_closeEvent wsX3_isFull := goodIn_r _ [9, 1, 23, 24, 25, 26, 27, 28, 29] (by decide +kernel) (by decide +kernel)
set_option maxRecDepth 20000 in
theorem gX3_closeEvent_X3_isFull : GoodIn wsX3_closeEvent (wsV RX3 46 RX3 yX3_isFull wsX3_isFull) := goodIn_app (goodIn_of _ (by decide +kernel)) ggX3_closeEvent_X3_isFull
set_option maxRecDepth 20000 in
theorem ggX3_closeEvent_X3_write : GoodIn wsX3_closeEvent wsX3_write := goodIn_r _ [13, 14, 23, 24, 25, 26, 27, 28, 29] (by decide +kernel) (by decide +kernel)
set_option maxRecDepth 20000 in
theorem gX3_closeEvent_X3_write : GoodIn wsX3_closeEvent (wsV RX3 34 RX3 yX3_write wsX3_write) := goodIn_app (goodIn_of _ (by decide +kernel)) ggX3_closeEvent_X3_write
set_option maxRecDepth 20000 in
theorem ggX3_closeEvent_X3_fact : GoodIn wsX3_closeEvent wsX3_fact := goodIn_r _ [18, 14, 23, 24, 25, 26, 27, 28, 29] (by decide +kernel) (by decide +kernel)
set_option maxRecDepth 20000 in
theorem gX3_closeEvent_X3_fact : GoodIn wsX3_closeEvent (wsV RX3 38 RX3 yX3_fact wsX3_fact) := goodIn_app (goodIn_of _ (by decide +kernel)) ggX3_closeEvent_X3_fact
set_option maxRecDepth 20000 in
theorem ggX3_closeEvent_X3_allBits : GoodIn wsX3_closeEvent wsX3_allBits := goodIn_r _ [22, 15, 16, 17, 8, 18, 14, 23, 24, 25, 26, 27, 28, 29] (by decide +kernel) (by decide +kernel)
set_option maxRecDepth 20000 in
theorem gX3_closeEvent_X3_allBits : GoodIn wsX3_closeEvent (wsV RX3 50 RX3 yX3_allBits wsX3_allBits) := goodIn_app (goodIn_of _ (by decide +kernel)) ggX3_closeEvent_X3_allBits
theorem dX3_closeEvent_0 : decode cX3_closeEvent 0 = .ok (.aload_n 0, 1) := by decide +kernel
theorem dX3_closeEvent_1 : decode cX3_closeEvent 1 = .ok (.invokevirtual 46, 3) := by decide +kernel
theorem dX3_closeEvent_4 : decode cX3_closeEvent 4 = .ok (.ifCond .eq 4, 3) := by decide +kernel
theorem dX3_closeEvent_7 : decode cX3_closeEvent 7 = .ok (.return_, 1) := by decide +kernel
theorem dX3_closeEvent_8 : decode cX3_closeEvent 8 = .ok (.aload_n 0, 1) := by decide +kernel
theorem dX3_closeEvent_9 : decode cX3_closeEvent 9 = .ok (.aload_n 0, 1) := by decide +kernel
theorem dX3_closeEvent_10 : decode cX3_closeEvent 10 = .ok (.getfield 15, 3) := by decide +kernel
theorem dX3_closeEvent_13 : decode cX3_closeEvent 13 = .ok (.iconst 3, 1) := by decide +kernel
theorem dX3_closeEvent_14 : decode cX3_closeEvent 14 = .ok (.iload_n 1, 1) := by decide +kernel
theorem dX3_closeEvent_15 : decode cX3_closeEvent 15 = .ok (.invokevirtual 34, 3) := by decide +kernel
theorem dX3_closeEvent_18 : decode cX3_closeEvent 18 = .ok (.aload_n 0, 1) := by decide +kernel
theorem dX3_closeEvent_19 : decode cX3_closeEvent 19 = .ok (.dup, 1) := by decide +kernel
theorem dX3_closeEvent_20 : decode cX3_closeEvent 20 = .ok (.getfield 19, 3) := by decide +kernel
theorem dX3_closeEvent_23 : decode cX3_closeEvent 23 = .ok (.iload_n 1, 1) := by decide +kernel
theorem dX3_closeEvent_24 : decode cX3_closeEvent 24 = .ok (.iadd, 1) := by decide +kernel
theorem dX3_closeEvent_25 : decode cX3_closeEvent 25 = .ok (.putfield 19, 3) := by decide +kernel
theorem dX3_closeEvent_28 : decode cX3_closeEvent 28 = .ok (.aload_n 0, 1) := by decide +kernel
theorem dX3_closeEvent_29 : decode cX3_closeEvent 29 = .ok (.dup, 1) := by decide +kernel
theorem dX3_closeEvent_30 : decode cX3_closeEvent 30 = .ok (.getfield 22, 3) := by decide +kernel
theorem dX3_closeEvent_33 : decode cX3_closeEvent 33 = .ok (.aload_n 0, 1) := by decide +kernel
theorem dX3_closeEvent_34 : decode cX3_closeEvent 34 = .ok (.aload_n 0, 1) := by decide +kernel
theorem dX3_closeEvent_35 : decode cX3_closeEvent 35 = .ok (.getfield 15, 3) := by decide +kernel
theorem dX3_closeEvent_38 : decode cX3_closeEvent 38 = .ok (.bipush 7, 2) := by decide +kernel
theorem dX3_closeEvent_40 : decode cX3_closeEvent 40 = .ok (.invokevirtual 38, 3) := by decide +kernel
theorem dX3_closeEvent_43 : decode cX3_closeEvent 43 = .ok (.iadd, 1) := by decide +kernel
theorem dX3_closeEvent_44 : decode cX3_closeEvent 44 = .ok (.putfield 22, 3) := by decide +kernel
theorem dX3_closeEvent_47 : decode cX3_closeEvent 47 = .ok (.aload_n 0, 1) := by decide +kernel
theorem dX3_closeEvent_48 : decode cX3_closeEvent 48 = .ok (.dup, 1) := by decide +kernel
theorem dX3_closeEvent_49 : decode cX3_closeEvent 49 = .ok (.getfield 25, 3) := by decide +kernel
theorem dX3_closeEvent_52 : decode cX3_closeEvent 52 = .ok (.aload_n 0, 1) := by decide +kernel
theorem dX3_closeEvent_53 : decode cX3_closeEvent 53 = .ok (.aload_n 0, 1) := by decide +kernel
theorem dX3_closeEvent_54 : decode cX3_closeEvent 54 = .ok (.getfield 15, 3) := by decide +kernel
theorem dX3_closeEvent_57 : decode cX3_closeEvent 57 = .ok (.invokevirtual 50, 3) := by decide +kernel
theorem dX3_closeEvent_60 : decode cX3_closeEvent 60 = .ok (.iconst 1, 1) := by decide +kernel
theorem dX3_closeEvent_61 : decode cX3_closeEvent 61 = .ok (.iadd, 1) := by decide +kernel
theorem dX3_closeEvent_62 : decode cX3_closeEvent 62 = .ok (.iadd, 1) := by decide +kernel
theorem dX3_closeEvent_63 : decode cX3_closeEvent 63 = .ok (.putfield 25, 3) := by decide +kernel
theorem dX3_closeEvent_66 : decode cX3_closeEvent 66 = .ok (.aload_n 0, 1) := by decide +kernel
theorem dX3_closeEvent_67 : decode cX3_closeEvent 67 = .ok (.dup, 1) := by decide +kernel
theorem dX3_closeEvent_68 : decode cX3_closeEvent 68 = .ok (.getfield 15, 3) := by decide +kernel
theorem dX3_closeEvent_71 : decode cX3_closeEvent 71 = .ok (.iconst 1, 1) := by decide +kernel
theorem dX3_closeEvent_72 : decode cX3_closeEvent 72 = .ok (.iadd, 1) := by decide +kernel
theorem dX3_closeEvent_73 : decode cX3_closeEvent 73 = .ok (.putfield 15, 3) := by decide +kernel
theorem dX3_closeEvent_76 : decode cX3_closeEvent 76 = .ok (.return_, 1) := by decide +kernel
set_option maxRecDepth 20000 in
theorem ggX3_repeatFrom_X3_write : GoodIn wsX3_repeatFrom wsX3_write := goodIn_r _ [6, 7, 8, 9, 10, 11, 12, 13, 14] (by decide +kernel) (by decide +kernel)
set_option maxRecDepth 20000 in
theorem gX3_repeatFrom_X3_write : GoodIn wsX3_repeatFrom (wsV RX3 34 RX3 yX3_write wsX3_write) := goodIn_app (goodIn_of _ (by decide +kernel)) ggX3_repeatFrom_X3_write
theorem dX3_repeatFrom_0 : decode cX3_repeatFrom 0 = .ok (.aload_n 0, 1) := by decide +kernel
theorem dX3_repeatFrom_1 : decode cX3_repeatFrom 1 = .ok (.aload_n 0, 1) := by decide +kernel
theorem dX3_repeatFrom_2 : decode cX3_repeatFrom 2 = .ok (.getfield 15, 3) := by decide +kernel
theorem dX3_repeatFrom_5 : decode cX3_repeatFrom 5 = .ok (.iconst 1, 1) := by decide +kernel
theorem dX3_repeatFrom_6 : decode cX3_repeatFrom 6 = .ok (.isub, 1) := by decide +kernel
theorem dX3_repeatFrom_7 : decode cX3_repeatFrom 7 = .ok (.bipush 8, 2) := by decide +kernel
theorem dX3_repeatFrom_9 : decode cX3_repeatFrom 9 = .ok (.iload_n 1, 1) := by decide +kernel
theorem dX3_repeatFrom_10 : decode cX3_repeatFrom 10 = .ok (.invokevirtual 34, 3) := by decide +kernel
theorem dX3_repeatFrom_13 : decode cX3_repeatFrom 13 = .ok (.return_, 1) := by decide +kernel
theorem dX3_endMeasure_0 : decode cX3_endMeasure 0 = .ok (.aload_n 0, 1) := by decide +kernel
theorem dX3_endMeasure_1 : decode cX3_endMeasure 1 = .ok (.dup, 1) := by decide +kernel
theorem dX3_endMeasure_2 : decode cX3_endMeasure 2 = .ok (.getfield 28, 3) := by decide +kernel
theorem dX3_endMeasure_5 : decode cX3_endMeasure 5 = .ok (.iconst 1, 1) := by decide +kernel
theorem dX3_endMeasure_6 : decode cX3_endMeasure 6 = .ok (.iadd, 1) := by decide +kernel
theorem dX3_endMeasure_7 : decode cX3_endMeasure 7 = .ok (.putfield 28, 3) := by decide +kernel
theorem dX3_endMeasure_10 : decode cX3_endMeasure 10 = .ok (.return_, 1) := by decide +kernel
theorem dX3_endPage_0 : decode cX3_endPage 0 = .ok (.aload_n 0, 1) := by decide +kernel
theorem dX3_endPage_1 : decode cX3_endPage 1 = .ok (.dup, 1) := by decide +kernel
theorem dX3_endPage_2 : decode cX3_endPage 2 = .ok (.getfield 31, 3) := by decide +kernel
theorem dX3_endPage_5 : decode cX3_endPage 5 = .ok (.iconst 1, 1) := by decide +kernel
theorem dX3_endPage_6 : decode cX3_endPage 6 = .ok (.iadd, 1) := by decide +kernel
theorem dX3_endPage_7 : decode cX3_endPage 7 = .ok (.putfield 31, 3) := by decide +kernel
theorem dX3_endPage_10 : decode cX3_endPage 10 = .ok (.return_, 1) := by decide +kernel
set_option maxRecDepth 20000 in
theorem ggX3_measuresWithEvents_X3_fact : GoodIn wsX3_measuresWithEvents wsX3_fact := goodIn_r _ [6, 7, 8, 9, 10, 11, 12, 13, 14] (by decide +kernel) (by decide +kernel)
set_option maxRecDepth 20000 in
theorem gX3_measuresWithEvents_X3_fact : GoodIn wsX3_measuresWithEvents (wsV RX3 38 RX3 yX3_fact wsX3_fact) := goodIn_app (goodIn_of _ (by decide +kernel)) ggX3_measuresWithEvents_X3_fact
theorem dX3_measuresWithEvents_0 : decode cX3_measuresWithEvents 0 = .ok (.aload_n 0, 1) := by decide +kernel
theorem dX3_measuresWithEvents_1 : decode cX3_measuresWithEvents 1 = .ok (.getfield 15, 3) := by decide +kernel
theorem dX3_measuresWithEvents_4 : decode cX3_measuresWithEvents 4 = .ok (.ifCond .ne 7, 3) := by decide +kernel
theorem dX3_measuresWithEvents_7 : decode cX3_measuresWithEvents 7 = .ok (.iconst 0, 1) := by decide +kernel
theorem dX3_measuresWithEvents_8 : decode cX3_measuresWithEvents 8 = .ok (.goto 16, 3) := by decide +kernel
theorem dX3_measuresWithEvents_11 : decode cX3_measuresWithEvents 11 = .ok (.aload_n 0, 1) := by decide +kernel
theorem dX3_measuresWithEvents_12 : decode cX3_measuresWithEvents 12 = .ok (.aload_n 0, 1) := by decide +kernel
theorem dX3_measuresWithEvents_13 : decode cX3_measuresWithEvents 13 = .ok (.getfield 15, 3) := by decide +kernel
theorem dX3_measuresWithEvents_16 : decode cX3_measuresWithEvents 16 = .ok (.iconst 1, 1) := by decide +kernel
theorem dX3_measuresWithEvents_17 : decode cX3_measuresWithEvents 17 = .ok (.isub, 1) := by decide +kernel
theorem dX3_measuresWithEvents_18 : decode cX3_measuresWithEvents 18 = .ok (.iconst 4, 1) := by decide +kernel
theorem dX3_measuresWithEvents_19 : decode cX3_measuresWithEvents 19 = .ok (.invokevirtual 38, 3) := by decide +kernel
theorem dX3_measuresWithEvents_22 : decode cX3_measuresWithEvents 22 = .ok (.iconst 1, 1) := by decide +kernel
theorem dX3_measuresWithEvents_23 : decode cX3_measuresWithEvents 23 = .ok (.iadd, 1) := by decide +kernel
theorem dX3_measuresWithEvents_24 : decode cX3_measuresWithEvents 24 = .ok (.ireturn, 1) := by decide +kernel
set_option maxRecDepth 20000 in
theorem ggX3_pagesWithEvents_X3_fact : GoodIn wsX3_pagesWithEvents wsX3_fact := goodIn_r _ [6, 7, 8, 9, 10, 11, 12, 13, 14] (by decide +kernel) (by decide +kernel)
set_option maxRecDepth 20000 in
theorem gX3_pagesWithEvents_X3_fact : GoodIn wsX3_pagesWithEvents (wsV RX3 38 RX3 yX3_fact wsX3_fact) := goodIn_app (goodIn_of _ (by decide +kernel)) ggX3_pagesWithEvents_X3_fact
theorem dX3_pagesWithEvents_0 : decode cX3_pagesWithEvents 0 = .ok (.aload_n 0, 1) := by decide +kernel
theorem dX3_pagesWithEvents_1 : decode cX3_pagesWithEvents 1 = .ok (.getfield 15, 3) := by decide +kernel
theorem dX3_pagesWithEvents_4 : decode cX3_pagesWithEvents 4 = .ok (.ifCond .ne 7, 3) := by decide +kernel
theorem dX3_pagesWithEvents_7 : decode cX3_pagesWithEvents 7 = .ok (.iconst 0, 1) := by decide +kernel
theorem dX3_pagesWithEvents_8 : decode cX3_pagesWithEvents 8 = .ok (.goto 16, 3) := by decide +kernel
theorem dX3_pagesWithEvents_11 : decode cX3_pagesWithEvents 11 = .ok (.aload_n 0, 1) := by decide +kernel
theorem dX3_pagesWithEvents_12 : decode cX3_pagesWithEvents 12 = .ok (.aload_n 0, 1) := by decide +kernel
theorem dX3_pagesWithEvents_13 : decode cX3_pagesWithEvents 13 = .ok (.getfield 15, 3) := by decide +kernel
theorem dX3_pagesWithEvents_16 : decode cX3_pagesWithEvents 16 = .ok (.iconst 1, 1) := by decide +kernel
theorem dX3_pagesWithEvents_17 : decode cX3_pagesWithEvents 17 = .ok (.isub, 1) := by decide +kernel
theorem dX3_pagesWithEvents_18 : decode cX3_pagesWithEvents 18 = .ok (.iconst 5, 1) := by decide +kernel
theorem dX3_pagesWithEvents_19 : decode cX3_pagesWithEvents 19 = .ok (.invokevirtual 38, 3) := by decide +kernel
theorem dX3_pagesWithEvents_22 : decode cX3_pagesWithEvents 22 = .ok (.iconst 1, 1) := by decide +kernel
theorem dX3_pagesWithEvents_23 : decode cX3_pagesWithEvents 23 = .ok (.iadd, 1) := by decide +kernel
theorem dX3_pagesWithEvents_24 : decode cX3_pagesWithEvents 24 = .ok (.ireturn, 1) := by decide +kernel
set_option maxRecDepth 20000 in
theorem ggX3_allBits_X3_fact : GoodIn wsX3_allBits wsX3_fact := goodIn_r _ [5, 6, 7, 8, 9, 10, 11, 12, 13] (by decide +kernel) (by decide +kernel)
set_option maxRecDepth 20000 in
theorem gX3_allBits_X3_fact : GoodIn wsX3_allBits (wsV RX3 38 RX3 yX3_fact wsX3_fact) := goodIn_app (goodIn_of _ (by decide +kernel)) ggX3_allBits_X3_fact
theorem dX3_allBits_0 : decode cX3_allBits 0 = .ok (.aload_n 0, 1) := by decide +kernel
theorem dX3_allBits_1 : decode cX3_allBits 1 = .ok (.iload_n 1, 1) := by decide +kernel
theorem dX3_allBits_2 : decode cX3_allBits 2 = .ok (.iconst 1, 1) := by decide +kernel
theorem dX3_allBits_3 : decode cX3_allBits 3 = .ok (.invokevirtual 38, 3) := by decide +kernel
theorem dX3_allBits_6 : decode cX3_allBits 6 = .ok (.istore_n 2, 1) := by decide +kernel
theorem dX3_allBits_7 : decode cX3_allBits 7 = .ok (.iload_n 2, 1) := by decide +kernel
theorem dX3_allBits_8 : decode cX3_allBits 8 = .ok (.ifCond .gt 7, 3) := by decide +kernel
theorem dX3_allBits_11 : decode cX3_allBits 11 = .ok (.iconst 0, 1) := by decide +kernel
theorem dX3_allBits_12 : decode cX3_allBits 12 = .ok (.goto 8, 3) := by decide +kernel
theorem dX3_allBits_15 : decode cX3_allBits 15 = .ok (.iconst 1, 1) := by decide +kernel
theorem dX3_allBits_16 : decode cX3_allBits 16 = .ok (.iload_n 2, 1) := by decide +kernel
theorem dX3_allBits_17 : decode cX3_allBits 17 = .ok (.ishl, 1) := by decide +kernel
theorem dX3_allBits_18 : decode cX3_allBits 18 = .ok (.iconst 1, 1) := by decide +kernel
theorem dX3_allBits_19 : decode cX3_allBits 19 = .ok (.isub, 1) := by decide +kernel
theorem dX3_allBits_20 : decode cX3_allBits 20 = .ok (.ireturn, 1) := by decide +kernel
set_option maxRecDepth 20000 in
theorem ggX3_firstOfNextPage_X3_fact : GoodIn wsX3_firstOfNextPage wsX3_fact := goodIn_r _ [6, 7, 8, 9, 10, 11, 12, 13, 14] (by decide +kernel) (by decide +kernel)
set_option maxRecDepth 20000 in
theorem gX3_firstOfNextPage_X3_fact : GoodIn wsX3_firstOfNextPage (wsV RX3 38 RX3 yX3_fact wsX3_fact) := goodIn_app (goodIn_of _ (by decide +kernel)) ggX3_firstOfNextPage_X3_fact
theorem dX3_firstOfNextPage_0 : decode cX3_firstOfNextPage 0 = .ok (.aload_n 0, 1) := by decide +kernel
theorem dX3_firstOfNextPage_1 : decode cX3_firstOfNextPage 1 = .ok (.iload_n 1, 1) := by decide +kernel
theorem dX3_firstOfNextPage_2 : decode cX3_firstOfNextPage 2 = .ok (.iconst 5, 1) := by decide +kernel
theorem dX3_firstOfNextPage_3 : decode cX3_firstOfNextPage 3 = .ok (.invokevirtual 38, 3) := by decide +kernel
theorem dX3_firstOfNextPage_6 : decode cX3_firstOfNextPage 6 = .ok (.istore_n 2, 1) := by decide +kernel
theorem dX3_firstOfNextPage_7 : decode cX3_firstOfNextPage 7 = .ok (.iload_n 1, 1) := by decide +kernel
theorem dX3_firstOfNextPage_8 : decode cX3_firstOfNextPage 8 = .ok (.iconst 1, 1) := by decide +kernel
theorem dX3_firstOfNextPage_9 : decode cX3_firstOfNextPage 9 = .ok (.iadd, 1) := by decide +kernel
theorem dX3_firstOfNextPage_10 : decode cX3_firstOfNextPage 10 = .ok (.istore_n 3, 1) := by decide +kernel
theorem dX3_firstOfNextPage_11 : decode cX3_firstOfNextPage 11 = .ok (.iload_n 3, 1) := by decide +kernel
theorem dX3_firstOfNextPage_12 : decode cX3_firstOfNextPage 12 = .ok (.aload_n 0, 1) := by decide +kernel
theorem dX3_firstOfNextPage_13 : decode cX3_firstOfNextPage 13 = .ok (.getfield 15, 3) := by decide +kernel
theorem dX3_firstOfNextPage_16 : decode cX3_firstOfNextPage 16 = .ok (.if_icmp .ge 21, 3) := by decide +kernel
theorem dX3_firstOfNextPage_19 : decode cX3_firstOfNextPage 19 = .ok (.aload_n 0, 1) := by decide +kernel
theorem dX3_firstOfNextPage_20 : decode cX3_firstOfNextPage 20 = .ok (.iload_n 3, 1) := by decide +kernel
theorem dX3_firstOfNextPage_21 : decode cX3_firstOfNextPage 21 = .ok (.iconst 5, 1) := by decide +kernel
theorem dX3_firstOfNextPage_22 : decode cX3_firstOfNextPage 22 = .ok (.invokevirtual 38, 3) := by decide +kernel
theorem dX3_firstOfNextPage_25 : decode cX3_firstOfNextPage 25 = .ok (.iload_n 2, 1) := by decide +kernel
theorem dX3_firstOfNextPage_26 : decode cX3_firstOfNextPage 26 = .ok (.if_icmp .eq 5, 3) := by decide +kernel
theorem dX3_firstOfNextPage_29 : decode cX3_firstOfNextPage 29 = .ok (.iload_n 3, 1) := by decide +kernel
theorem dX3_firstOfNextPage_30 : decode cX3_firstOfNextPage 30 = .ok (.ireturn, 1) := by decide +kernel
theorem dX3_firstOfNextPage_31 : decode cX3_firstOfNextPage 31 = .ok (.iinc 3 1, 3) := by decide +kernel
theorem dX3_firstOfNextPage_34 : decode cX3_firstOfNextPage 34 = .ok (.goto (-23), 3) := by decide +kernel
theorem dX3_firstOfNextPage_37 : decode cX3_firstOfNextPage 37 = .ok (.iconst (-1), 1) := by decide +kernel
theorem dX3_firstOfNextPage_38 : decode cX3_firstOfNextPage 38 = .ok (.ireturn, 1) := by decide +kernel
set_option maxRecDepth 20000 in
theorem ggX3_cueFrom_X3_fact : GoodIn wsX3_cueFrom wsX3_fact := goodIn_r _ [6, 7, 8, 9, 10, 11, 12, 13, 14] (by decide +kernel) (by decide +kernel)
set_option maxRecDepth 20000 in
theorem gX3_cueFrom_X3_fact : GoodIn wsX3_cueFrom (wsV RX3 38 RX3 yX3_fact wsX3_fact) := goodIn_app (goodIn_of _ (by decide +kernel)) ggX3_cueFrom_X3_fact
theorem dX3_cueFrom_0 : decode cX3_cueFrom 0 = .ok (.iload_n 1, 1) := by decide +kernel
theorem dX3_cueFrom_1 : decode cX3_cueFrom 1 = .ok (.istore_n 2, 1) := by decide +kernel
theorem dX3_cueFrom_2 : decode cX3_cueFrom 2 = .ok (.iload_n 2, 1) := by decide +kernel
theorem dX3_cueFrom_3 : decode cX3_cueFrom 3 = .ok (.aload_n 0, 1) := by decide +kernel
theorem dX3_cueFrom_4 : decode cX3_cueFrom 4 = .ok (.getfield 15, 3) := by decide +kernel
theorem dX3_cueFrom_7 : decode cX3_cueFrom 7 = .ok (.if_icmp .ge 22, 3) := by decide +kernel
theorem dX3_cueFrom_10 : decode cX3_cueFrom 10 = .ok (.aload_n 0, 1) := by decide +kernel
theorem dX3_cueFrom_11 : decode cX3_cueFrom 11 = .ok (.iload_n 2, 1) := by decide +kernel
theorem dX3_cueFrom_12 : decode cX3_cueFrom 12 = .ok (.bipush 7, 2) := by decide +kernel
theorem dX3_cueFrom_14 : decode cX3_cueFrom 14 = .ok (.invokevirtual 38, 3) := by decide +kernel
theorem dX3_cueFrom_17 : decode cX3_cueFrom 17 = .ok (.iconst 1, 1) := by decide +kernel
theorem dX3_cueFrom_18 : decode cX3_cueFrom 18 = .ok (.if_icmp .ne 5, 3) := by decide +kernel
theorem dX3_cueFrom_21 : decode cX3_cueFrom 21 = .ok (.iload_n 2, 1) := by decide +kernel
theorem dX3_cueFrom_22 : decode cX3_cueFrom 22 = .ok (.ireturn, 1) := by decide +kernel
theorem dX3_cueFrom_23 : decode cX3_cueFrom 23 = .ok (.iinc 2 1, 3) := by decide +kernel
theorem dX3_cueFrom_26 : decode cX3_cueFrom 26 = .ok (.goto (-24), 3) := by decide +kernel
theorem dX3_cueFrom_29 : decode cX3_cueFrom 29 = .ok (.iconst (-1), 1) := by decide +kernel
theorem dX3_cueFrom_30 : decode cX3_cueFrom 30 = .ok (.ireturn, 1) := by decide +kernel
set_option maxRecDepth 20000 in
theorem ggX3_rightBit_X3_fact : GoodIn wsX3_rightBit wsX3_fact := goodIn_r _ [9, 10, 11, 12, 13, 14, 15, 16, 17] (by decide +kernel) (by decide +kernel)
set_option maxRecDepth 20000 in
theorem gX3_rightBit_X3_fact : GoodIn wsX3_rightBit (wsV RX3 38 RX3 yX3_fact wsX3_fact) := goodIn_app (goodIn_of _ (by decide +kernel)) ggX3_rightBit_X3_fact
theorem dX3_rightBit_0 : decode cX3_rightBit 0 = .ok (.aload_n 0, 1) := by decide +kernel
theorem dX3_rightBit_1 : decode cX3_rightBit 1 = .ok (.iload_n 1, 1) := by decide +kernel
theorem dX3_rightBit_2 : decode cX3_rightBit 2 = .ok (.iconst 0, 1) := by decide +kernel
theorem dX3_rightBit_3 : decode cX3_rightBit 3 = .ok (.invokevirtual 38, 3) := by decide +kernel
theorem dX3_rightBit_6 : decode cX3_rightBit 6 = .ok (.iconst 2, 1) := by decide +kernel
theorem dX3_rightBit_7 : decode cX3_rightBit 7 = .ok (.if_icmp .ne 7, 3) := by decide +kernel
theorem dX3_rightBit_10 : decode cX3_rightBit 10 = .ok (.iconst 1, 1) := by decide +kernel
theorem dX3_rightBit_11 : decode cX3_rightBit 11 = .ok (.goto 4, 3) := by decide +kernel
theorem dX3_rightBit_14 : decode cX3_rightBit 14 = .ok (.iconst 0, 1) := by decide +kernel
theorem dX3_rightBit_15 : decode cX3_rightBit 15 = .ok (.istore_n 3, 1) := by decide +kernel
theorem dX3_rightBit_16 : decode cX3_rightBit 16 = .ok (.aload_n 0, 1) := by decide +kernel
theorem dX3_rightBit_17 : decode cX3_rightBit 17 = .ok (.iload_n 1, 1) := by decide +kernel
theorem dX3_rightBit_18 : decode cX3_rightBit 18 = .ok (.iconst 1, 1) := by decide +kernel
theorem dX3_rightBit_19 : decode cX3_rightBit 19 = .ok (.invokevirtual 38, 3) := by decide +kernel
theorem dX3_rightBit_22 : decode cX3_rightBit 22 = .ok (.istore 4, 2) := by decide +kernel
theorem dX3_rightBit_24 : decode cX3_rightBit 24 = .ok (.iconst 0, 1) := by decide +kernel
theorem dX3_rightBit_25 : decode cX3_rightBit 25 = .ok (.istore 5, 2) := by decide +kernel
theorem dX3_rightBit_27 : decode cX3_rightBit 27 = .ok (.iload 5, 2) := by decide +kernel
theorem dX3_rightBit_29 : decode cX3_rightBit 29 = .ok (.iload 4, 2) := by decide +kernel
theorem dX3_rightBit_31 : decode cX3_rightBit 31 = .ok (.if_icmp .ge 33, 3) := by decide +kernel
theorem dX3_rightBit_34 : decode cX3_rightBit 34 = .ok (.iload_n 2, 1) := by decide +kernel
theorem dX3_rightBit_35 : decode cX3_rightBit 35 = .ok (.aload_n 0, 1) := by decide +kernel
theorem dX3_rightBit_36 : decode cX3_rightBit 36 = .ok (.iload_n 1, 1) := by decide +kernel
theorem dX3_rightBit_37 : decode cX3_rightBit 37 = .ok (.bipush 9, 2) := by decide +kernel
theorem dX3_rightBit_39 : decode cX3_rightBit 39 = .ok (.iload 5, 2) := by decide +kernel
theorem dX3_rightBit_41 : decode cX3_rightBit 41 = .ok (.iadd, 1) := by decide +kernel
theorem dX3_rightBit_42 : decode cX3_rightBit 42 = .ok (.invokevirtual 38, 3) := by decide +kernel
theorem dX3_rightBit_45 : decode cX3_rightBit 45 = .ok (.isub, 1) := by decide +kernel
theorem dX3_rightBit_46 : decode cX3_rightBit 46 = .ok (.invokestatic 54, 3) := by decide +kernel
theorem dX3_rightBit_49 : decode cX3_rightBit 49 = .ok (.iload_n 3, 1) := by decide +kernel
theorem dX3_rightBit_50 : decode cX3_rightBit 50 = .ok (.if_icmp .gt 8, 3) := by decide +kernel
theorem dX3_rightBit_53 : decode cX3_rightBit 53 = .ok (.iconst 1, 1) := by decide +kernel
theorem dX3_rightBit_54 : decode cX3_rightBit 54 = .ok (.iload 5, 2) := by decide +kernel
theorem dX3_rightBit_56 : decode cX3_rightBit 56 = .ok (.ishl, 1) := by decide +kernel
theorem dX3_rightBit_57 : decode cX3_rightBit 57 = .ok (.ireturn, 1) := by decide +kernel
theorem dX3_rightBit_58 : decode cX3_rightBit 58 = .ok (.iinc 5 1, 3) := by decide +kernel
theorem dX3_rightBit_61 : decode cX3_rightBit 61 = .ok (.goto (-34), 3) := by decide +kernel
theorem dX3_rightBit_64 : decode cX3_rightBit 64 = .ok (.iconst 0, 1) := by decide +kernel
theorem dX3_rightBit_65 : decode cX3_rightBit 65 = .ok (.ireturn, 1) := by decide +kernel
