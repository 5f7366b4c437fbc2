theorem dX1_init_0 : decode cX1_init 0 = .ok (.aload_n 0, 1) := by decide +kernel
theorem dX1_init_1 : decode cX1_init 1 = .ok (.invokespecial 1, 3) := by decide +kernel
theorem dX1_init_4 : decode cX1_init 4 = .ok (.aload_n 0, 1) := by decide +kernel
theorem dX1_init_5 : decode cX1_init 5 = .ok (.iconst 0, 1) := by decide +kernel
theorem dX1_init_6 : decode cX1_init 6 = .ok (.newarray .int, 2) := by decide +kernel
theorem dX1_init_8 : decode cX1_init 8 = .ok (.putfield 7, 3) := by decide +kernel
theorem dX1_init_11 : decode cX1_init 11 = .ok (.aload_n 0, 1) := by decide +kernel
theorem dX1_init_12 : decode cX1_init 12 = .ok (.aload_n 1, 1) := by decide +kernel
theorem dX1_init_13 : decode cX1_init 13 = .ok (.putfield 13, 3) := by decide +kernel
theorem dX1_init_16 : decode cX1_init 16 = .ok (.return_, 1) := by decide +kernel
theorem dX1_clear_0 : decode cX1_clear 0 = .ok (.iload_n 1, 1) := by decide +kernel
theorem dX1_clear_1 : decode cX1_clear 1 = .ok (.aload_n 0, 1) := by decide +kernel
theorem dX1_clear_2 : decode cX1_clear 2 = .ok (.getfield 7, 3) := by decide +kernel
theorem dX1_clear_5 : decode cX1_clear 5 = .ok (.arraylength, 1) := by decide +kernel
theorem dX1_clear_6 : decode cX1_clear 6 = .ok (.if_icmp .le 10, 3) := by decide +kernel
theorem dX1_clear_9 : decode cX1_clear 9 = .ok (.aload_n 0, 1) := by decide +kernel
theorem dX1_clear_10 : decode cX1_clear 10 = .ok (.iload_n 1, 1) := by decide +kernel
theorem dX1_clear_11 : decode cX1_clear 11 = .ok (.newarray .int, 2) := by decide +kernel
theorem dX1_clear_13 : decode cX1_clear 13 = .ok (.putfield 7, 3) := by decide +kernel
theorem dX1_clear_16 : decode cX1_clear 16 = .ok (.iconst 0, 1) := by decide +kernel
theorem dX1_clear_17 : decode cX1_clear 17 = .ok (.istore_n 2, 1) := by decide +kernel
theorem dX1_clear_18 : decode cX1_clear 18 = .ok (.iload_n 2, 1) := by decide +kernel
theorem dX1_clear_19 : decode cX1_clear 19 = .ok (.iload_n 1, 1) := by decide +kernel
theorem dX1_clear_20 : decode cX1_clear 20 = .ok (.if_icmp .ge 26, 3) := by decide +kernel
theorem dX1_clear_23 : decode cX1_clear 23 = .ok (.iload_n 2, 1) := by decide +kernel
theorem dX1_clear_24 : decode cX1_clear 24 = .ok (.aload_n 0, 1) := by decide +kernel
theorem dX1_clear_25 : decode cX1_clear 25 = .ok (.getfield 7, 3) := by decide +kernel
theorem dX1_clear_28 : decode cX1_clear 28 = .ok (.arraylength, 1) := by decide +kernel
theorem dX1_clear_29 : decode cX1_clear 29 = .ok (.if_icmp .ge 17, 3) := by decide +kernel
theorem dX1_clear_32 : decode cX1_clear 32 = .ok (.aload_n 0, 1) := by decide +kernel
theorem dX1_clear_33 : decode cX1_clear 33 = .ok (.getfield 7, 3) := by decide +kernel
theorem dX1_clear_36 : decode cX1_clear 36 = .ok (.iload_n 2, 1) := by decide +kernel
theorem dX1_clear_37 : decode cX1_clear 37 = .ok (.ldc 17, 2) := by decide +kernel
theorem dX1_clear_39 : decode cX1_clear 39 = .ok (.iastore, 1) := by decide +kernel
theorem dX1_clear_40 : decode cX1_clear 40 = .ok (.iinc 2 1, 3) := by decide +kernel
theorem dX1_clear_43 : decode cX1_clear 43 = .ok (.goto (-25), 3) := by decide +kernel
theorem dX1_clear_46 : decode cX1_clear 46 = .ok (.aload_n 0, 1) := by decide +kernel
theorem dX1_clear_47 : decode cX1_clear 47 = .ok (.iconst 0, 1) := by decide +kernel
theorem dX1_clear_48 : decode cX1_clear 48 = .ok (.putfield 18, 3) := by decide +kernel
theorem dX1_clear_51 : decode cX1_clear 51 = .ok (.aload_n 0, 1) := by decide +kernel
theorem dX1_clear_52 : decode cX1_clear 52 = .ok (.iconst 0, 1) := by decide +kernel
theorem dX1_clear_53 : decode cX1_clear 53 = .ok (.putfield 22, 3) := by decide +kernel
theorem dX1_clear_56 : decode cX1_clear 56 = .ok (.aload_n 0, 1) := by decide +kernel
theorem dX1_clear_57 : decode cX1_clear 57 = .ok (.ldc 17, 2) := by decide +kernel
theorem dX1_clear_59 : decode cX1_clear 59 = .ok (.putfield 25, 3) := by decide +kernel
theorem dX1_clear_62 : decode cX1_clear 62 = .ok (.aload_n 0, 1) := by decide +kernel
theorem dX1_clear_63 : decode cX1_clear 63 = .ok (.iconst 0, 1) := by decide +kernel
theorem dX1_clear_64 : decode cX1_clear 64 = .ok (.putfield 28, 3) := by decide +kernel
theorem dX1_clear_67 : decode cX1_clear 67 = .ok (.aload_n 0, 1) := by decide +kernel
theorem dX1_clear_68 : decode cX1_clear 68 = .ok (.aconst_null, 1) := by decide +kernel
theorem dX1_clear_69 : decode cX1_clear 69 = .ok (.putfield 31, 3) := by decide +kernel
theorem dX1_clear_72 : decode cX1_clear 72 = .ok (.aload_n 0, 1) := by decide +kernel
theorem dX1_clear_73 : decode cX1_clear 73 = .ok (.aconst_null, 1) := by decide +kernel
theorem dX1_clear_74 : decode cX1_clear 74 = .ok (.putfield 34, 3) := by decide +kernel
theorem dX1_clear_77 : decode cX1_clear 77 = .ok (.return_, 1) := by decide +kernel
theorem dX1_costAt_0 : decode cX1_costAt 0 = .ok (.iload_n 1, 1) := by decide +kernel
theorem dX1_costAt_1 : decode cX1_costAt 1 = .ok (.ifCond .lt 21, 3) := by decide +kernel
theorem dX1_costAt_4 : decode cX1_costAt 4 = .ok (.iload_n 1, 1) := by decide +kernel
theorem dX1_costAt_5 : decode cX1_costAt 5 = .ok (.aload_n 0, 1) := by decide +kernel
theorem dX1_costAt_6 : decode cX1_costAt 6 = .ok (.getfield 7, 3) := by decide +kernel
theorem dX1_costAt_9 : decode cX1_costAt 9 = .ok (.arraylength, 1) := by decide +kernel
theorem dX1_costAt_10 : decode cX1_costAt 10 = .ok (.if_icmp .ge 12, 3) := by decide +kernel
theorem dX1_costAt_13 : decode cX1_costAt 13 = .ok (.aload_n 0, 1) := by decide +kernel
theorem dX1_costAt_14 : decode cX1_costAt 14 = .ok (.getfield 7, 3) := by decide +kernel
theorem dX1_costAt_17 : decode cX1_costAt 17 = .ok (.iload_n 1, 1) := by decide +kernel
theorem dX1_costAt_18 : decode cX1_costAt 18 = .ok (.iaload, 1) := by decide +kernel
theorem dX1_costAt_19 : decode cX1_costAt 19 = .ok (.goto 5, 3) := by decide +kernel
theorem dX1_costAt_22 : decode cX1_costAt 22 = .ok (.ldc 17, 2) := by decide +kernel
theorem dX1_costAt_24 : decode cX1_costAt 24 = .ok (.ireturn, 1) := by decide +kernel
theorem dX1_offer_0 : decode cX1_offer 0 = .ok (.iload_n 1, 1) := by decide +kernel
theorem dX1_offer_1 : decode cX1_offer 1 = .ok (.ifCond .lt 29, 3) := by decide +kernel
theorem dX1_offer_4 : decode cX1_offer 4 = .ok (.iload_n 1, 1) := by decide +kernel
theorem dX1_offer_5 : decode cX1_offer 5 = .ok (.aload_n 0, 1) := by decide +kernel
theorem dX1_offer_6 : decode cX1_offer 6 = .ok (.getfield 7, 3) := by decide +kernel
theorem dX1_offer_9 : decode cX1_offer 9 = .ok (.arraylength, 1) := by decide +kernel
theorem dX1_offer_10 : decode cX1_offer 10 = .ok (.if_icmp .ge 20, 3) := by decide +kernel
theorem dX1_offer_13 : decode cX1_offer 13 = .ok (.iload_n 2, 1) := by decide +kernel
theorem dX1_offer_14 : decode cX1_offer 14 = .ok (.aload_n 0, 1) := by decide +kernel
theorem dX1_offer_15 : decode cX1_offer 15 = .ok (.getfield 7, 3) := by decide +kernel
theorem dX1_offer_18 : decode cX1_offer 18 = .ok (.iload_n 1, 1) := by decide +kernel
theorem dX1_offer_19 : decode cX1_offer 19 = .ok (.iaload, 1) := by decide +kernel
theorem dX1_offer_20 : decode cX1_offer 20 = .ok (.if_icmp .ge 10, 3) := by decide +kernel
theorem dX1_offer_23 : decode cX1_offer 23 = .ok (.aload_n 0, 1) := by decide +kernel
theorem dX1_offer_24 : decode cX1_offer 24 = .ok (.getfield 7, 3) := by decide +kernel
theorem dX1_offer_27 : decode cX1_offer 27 = .ok (.iload_n 1, 1) := by decide +kernel
theorem dX1_offer_28 : decode cX1_offer 28 = .ok (.iload_n 2, 1) := by decide +kernel
theorem dX1_offer_29 : decode cX1_offer 29 = .ok (.iastore, 1) := by decide +kernel
theorem dX1_offer_30 : decode cX1_offer 30 = .ok (.return_, 1) := by decide +kernel
