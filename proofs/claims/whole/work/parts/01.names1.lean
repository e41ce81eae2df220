theorem dX3_init_41 : decode cX3_init 41 = .ok (.putfield 9, 3) := by decide +kernel
theorem dX3_init_44 : decode cX3_init 44 = .ok (.aload_n 0, 1) := by decide +kernel
theorem dX3_init_45 : decode cX3_init 45 = .ok (.bipush 7, 2) := by decide +kernel
theorem dX3_init_47 : decode cX3_init 47 = .ok (.newarray .int, 2) := by decide +kernel
theorem dX3_init_49 : decode cX3_init 49 = .ok (.dup, 1) := by decide +kernel
theorem dX3_init_50 : decode cX3_init 50 = .ok (.iconst 0, 1) := by decide +kernel
theorem dX3_init_51 : decode cX3_init 51 = .ok (.iconst 0, 1) := by decide +kernel
theorem dX3_init_52 : decode cX3_init 52 = .ok (.iastore, 1) := by decide +kernel
theorem dX3_init_53 : decode cX3_init 53 = .ok (.dup, 1) := by decide +kernel
theorem dX3_init_54 : decode cX3_init 54 = .ok (.iconst 1, 1) := by decide +kernel
theorem dX3_init_55 : decode cX3_init 55 = .ok (.iconst 2, 1) := by decide +kernel
theorem dX3_init_56 : decode cX3_init 56 = .ok (.iastore, 1) := by decide +kernel
theorem dX3_init_57 : decode cX3_init 57 = .ok (.dup, 1) := by decide +kernel
theorem dX3_init_58 : decode cX3_init 58 = .ok (.iconst 2, 1) := by decide +kernel
theorem dX3_init_59 : decode cX3_init 59 = .ok (.bipush 9, 2) := by decide +kernel
theorem dX3_init_61 : decode cX3_init 61 = .ok (.iastore, 1) := by decide +kernel
theorem dX3_init_62 : decode cX3_init 62 = .ok (.dup, 1) := by decide +kernel
theorem dX3_init_63 : decode cX3_init 63 = .ok (.iconst 3, 1) := by decide +kernel
theorem dX3_init_64 : decode cX3_init 64 = .ok (.iconst 3, 1) := by decide +kernel
theorem dX3_init_65 : decode cX3_init 65 = .ok (.iastore, 1) := by decide +kernel
theorem dX3_init_66 : decode cX3_init 66 = .ok (.dup, 1) := by decide +kernel
theorem dX3_init_67 : decode cX3_init 67 = .ok (.iconst 4, 1) := by decide +kernel
theorem dX3_init_68 : decode cX3_init 68 = .ok (.iconst 1, 1) := by decide +kernel
theorem dX3_init_69 : decode cX3_init 69 = .ok (.iastore, 1) := by decide +kernel
theorem dX3_init_70 : decode cX3_init 70 = .ok (.dup, 1) := by decide +kernel
theorem dX3_init_71 : decode cX3_init 71 = .ok (.iconst 5, 1) := by decide +kernel
theorem dX3_init_72 : decode cX3_init 72 = .ok (.iconst 0, 1) := by decide +kernel
theorem dX3_init_73 : decode cX3_init 73 = .ok (.iastore, 1) := by decide +kernel
theorem dX3_init_74 : decode cX3_init 74 = .ok (.dup, 1) := by decide +kernel
theorem dX3_init_75 : decode cX3_init 75 = .ok (.bipush 6, 2) := by decide +kernel
theorem dX3_init_77 : decode cX3_init 77 = .ok (.iconst 5, 1) := by decide +kernel
theorem dX3_init_78 : decode cX3_init 78 = .ok (.iastore, 1) := by decide +kernel
theorem dX3_init_79 : decode cX3_init 79 = .ok (.putfield 15, 3) := by decide +kernel
theorem dX3_init_82 : decode cX3_init 82 = .ok (.aload_n 0, 1) := by decide +kernel
theorem dX3_init_83 : decode cX3_init 83 = .ok (.iconst 5, 1) := by decide +kernel
theorem dX3_init_84 : decode cX3_init 84 = .ok (.putfield 18, 3) := by decide +kernel
theorem dX3_init_87 : decode cX3_init 87 = .ok (.aload_n 0, 1) := by decide +kernel
theorem dX3_init_88 : decode cX3_init 88 = .ok (.iconst 0, 1) := by decide +kernel
theorem dX3_init_89 : decode cX3_init 89 = .ok (.putfield 22, 3) := by decide +kernel
theorem dX3_init_92 : decode cX3_init 92 = .ok (.aload_n 0, 1) := by decide +kernel
theorem dX3_init_93 : decode cX3_init 93 = .ok (.iconst 0, 1) := by decide +kernel
theorem dX3_init_94 : decode cX3_init 94 = .ok (.putfield 25, 3) := by decide +kernel
theorem dX3_init_97 : decode cX3_init 97 = .ok (.return_, 1) := by decide +kernel
theorem dX3_levelAfter_0 : decode cX3_levelAfter 0 = .ok (.iload_n 2, 1) := by decide +kernel
theorem dX3_levelAfter_1 : decode cX3_levelAfter 1 = .ok (.ifCond .lt 20, 3) := by decide +kernel
theorem dX3_levelAfter_4 : decode cX3_levelAfter 4 = .ok (.iload_n 2, 1) := by decide +kernel
theorem dX3_levelAfter_5 : decode cX3_levelAfter 5 = .ok (.bipush 7, 2) := by decide +kernel
theorem dX3_levelAfter_7 : decode cX3_levelAfter 7 = .ok (.if_icmp .ge 14, 3) := by decide +kernel
theorem dX3_levelAfter_10 : decode cX3_levelAfter 10 = .ok (.iload_n 1, 1) := by decide +kernel
theorem dX3_levelAfter_11 : decode cX3_levelAfter 11 = .ok (.aload_n 0, 1) := by decide +kernel
theorem dX3_levelAfter_12 : decode cX3_levelAfter 12 = .ok (.getfield 9, 3) := by decide +kernel
theorem dX3_levelAfter_15 : decode cX3_levelAfter 15 = .ok (.iload_n 2, 1) := by decide +kernel
theorem dX3_levelAfter_16 : decode cX3_levelAfter 16 = .ok (.iaload, 1) := by decide +kernel
theorem dX3_levelAfter_17 : decode cX3_levelAfter 17 = .ok (.iadd, 1) := by decide +kernel
theorem dX3_levelAfter_18 : decode cX3_levelAfter 18 = .ok (.goto 4, 3) := by decide +kernel
theorem dX3_levelAfter_21 : decode cX3_levelAfter 21 = .ok (.iload_n 1, 1) := by decide +kernel
theorem dX3_levelAfter_22 : decode cX3_levelAfter 22 = .ok (.istore_n 3, 1) := by decide +kernel
theorem dX3_levelAfter_23 : decode cX3_levelAfter 23 = .ok (.iload_n 3, 1) := by decide +kernel
theorem dX3_levelAfter_24 : decode cX3_levelAfter 24 = .ok (.ifCond .ge 5, 3) := by decide +kernel
theorem dX3_levelAfter_27 : decode cX3_levelAfter 27 = .ok (.iconst 0, 1) := by decide +kernel
theorem dX3_levelAfter_28 : decode cX3_levelAfter 28 = .ok (.ireturn, 1) := by decide +kernel
theorem dX3_levelAfter_29 : decode cX3_levelAfter 29 = .ok (.iload_n 3, 1) := by decide +kernel
theorem dX3_levelAfter_30 : decode cX3_levelAfter 30 = .ok (.bipush 10, 2) := by decide +kernel
theorem dX3_levelAfter_32 : decode cX3_levelAfter 32 = .ok (.if_icmp .ge 7, 3) := by decide +kernel
theorem dX3_levelAfter_35 : decode cX3_levelAfter 35 = .ok (.iload_n 3, 1) := by decide +kernel
theorem dX3_levelAfter_36 : decode cX3_levelAfter 36 = .ok (.goto 5, 3) := by decide +kernel
theorem dX3_levelAfter_39 : decode cX3_levelAfter 39 = .ok (.bipush 9, 2) := by decide +kernel
theorem dX3_levelAfter_41 : decode cX3_levelAfter 41 = .ok (.ireturn, 1) := by decide +kernel
theorem dX3_hiccupsAt_0 : decode cX3_hiccupsAt 0 = .ok (.iload_n 1, 1) := by decide +kernel
theorem dX3_hiccupsAt_1 : decode cX3_hiccupsAt 1 = .ok (.aload_n 0, 1) := by decide +kernel
theorem dX3_hiccupsAt_2 : decode cX3_hiccupsAt 2 = .ok (.getfield 18, 3) := by decide +kernel
theorem dX3_hiccupsAt_5 : decode cX3_hiccupsAt 5 = .ok (.if_icmp .lt 12, 3) := by decide +kernel
theorem dX3_hiccupsAt_8 : decode cX3_hiccupsAt 8 = .ok (.iload_n 2, 1) := by decide +kernel
theorem dX3_hiccupsAt_9 : decode cX3_hiccupsAt 9 = .ok (.iconst 5, 1) := by decide +kernel
theorem dX3_hiccupsAt_10 : decode cX3_hiccupsAt 10 = .ok (.if_icmp .eq 7, 3) := by decide +kernel
theorem dX3_hiccupsAt_13 : decode cX3_hiccupsAt 13 = .ok (.iconst 1, 1) := by decide +kernel
theorem dX3_hiccupsAt_14 : decode cX3_hiccupsAt 14 = .ok (.goto 4, 3) := by decide +kernel
theorem dX3_hiccupsAt_17 : decode cX3_hiccupsAt 17 = .ok (.iconst 0, 1) := by decide +kernel
theorem dX3_hiccupsAt_18 : decode cX3_hiccupsAt 18 = .ok (.ireturn, 1) := by decide +kernel
theorem dX3_mayServe_0 : decode cX3_mayServe 0 = .ok (.aload_n 0, 1) := by decide +kernel
theorem dX3_mayServe_1 : decode cX3_mayServe 1 = .ok (.getfield 25, 3) := by decide +kernel
theorem dX3_mayServe_4 : decode cX3_mayServe 4 = .ok (.iload_n 1, 1) := by decide +kernel
theorem dX3_mayServe_5 : decode cX3_mayServe 5 = .ok (.ishr, 1) := by decide +kernel
theorem dX3_mayServe_6 : decode cX3_mayServe 6 = .ok (.iconst 1, 1) := by decide +kernel
theorem dX3_mayServe_7 : decode cX3_mayServe 7 = .ok (.iand, 1) := by decide +kernel
theorem dX3_mayServe_8 : decode cX3_mayServe 8 = .ok (.ifCond .ne 7, 3) := by decide +kernel
theorem dX3_mayServe_11 : decode cX3_mayServe 11 = .ok (.iconst 1, 1) := by decide +kernel
theorem dX3_mayServe_12 : decode cX3_mayServe 12 = .ok (.goto 4, 3) := by decide +kernel
theorem dX3_mayServe_15 : decode cX3_mayServe 15 = .ok (.iconst 0, 1) := by decide +kernel
theorem dX3_mayServe_16 : decode cX3_mayServe 16 = .ok (.ireturn, 1) := by decide +kernel
set_option maxRecDepth 20000 in
theorem ggX3_priceOf_X7_isDish : GoodIn wsX3_priceOf wsX7_isDish := goodIn_r _ [4, 5, 6, 3, 7] (by decide +kernel) (by decide +kernel)
set_option maxRecDepth 20000 in
theorem gX3_priceOf_X7_isDish_n28 : GoodIn wsX3_priceOf (wsX7_isDish) := ggX3_priceOf_X7_isDish
theorem dX3_priceOf_0 : decode cX3_priceOf 0 = .ok (.iload_n 1, 1) := by decide +kernel
theorem dX3_priceOf_1 : decode cX3_priceOf 1 = .ok (.invokestatic 28, 3) := by decide +kernel
theorem dX3_priceOf_4 : decode cX3_priceOf 4 = .ok (.ifCond .eq 12, 3) := by decide +kernel
theorem dX3_priceOf_7 : decode cX3_priceOf 7 = .ok (.aload_n 0, 1) := by decide +kernel
theorem dX3_priceOf_8 : decode cX3_priceOf 8 = .ok (.getfield 15, 3) := by decide +kernel
theorem dX3_priceOf_11 : decode cX3_priceOf 11 = .ok (.iload_n 1, 1) := by decide +kernel
theorem dX3_priceOf_12 : decode cX3_priceOf 12 = .ok (.iaload, 1) := by decide +kernel
theorem dX3_priceOf_13 : decode cX3_priceOf 13 = .ok (.goto 4, 3) := by decide +kernel
theorem dX3_priceOf_16 : decode cX3_priceOf 16 = .ok (.iconst 0, 1) := by decide +kernel
theorem dX3_priceOf_17 : decode cX3_priceOf 17 = .ok (.ireturn, 1) := by decide +kernel
theorem dX4_init_0 : decode cX4_init 0 = .ok (.aload_n 0, 1) := by decide +kernel
theorem dX4_init_1 : decode cX4_init 1 = .ok (.invokespecial 3, 3) := by decide +kernel
theorem dX4_init_4 : decode cX4_init 4 = .ok (.aload_n 0, 1) := by decide +kernel
theorem dX4_init_5 : decode cX4_init 5 = .ok (.bipush 48, 2) := by decide +kernel
theorem dX4_init_7 : decode cX4_init 7 = .ok (.newarray .int, 2) := by decide +kernel
theorem dX4_init_9 : decode cX4_init 9 = .ok (.putfield 9, 3) := by decide +kernel
theorem dX4_init_12 : decode cX4_init 12 = .ok (.aload_n 0, 1) := by decide +kernel
theorem dX4_init_13 : decode cX4_init 13 = .ok (.iconst 0, 1) := by decide +kernel
theorem dX4_init_14 : decode cX4_init 14 = .ok (.putfield 15, 3) := by decide +kernel
theorem dX4_init_17 : decode cX4_init 17 = .ok (.aload_n 0, 1) := by decide +kernel
theorem dX4_init_18 : decode cX4_init 18 = .ok (.iconst 0, 1) := by decide +kernel
theorem dX4_init_19 : decode cX4_init 19 = .ok (.putfield 19, 3) := by decide +kernel
theorem dX4_init_22 : decode cX4_init 22 = .ok (.aload_n 0, 1) := by decide +kernel
theorem dX4_init_23 : decode cX4_init 23 = .ok (.iconst 1, 1) := by decide +kernel
theorem dX4_init_24 : decode cX4_init 24 = .ok (.putfield 22, 3) := by decide +kernel
theorem dX4_init_27 : decode cX4_init 27 = .ok (.return_, 1) := by decide +kernel
theorem dX4_renew_0 : decode cX4_renew 0 = .ok (.iconst 0, 1) := by decide +kernel
theorem dX4_renew_1 : decode cX4_renew 1 = .ok (.istore_n 3, 1) := by decide +kernel
theorem dX4_renew_2 : decode cX4_renew 2 = .ok (.iload_n 3, 1) := by decide +kernel
theorem dX4_renew_3 : decode cX4_renew 3 = .ok (.bipush 48, 2) := by decide +kernel
theorem dX4_renew_5 : decode cX4_renew 5 = .ok (.if_icmp .ge 16, 3) := by decide +kernel
theorem dX4_renew_8 : decode cX4_renew 8 = .ok (.aload_n 0, 1) := by decide +kernel
theorem dX4_renew_9 : decode cX4_renew 9 = .ok (.getfield 9, 3) := by decide +kernel
theorem dX4_renew_12 : decode cX4_renew 12 = .ok (.iload_n 3, 1) := by decide +kernel
theorem dX4_renew_13 : decode cX4_renew 13 = .ok (.iconst 0, 1) := by decide +kernel
theorem dX4_renew_14 : decode cX4_renew 14 = .ok (.iastore, 1) := by decide +kernel
theorem dX4_renew_15 : decode cX4_renew 15 = .ok (.iinc 3 1, 3) := by decide +kernel
theorem dX4_renew_18 : decode cX4_renew 18 = .ok (.goto (-16), 3) := by decide +kernel
theorem dX4_renew_21 : decode cX4_renew 21 = .ok (.aload_n 0, 1) := by decide +kernel
theorem dX4_renew_22 : decode cX4_renew 22 = .ok (.iload_n 1, 1) := by decide +kernel
theorem dX4_renew_23 : decode cX4_renew 23 = .ok (.putfield 15, 3) := by decide +kernel
theorem dX4_renew_26 : decode cX4_renew 26 = .ok (.aload_n 0, 1) := by decide +kernel
theorem dX4_renew_27 : decode cX4_renew 27 = .ok (.iload_n 2, 1) := by decide +kernel
theorem dX4_renew_28 : decode cX4_renew 28 = .ok (.putfield 19, 3) := by decide +kernel
theorem dX4_renew_31 : decode cX4_renew 31 = .ok (.aload_n 0, 1) := by decide +kernel
theorem dX4_renew_32 : decode cX4_renew 32 = .ok (.iconst 0, 1) := by decide +kernel
theorem dX4_renew_33 : decode cX4_renew 33 = .ok (.putfield 22, 3) := by decide +kernel
theorem dX4_renew_36 : decode cX4_renew 36 = .ok (.return_, 1) := by decide +kernel
set_option maxRecDepth 20000 in
theorem ggX4_findingAt_X4_hasItems : GoodIn wsX4_findingAt wsX4_hasItems := goodIn_r _ [7, 8, 9, 10, 11, 12] (by decide +kernel) (by decide +kernel)
set_option maxRecDepth 20000 in
theorem gX4_findingAt_X4_hasItems : GoodIn wsX4_findingAt (wsV RX4 26 RX4 yX4_hasItems wsX4_hasItems) := goodIn_app (goodIn_of _ (by decide +kernel)) ggX4_findingAt_X4_hasItems
theorem dX4_findingAt_0 : decode cX4_findingAt 0 = .ok (.aload_n 0, 1) := by decide +kernel
theorem dX4_findingAt_1 : decode cX4_findingAt 1 = .ok (.getfield 22, 3) := by decide +kernel
theorem dX4_findingAt_4 : decode cX4_findingAt 4 = .ok (.ifCond .eq 5, 3) := by decide +kernel
theorem dX4_findingAt_7 : decode cX4_findingAt 7 = .ok (.iconst 1, 1) := by decide +kernel
theorem dX4_findingAt_8 : decode cX4_findingAt 8 = .ok (.ireturn, 1) := by decide +kernel
theorem dX4_findingAt_9 : decode cX4_findingAt 9 = .ok (.aload_n 0, 1) := by decide +kernel
theorem dX4_findingAt_10 : decode cX4_findingAt 10 = .ok (.getfield 15, 3) := by decide +kernel
theorem dX4_findingAt_13 : decode cX4_findingAt 13 = .ok (.iload_n 1, 1) := by decide +kernel
theorem dX4_findingAt_14 : decode cX4_findingAt 14 = .ok (.if_icmp .eq 5, 3) := by decide +kernel
theorem dX4_findingAt_17 : decode cX4_findingAt 17 = .ok (.iconst 3, 1) := by decide +kernel
theorem dX4_findingAt_18 : decode cX4_findingAt 18 = .ok (.ireturn, 1) := by decide +kernel
theorem dX4_findingAt_19 : decode cX4_findingAt 19 = .ok (.aload_n 0, 1) := by decide +kernel
theorem dX4_findingAt_20 : decode cX4_findingAt 20 = .ok (.iload_n 2, 1) := by decide +kernel
theorem dX4_findingAt_21 : decode cX4_findingAt 21 = .ok (.iconst 1, 1) := by decide +kernel
theorem dX4_findingAt_22 : decode cX4_findingAt 22 = .ok (.invokevirtual 26, 3) := by decide +kernel
theorem dX4_findingAt_25 : decode cX4_findingAt 25 = .ok (.ifCond .eq 7, 3) := by decide +kernel
theorem dX4_findingAt_28 : decode cX4_findingAt 28 = .ok (.iconst 0, 1) := by decide +kernel
theorem dX4_findingAt_29 : decode cX4_findingAt 29 = .ok (.goto 4, 3) := by decide +kernel
theorem dX4_findingAt_32 : decode cX4_findingAt 32 = .ok (.iconst 2, 1) := by decide +kernel
theorem dX4_findingAt_33 : decode cX4_findingAt 33 = .ok (.ireturn, 1) := by decide +kernel
theorem dX4_hasItems_0 : decode cX4_hasItems 0 = .ok (.iload_n 1, 1) := by decide +kernel
theorem dX4_hasItems_1 : decode cX4_hasItems 1 = .ok (.ifCond .lt 29, 3) := by decide +kernel
theorem dX4_hasItems_4 : decode cX4_hasItems 4 = .ok (.iload_n 2, 1) := by decide +kernel
theorem dX4_hasItems_5 : decode cX4_hasItems 5 = .ok (.ifCond .lt 25, 3) := by decide +kernel
theorem dX4_hasItems_8 : decode cX4_hasItems 8 = .ok (.iload_n 1, 1) := by decide +kernel
theorem dX4_hasItems_9 : decode cX4_hasItems 9 = .ok (.aload_n 0, 1) := by decide +kernel
theorem dX4_hasItems_10 : decode cX4_hasItems 10 = .ok (.getfield 19, 3) := by decide +kernel
theorem dX4_hasItems_13 : decode cX4_hasItems 13 = .ok (.if_icmp .gt 17, 3) := by decide +kernel
theorem dX4_hasItems_16 : decode cX4_hasItems 16 = .ok (.iload_n 2, 1) := by decide +kernel
theorem dX4_hasItems_17 : decode cX4_hasItems 17 = .ok (.aload_n 0, 1) := by decide +kernel
theorem dX4_hasItems_18 : decode cX4_hasItems 18 = .ok (.getfield 19, 3) := by decide +kernel
theorem dX4_hasItems_21 : decode cX4_hasItems 21 = .ok (.iload_n 1, 1) := by decide +kernel
theorem dX4_hasItems_22 : decode cX4_hasItems 22 = .ok (.isub, 1) := by decide +kernel
theorem dX4_hasItems_23 : decode cX4_hasItems 23 = .ok (.if_icmp .gt 7, 3) := by decide +kernel
theorem dX4_hasItems_26 : decode cX4_hasItems 26 = .ok (.iconst 1, 1) := by decide +kernel
theorem dX4_hasItems_27 : decode cX4_hasItems 27 = .ok (.goto 4, 3) := by decide +kernel
theorem dX4_hasItems_30 : decode cX4_hasItems 30 = .ok (.iconst 0, 1) := by decide +kernel
theorem dX4_hasItems_31 : decode cX4_hasItems 31 = .ok (.ireturn, 1) := by decide +kernel
set_option maxRecDepth 20000 in
theorem ggX4_store_X4_hasItems : GoodIn wsX4_store wsX4_hasItems := goodIn_r _ [7, 8, 9, 10, 11, 12] (by decide +kernel) (by decide +kernel)
set_option maxRecDepth 20000 in
theorem gX4_store_X4_hasItems : GoodIn wsX4_store (wsV RX4 26 RX4 yX4_hasItems wsX4_hasItems) := goodIn_app (goodIn_of _ (by decide +kernel)) ggX4_store_X4_hasItems
theorem dX4_store_0 : decode cX4_store 0 = .ok (.aload_n 0, 1) := by decide +kernel
theorem dX4_store_1 : decode cX4_store 1 = .ok (.iload_n 1, 1) := by decide +kernel
theorem dX4_store_2 : decode cX4_store 2 = .ok (.iconst 1, 1) := by decide +kernel
theorem dX4_store_3 : decode cX4_store 3 = .ok (.invokevirtual 26, 3) := by decide +kernel
theorem dX4_store_6 : decode cX4_store 6 = .ok (.ifCond .ne 4, 3) := by decide +kernel
theorem dX4_store_9 : decode cX4_store 9 = .ok (.return_, 1) := by decide +kernel
theorem dX4_store_10 : decode cX4_store 10 = .ok (.aload_n 0, 1) := by decide +kernel
theorem dX4_store_11 : decode cX4_store 11 = .ok (.getfield 15, 3) := by decide +kernel
theorem dX4_store_14 : decode cX4_store 14 = .ok (.ifCond .ne 14, 3) := by decide +kernel
theorem dX4_store_17 : decode cX4_store 17 = .ok (.aload_n 0, 1) := by decide +kernel
theorem dX4_store_18 : decode cX4_store 18 = .ok (.getfield 9, 3) := by decide +kernel
theorem dX4_store_21 : decode cX4_store 21 = .ok (.iload_n 1, 1) := by decide +kernel
theorem dX4_store_22 : decode cX4_store 22 = .ok (.iload_n 2, 1) := by decide +kernel
theorem dX4_store_23 : decode cX4_store 23 = .ok (.i2b, 1) := by decide +kernel
theorem dX4_store_24 : decode cX4_store 24 = .ok (.iastore, 1) := by decide +kernel
theorem dX4_store_25 : decode cX4_store 25 = .ok (.goto 29, 3) := by decide +kernel
theorem dX4_store_28 : decode cX4_store 28 = .ok (.aload_n 0, 1) := by decide +kernel
theorem dX4_store_29 : decode cX4_store 29 = .ok (.getfield 15, 3) := by decide +kernel
theorem dX4_store_32 : decode cX4_store 32 = .ok (.iconst 1, 1) := by decide +kernel
theorem dX4_store_33 : decode cX4_store 33 = .ok (.if_icmp .ne 14, 3) := by decide +kernel
theorem dX4_store_36 : decode cX4_store 36 = .ok (.aload_n 0, 1) := by decide +kernel
theorem dX4_store_37 : decode cX4_store 37 = .ok (.getfield 9, 3) := by decide +kernel
theorem dX4_store_40 : decode cX4_store 40 = .ok (.iload_n 1, 1) := by decide +kernel
theorem dX4_store_41 : decode cX4_store 41 = .ok (.iload_n 2, 1) := by decide +kernel
theorem dX4_store_42 : decode cX4_store 42 = .ok (.i2s, 1) := by decide +kernel
theorem dX4_store_43 : decode cX4_store 43 = .ok (.iastore, 1) := by decide +kernel
theorem dX4_store_44 : decode cX4_store 44 = .ok (.goto 10, 3) := by decide +kernel
theorem dX4_store_47 : decode cX4_store 47 = .ok (.aload_n 0, 1) := by decide +kernel
theorem dX4_store_48 : decode cX4_store 48 = .ok (.getfield 9, 3) := by decide +kernel
theorem dX4_store_51 : decode cX4_store 51 = .ok (.iload_n 1, 1) := by decide +kernel
theorem dX4_store_52 : decode cX4_store 52 = .ok (.iload_n 2, 1) := by decide +kernel
theorem dX4_store_53 : decode cX4_store 53 = .ok (.iastore, 1) := by decide +kernel
theorem dX4_store_54 : decode cX4_store 54 = .ok (.return_, 1) := by decide +kernel
theorem dX5_init_0 : decode cX5_init 0 = .ok (.aload_n 0, 1) := by decide +kernel
theorem dX5_init_1 : decode cX5_init 1 = .ok (.invokespecial 3, 3) := by decide +kernel
theorem dX5_init_4 : decode cX5_init 4 = .ok (.aload_n 0, 1) := by decide +kernel
theorem dX5_init_5 : decode cX5_init 5 = .ok (.bipush 8, 2) := by decide +kernel
theorem dX5_init_7 : decode cX5_init 7 = .ok (.newarray .int, 2) := by decide +kernel
theorem dX5_init_9 : decode cX5_init 9 = .ok (.putfield 9, 3) := by decide +kernel
theorem dX5_init_12 : decode cX5_init 12 = .ok (.aload_n 0, 1) := by decide +kernel
theorem dX5_init_13 : decode cX5_init 13 = .ok (.bipush 8, 2) := by decide +kernel
theorem dX5_init_15 : decode cX5_init 15 = .ok (.newarray .int, 2) := by decide +kernel
theorem dX5_init_17 : decode cX5_init 17 = .ok (.putfield 15, 3) := by decide +kernel
theorem dX5_init_20 : decode cX5_init 20 = .ok (.aload_n 0, 1) := by decide +kernel
theorem dX5_init_21 : decode cX5_init 21 = .ok (.bipush 8, 2) := by decide +kernel
theorem dX5_init_23 : decode cX5_init 23 = .ok (.newarray .int, 2) := by decide +kernel
theorem dX5_init_25 : decode cX5_init 25 = .ok (.putfield 18, 3) := by decide +kernel
theorem dX5_init_28 : decode cX5_init 28 = .ok (.aload_n 0, 1) := by decide +kernel
theorem dX5_init_29 : decode cX5_init 29 = .ok (.iconst 0, 1) := by decide +kernel
theorem dX5_init_30 : decode cX5_init 30 = .ok (.putfield 21, 3) := by decide +kernel
theorem dX5_init_33 : decode cX5_init 33 = .ok (.return_, 1) := by decide +kernel
theorem dX5_add_0 : decode cX5_add 0 = .ok (.aload_n 0, 1) := by decide +kernel
theorem dX5_add_1 : decode cX5_add 1 = .ok (.getfield 21, 3) := by decide +kernel
theorem dX5_add_4 : decode cX5_add 4 = .ok (.bipush 8, 2) := by decide +kernel
theorem dX5_add_6 : decode cX5_add 6 = .ok (.if_icmp .lt 6, 3) := by decide +kernel
theorem dX5_add_9 : decode cX5_add 9 = .ok (.bipush (-4), 2) := by decide +kernel
theorem dX5_add_11 : decode cX5_add 11 = .ok (.ireturn, 1) := by decide +kernel
theorem dX5_add_12 : decode cX5_add 12 = .ok (.aload_n 0, 1) := by decide +kernel
theorem dX5_add_13 : decode cX5_add 13 = .ok (.getfield 9, 3) := by decide +kernel
theorem dX5_add_16 : decode cX5_add 16 = .ok (.aload_n 0, 1) := by decide +kernel
theorem dX5_add_17 : decode cX5_add 17 = .ok (.getfield 21, 3) := by decide +kernel
theorem dX5_add_20 : decode cX5_add 20 = .ok (.iload_n 1, 1) := by decide +kernel
theorem dX5_add_21 : decode cX5_add 21 = .ok (.iastore, 1) := by decide +kernel
theorem dX5_add_22 : decode cX5_add 22 = .ok (.aload_n 0, 1) := by decide +kernel
theorem dX5_add_23 : decode cX5_add 23 = .ok (.getfield 15, 3) := by decide +kernel
theorem dX5_add_26 : decode cX5_add 26 = .ok (.aload_n 0, 1) := by decide +kernel
theorem dX5_add_27 : decode cX5_add 27 = .ok (.getfield 21, 3) := by decide +kernel
theorem dX5_add_30 : decode cX5_add 30 = .ok (.iload_n 2, 1) := by decide +kernel
theorem dX5_add_31 : decode cX5_add 31 = .ok (.iastore, 1) := by decide +kernel
theorem dX5_add_32 : decode cX5_add 32 = .ok (.aload_n 0, 1) := by decide +kernel
theorem dX5_add_33 : decode cX5_add 33 = .ok (.getfield 18, 3) := by decide +kernel
theorem dX5_add_36 : decode cX5_add 36 = .ok (.aload_n 0, 1) := by decide +kernel
theorem dX5_add_37 : decode cX5_add 37 = .ok (.getfield 21, 3) := by decide +kernel
theorem dX5_add_40 : decode cX5_add 40 = .ok (.iload_n 3, 1) := by decide +kernel
theorem dX5_add_41 : decode cX5_add 41 = .ok (.iastore, 1) := by decide +kernel
theorem dX5_add_42 : decode cX5_add 42 = .ok (.aload_n 0, 1) := by decide +kernel
theorem dX5_add_43 : decode cX5_add 43 = .ok (.dup, 1) := by decide +kernel
theorem dX5_add_44 : decode cX5_add 44 = .ok (.getfield 21, 3) := by decide +kernel
theorem dX5_add_47 : decode cX5_add 47 = .ok (.iconst 1, 1) := by decide +kernel
theorem dX5_add_48 : decode cX5_add 48 = .ok (.iadd, 1) := by decide +kernel
theorem dX5_add_49 : decode cX5_add 49 = .ok (.putfield 21, 3) := by decide +kernel
theorem dX5_add_52 : decode cX5_add 52 = .ok (.aload_n 0, 1) := by decide +kernel
theorem dX5_add_53 : decode cX5_add 53 = .ok (.getfield 21, 3) := by decide +kernel
theorem dX5_add_56 : decode cX5_add 56 = .ok (.ireturn, 1) := by decide +kernel
set_option maxRecDepth 20000 in
theorem ggX5_unlikeOf_X7_hasHour : GoodIn wsX5_unlikeOf wsX7_hasHour := goodIn_r _ [7] (by decide +kernel) (by decide +kernel)
set_option maxRecDepth 20000 in
theorem gX5_unlikeOf_X7_hasHour_n25 : GoodIn wsX5_unlikeOf (wsX7_hasHour) := ggX5_unlikeOf_X7_hasHour
theorem dX5_unlikeOf_0 : decode cX5_unlikeOf 0 = .ok (.iconst 0, 1) := by decide +kernel
theorem dX5_unlikeOf_1 : decode cX5_unlikeOf 1 = .ok (.istore_n 3, 1) := by decide +kernel
theorem dX5_unlikeOf_2 : decode cX5_unlikeOf 2 = .ok (.iconst 0, 1) := by decide +kernel
theorem dX5_unlikeOf_3 : decode cX5_unlikeOf 3 = .ok (.istore 4, 2) := by decide +kernel
theorem dX5_unlikeOf_5 : decode cX5_unlikeOf 5 = .ok (.iload 4, 2) := by decide +kernel
theorem dX5_unlikeOf_7 : decode cX5_unlikeOf 7 = .ok (.aload_n 0, 1) := by decide +kernel
theorem dX5_unlikeOf_8 : decode cX5_unlikeOf 8 = .ok (.getfield 21, 3) := by decide +kernel
theorem dX5_unlikeOf_11 : decode cX5_unlikeOf 11 = .ok (.if_icmp .ge 53, 3) := by decide +kernel
theorem dX5_unlikeOf_14 : decode cX5_unlikeOf 14 = .ok (.aload_n 0, 1) := by decide +kernel
theorem dX5_unlikeOf_15 : decode cX5_unlikeOf 15 = .ok (.getfield 9, 3) := by decide +kernel
theorem dX5_unlikeOf_18 : decode cX5_unlikeOf 18 = .ok (.iload 4, 2) := by decide +kernel
theorem dX5_unlikeOf_20 : decode cX5_unlikeOf 20 = .ok (.iaload, 1) := by decide +kernel
theorem dX5_unlikeOf_21 : decode cX5_unlikeOf 21 = .ok (.iload_n 1, 1) := by decide +kernel
theorem dX5_unlikeOf_22 : decode cX5_unlikeOf 22 = .ok (.if_icmp .ne 36, 3) := by decide +kernel
theorem dX5_unlikeOf_25 : decode cX5_unlikeOf 25 = .ok (.iload_n 2, 1) := by decide +kernel
theorem dX5_unlikeOf_26 : decode cX5_unlikeOf 26 = .ok (.aload_n 0, 1) := by decide +kernel
theorem dX5_unlikeOf_27 : decode cX5_unlikeOf 27 = .ok (.getfield 15, 3) := by decide +kernel
theorem dX5_unlikeOf_30 : decode cX5_unlikeOf 30 = .ok (.iload 4, 2) := by decide +kernel
theorem dX5_unlikeOf_32 : decode cX5_unlikeOf 32 = .ok (.iaload, 1) := by decide +kernel
theorem dX5_unlikeOf_33 : decode cX5_unlikeOf 33 = .ok (.invokestatic 25, 3) := by decide +kernel
theorem dX5_unlikeOf_36 : decode cX5_unlikeOf 36 = .ok (.aload_n 0, 1) := by decide +kernel
theorem dX5_unlikeOf_37 : decode cX5_unlikeOf 37 = .ok (.getfield 18, 3) := by decide +kernel
theorem dX5_unlikeOf_40 : decode cX5_unlikeOf 40 = .ok (.iload 4, 2) := by decide +kernel
theorem dX5_unlikeOf_42 : decode cX5_unlikeOf 42 = .ok (.iaload, 1) := by decide +kernel
theorem dX5_unlikeOf_43 : decode cX5_unlikeOf 43 = .ok (.iconst 1, 1) := by decide +kernel
theorem dX5_unlikeOf_44 : decode cX5_unlikeOf 44 = .ok (.if_icmp .ne 7, 3) := by decide +kernel
theorem dX5_unlikeOf_47 : decode cX5_unlikeOf 47 = .ok (.iconst 1, 1) := by decide +kernel
theorem dX5_unlikeOf_48 : decode cX5_unlikeOf 48 = .ok (.goto 4, 3) := by decide +kernel
theorem dX5_unlikeOf_51 : decode cX5_unlikeOf 51 = .ok (.iconst 0, 1) := by decide +kernel
theorem dX5_unlikeOf_52 : decode cX5_unlikeOf 52 = .ok (.if_icmp .eq 6, 3) := by decide +kernel
theorem dX5_unlikeOf_55 : decode cX5_unlikeOf 55 = .ok (.iinc 3 1, 3) := by decide +kernel
theorem dX5_unlikeOf_58 : decode cX5_unlikeOf 58 = .ok (.iinc 4 1, 3) := by decide +kernel
theorem dX5_unlikeOf_61 : decode cX5_unlikeOf 61 = .ok (.goto (-56), 3) := by decide +kernel
theorem dX5_unlikeOf_64 : decode cX5_unlikeOf 64 = .ok (.iload_n 3, 1) := by decide +kernel
theorem dX5_unlikeOf_65 : decode cX5_unlikeOf 65 = .ok (.ireturn, 1) := by decide +kernel
theorem dX6_init_0 : decode cX6_init 0 = .ok (.aload_n 0, 1) := by decide +kernel
theorem dX6_init_1 : decode cX6_init 1 = .ok (.invokespecial 3, 3) := by decide +kernel
theorem dX6_init_4 : decode cX6_init 4 = .ok (.aload_n 0, 1) := by decide +kernel
theorem dX6_init_5 : decode cX6_init 5 = .ok (.bipush 100, 2) := by decide +kernel
theorem dX6_init_7 : decode cX6_init 7 = .ok (.newarray .int, 2) := by decide +kernel
theorem dX6_init_9 : decode cX6_init 9 = .ok (.putfield 9, 3) := by decide +kernel
theorem dX6_init_12 : decode cX6_init 12 = .ok (.return_, 1) := by decide +kernel
set_option maxRecDepth 20000 in
theorem ggX6_weigh_X6_weighHour : GoodIn wsX6_weigh wsX6_weighHour := goodIn_r _ [6, 1, 7, 8, 9, 5, 10, 11, 12, 13, 14, 15, 16, 17, 18, 19, 20, 21, 22, 23, 24, 25, 26, 27, 28, 29, 30, 31, 32, 33, 34, 35, 36, 37, 38, 39, 40] (by decide +kernel) (by decide +kernel)
set_option maxRecDepth 20000 in
theorem gX6_weigh_X6_weighHour : GoodIn wsX6_weigh (wsV RX6 15 RX6 yX6_weighHour wsX6_weighHour) := goodIn_app (goodIn_of _ (by decide +kernel)) ggX6_weigh_X6_weighHour
theorem dX6_weigh_0 : decode cX6_weigh 0 = .ok (.iconst 0, 1) := by decide +kernel
theorem dX6_weigh_1 : decode cX6_weigh 1 = .ok (.istore_n 3, 1) := by decide +kernel
theorem dX6_weigh_2 : decode cX6_weigh 2 = .ok (.iload_n 3, 1) := by decide +kernel
theorem dX6_weigh_3 : decode cX6_weigh 3 = .ok (.bipush 100, 2) := by decide +kernel
theorem dX6_weigh_5 : decode cX6_weigh 5 = .ok (.if_icmp .ge 16, 3) := by decide +kernel
theorem dX6_weigh_8 : decode cX6_weigh 8 = .ok (.aload_n 0, 1) := by decide +kernel
theorem dX6_weigh_9 : decode cX6_weigh 9 = .ok (.getfield 9, 3) := by decide +kernel
theorem dX6_weigh_12 : decode cX6_weigh 12 = .ok (.iload_n 3, 1) := by decide +kernel
theorem dX6_weigh_13 : decode cX6_weigh 13 = .ok (.iconst 0, 1) := by decide +kernel
theorem dX6_weigh_14 : decode cX6_weigh 14 = .ok (.iastore, 1) := by decide +kernel
theorem dX6_weigh_15 : decode cX6_weigh 15 = .ok (.iinc 3 1, 3) := by decide +kernel
theorem dX6_weigh_18 : decode cX6_weigh 18 = .ok (.goto (-16), 3) := by decide +kernel
theorem dX6_weigh_21 : decode cX6_weigh 21 = .ok (.iconst 1, 1) := by decide +kernel
theorem dX6_weigh_22 : decode cX6_weigh 22 = .ok (.istore_n 3, 1) := by decide +kernel
theorem dX6_weigh_23 : decode cX6_weigh 23 = .ok (.iconst 1, 1) := by decide +kernel
theorem dX6_weigh_24 : decode cX6_weigh 24 = .ok (.istore 4, 2) := by decide +kernel
theorem dX6_weigh_26 : decode cX6_weigh 26 = .ok (.iload 4, 2) := by decide +kernel
theorem dX6_weigh_28 : decode cX6_weigh 28 = .ok (.iload_n 2, 1) := by decide +kernel
theorem dX6_weigh_29 : decode cX6_weigh 29 = .ok (.if_icmp .gt 21, 3) := by decide +kernel
theorem dX6_weigh_32 : decode cX6_weigh 32 = .ok (.iload_n 3, 1) := by decide +kernel
theorem dX6_weigh_33 : decode cX6_weigh 33 = .ok (.ifCond .eq 17, 3) := by decide +kernel
theorem dX6_weigh_36 : decode cX6_weigh 36 = .ok (.aload_n 0, 1) := by decide +kernel
theorem dX6_weigh_37 : decode cX6_weigh 37 = .ok (.aload_n 1, 1) := by decide +kernel
theorem dX6_weigh_38 : decode cX6_weigh 38 = .ok (.iload 4, 2) := by decide +kernel
theorem dX6_weigh_40 : decode cX6_weigh 40 = .ok (.invokevirtual 15, 3) := by decide +kernel
theorem dX6_weigh_43 : decode cX6_weigh 43 = .ok (.istore_n 3, 1) := by decide +kernel
theorem dX6_weigh_44 : decode cX6_weigh 44 = .ok (.iinc 4 1, 3) := by decide +kernel
theorem dX6_weigh_47 : decode cX6_weigh 47 = .ok (.goto (-21), 3) := by decide +kernel
theorem dX6_weigh_50 : decode cX6_weigh 50 = .ok (.return_, 1) := by decide +kernel
set_option maxRecDepth 20000 in
theorem ggX6_weighHour_X6_firstDish : GoodIn wsX6_weighHour wsX6_firstDish := goodIn_r _ [6, 7, 8, 9, 10, 11, 12, 13, 14, 15, 5, 16, 17, 18, 19, 20, 21, 22, 23, 24, 25, 26, 27, 28, 29, 30, 1, 32, 33, 34, 35, 36, 31] (by decide +kernel) (by decide +kernel)
set_option maxRecDepth 20000 in
theorem gX6_weighHour_X6_firstDish : GoodIn wsX6_weighHour (wsV RX6 19 RX6 yX6_firstDish wsX6_firstDish) := goodIn_app (goodIn_of _ (by decide +kernel)) ggX6_weighHour_X6_firstDish
theorem dX6_weighHour_0 : decode cX6_weighHour 0 = .ok (.iconst 0, 1) := by decide +kernel
theorem dX6_weighHour_1 : decode cX6_weighHour 1 = .ok (.istore_n 3, 1) := by decide +kernel
theorem dX6_weighHour_2 : decode cX6_weighHour 2 = .ok (.iconst 0, 1) := by decide +kernel
theorem dX6_weighHour_3 : decode cX6_weighHour 3 = .ok (.istore 4, 2) := by decide +kernel
theorem dX6_weighHour_5 : decode cX6_weighHour 5 = .ok (.iload 4, 2) := by decide +kernel
theorem dX6_weighHour_7 : decode cX6_weighHour 7 = .ok (.bipush 100, 2) := by decide +kernel
theorem dX6_weighHour_9 : decode cX6_weighHour 9 = .ok (.if_icmp .ge 49, 3) := by decide +kernel
theorem dX6_weighHour_12 : decode cX6_weighHour 12 = .ok (.aload_n 0, 1) := by decide +kernel
theorem dX6_weighHour_13 : decode cX6_weighHour 13 = .ok (.getfield 9, 3) := by decide +kernel
theorem dX6_weighHour_16 : decode cX6_weighHour 16 = .ok (.iload 4, 2) := by decide +kernel
theorem dX6_weighHour_18 : decode cX6_weighHour 18 = .ok (.iaload, 1) := by decide +kernel
theorem dX6_weighHour_19 : decode cX6_weighHour 19 = .ok (.ifCond .ne 33, 3) := by decide +kernel
theorem dX6_weighHour_22 : decode cX6_weighHour 22 = .ok (.aload_n 0, 1) := by decide +kernel
theorem dX6_weighHour_23 : decode cX6_weighHour 23 = .ok (.aload_n 1, 1) := by decide +kernel
theorem dX6_weighHour_24 : decode cX6_weighHour 24 = .ok (.iload 4, 2) := by decide +kernel
theorem dX6_weighHour_26 : decode cX6_weighHour 26 = .ok (.bipush 10, 2) := by decide +kernel
theorem dX6_weighHour_28 : decode cX6_weighHour 28 = .ok (.idiv, 1) := by decide +kernel
theorem dX6_weighHour_29 : decode cX6_weighHour 29 = .ok (.iload 4, 2) := by decide +kernel
theorem dX6_weighHour_31 : decode cX6_weighHour 31 = .ok (.bipush 10, 2) := by decide +kernel
theorem dX6_weighHour_33 : decode cX6_weighHour 33 = .ok (.irem, 1) := by decide +kernel
theorem dX6_weighHour_34 : decode cX6_weighHour 34 = .ok (.iload_n 2, 1) := by decide +kernel
theorem dX6_weighHour_35 : decode cX6_weighHour 35 = .ok (.invokevirtual 19, 3) := by decide +kernel
theorem dX6_weighHour_38 : decode cX6_weighHour 38 = .ok (.iconst (-1), 1) := by decide +kernel
theorem dX6_weighHour_39 : decode cX6_weighHour 39 = .ok (.if_icmp .eq 13, 3) := by decide +kernel
theorem dX6_weighHour_42 : decode cX6_weighHour 42 = .ok (.aload_n 0, 1) := by decide +kernel
theorem dX6_weighHour_43 : decode cX6_weighHour 43 = .ok (.getfield 9, 3) := by decide +kernel
theorem dX6_weighHour_46 : decode cX6_weighHour 46 = .ok (.iload 4, 2) := by decide +kernel
theorem dX6_weighHour_48 : decode cX6_weighHour 48 = .ok (.iload_n 2, 1) := by decide +kernel
theorem dX6_weighHour_49 : decode cX6_weighHour 49 = .ok (.iastore, 1) := by decide +kernel
theorem dX6_weighHour_50 : decode cX6_weighHour 50 = .ok (.iconst 1, 1) := by decide +kernel
theorem dX6_weighHour_51 : decode cX6_weighHour 51 = .ok (.istore_n 3, 1) := by decide +kernel
theorem dX6_weighHour_52 : decode cX6_weighHour 52 = .ok (.iinc 4 1, 3) := by decide +kernel
theorem dX6_weighHour_55 : decode cX6_weighHour 55 = .ok (.goto (-50), 3) := by decide +kernel
theorem dX6_weighHour_58 : decode cX6_weighHour 58 = .ok (.iload_n 3, 1) := by decide +kernel
theorem dX6_weighHour_59 : decode cX6_weighHour 59 = .ok (.ireturn, 1) := by decide +kernel
set_option maxRecDepth 20000 in
theorem ggX6_firstDish_X3_mayServe : GoodIn wsX6_firstDish wsX3_mayServe := goodIn_r _ [5, 6, 27, 28, 29, 30, 31] (by decide +kernel) (by decide +kernel)
set_option maxRecDepth 20000 in
theorem gX6_firstDish_X3_mayServe : GoodIn wsX6_firstDish (wsV RX6 23 RX3 yX3_mayServe wsX3_mayServe) := goodIn_app (goodIn_of _ (by decide +kernel)) ggX6_firstDish_X3_mayServe
set_option maxRecDepth 20000 in
theorem ggX6_firstDish_X6_forces : GoodIn wsX6_firstDish wsX6_forces := goodIn_r _ [11, 12, 13, 14, 4, 15, 16, 17, 18, 19, 20, 21, 1, 2, 3, 5, 6, 22, 23, 24, 10, 25, 26, 27, 28, 29, 30, 31, 32] (by decide +kernel) (by decide +kernel)
set_option maxRecDepth 20000 in
theorem gX6_firstDish_X6_forces : GoodIn wsX6_firstDish (wsV RX6 29 RX6 yX6_forces wsX6_forces) := goodIn_app (goodIn_of _ (by decide +kernel)) ggX6_firstDish_X6_forces
theorem dX6_firstDish_0 : decode cX6_firstDish 0 = .ok (.iconst 0, 1) := by decide +kernel
theorem dX6_firstDish_1 : decode cX6_firstDish 1 = .ok (.istore 5, 2) := by decide +kernel
theorem dX6_firstDish_3 : decode cX6_firstDish 3 = .ok (.iload 5, 2) := by decide +kernel
theorem dX6_firstDish_5 : decode cX6_firstDish 5 = .ok (.bipush 7, 2) := by decide +kernel
theorem dX6_firstDish_7 : decode cX6_firstDish 7 = .ok (.if_icmp .ge 35, 3) := by decide +kernel
theorem dX6_firstDish_10 : decode cX6_firstDish 10 = .ok (.aload_n 1, 1) := by decide +kernel
theorem dX6_firstDish_11 : decode cX6_firstDish 11 = .ok (.iload 5, 2) := by decide +kernel
theorem dX6_firstDish_13 : decode cX6_firstDish 13 = .ok (.invokevirtual 23, 3) := by decide +kernel
theorem dX6_firstDish_16 : decode cX6_firstDish 16 = .ok (.ifCond .eq 20, 3) := by decide +kernel
theorem dX6_firstDish_19 : decode cX6_firstDish 19 = .ok (.aload_n 0, 1) := by decide +kernel
theorem dX6_firstDish_20 : decode cX6_firstDish 20 = .ok (.aload_n 1, 1) := by decide +kernel
theorem dX6_firstDish_21 : decode cX6_firstDish 21 = .ok (.iload_n 2, 1) := by decide +kernel
theorem dX6_firstDish_22 : decode cX6_firstDish 22 = .ok (.iload_n 3, 1) := by decide +kernel
theorem dX6_firstDish_23 : decode cX6_firstDish 23 = .ok (.iload 5, 2) := by decide +kernel
theorem dX6_firstDish_25 : decode cX6_firstDish 25 = .ok (.iload 4, 2) := by decide +kernel
theorem dX6_firstDish_27 : decode cX6_firstDish 27 = .ok (.invokevirtual 29, 3) := by decide +kernel
theorem dX6_firstDish_30 : decode cX6_firstDish 30 = .ok (.ifCond .eq 6, 3) := by decide +kernel
theorem dX6_firstDish_33 : decode cX6_firstDish 33 = .ok (.iload 5, 2) := by decide +kernel
theorem dX6_firstDish_35 : decode cX6_firstDish 35 = .ok (.ireturn, 1) := by decide +kernel
theorem dX6_firstDish_36 : decode cX6_firstDish 36 = .ok (.iinc 5 1, 3) := by decide +kernel
theorem dX6_firstDish_39 : decode cX6_firstDish 39 = .ok (.goto (-36), 3) := by decide +kernel
theorem dX6_firstDish_42 : decode cX6_firstDish 42 = .ok (.iconst (-1), 1) := by decide +kernel
theorem dX6_firstDish_43 : decode cX6_firstDish 43 = .ok (.ireturn, 1) := by decide +kernel
set_option maxRecDepth 20000 in
theorem ggX6_forces_X3_levelAfter : GoodIn wsX6_forces wsX3_levelAfter := goodIn_r _ [5, 6, 23, 24, 25, 26, 27] (by decide +kernel) (by decide +kernel)
set_option maxRecDepth 20000 in
theorem gX6_forces_X3_levelAfter : GoodIn wsX6_forces (wsV RX6 33 RX3 yX3_levelAfter wsX3_levelAfter) := goodIn_app (goodIn_of _ (by decide +kernel)) ggX6_forces_X3_levelAfter
set_option maxRecDepth 20000 in
theorem ggX6_forces_X3_hiccupsAt : GoodIn wsX6_forces wsX3_hiccupsAt := goodIn_r _ [10, 11, 23, 24, 25, 26, 27] (by decide +kernel) (by decide +kernel)
set_option maxRecDepth 20000 in
theorem gX6_forces_X3_hiccupsAt : GoodIn wsX6_forces (wsV RX6 37 RX3 yX3_hiccupsAt wsX3_hiccupsAt) := goodIn_app (goodIn_of _ (by decide +kernel)) ggX6_forces_X3_hiccupsAt
set_option maxRecDepth 20000 in
theorem ggX6_forces_X3_mayServe : GoodIn wsX6_forces wsX3_mayServe := goodIn_r _ [15, 16, 23, 24, 25, 26, 27] (by decide +kernel) (by decide +kernel)
set_option maxRecDepth 20000 in
theorem gX6_forces_X3_mayServe : GoodIn wsX6_forces (wsV RX6 23 RX3 yX3_mayServe wsX3_mayServe) := goodIn_app (goodIn_of _ (by decide +kernel)) ggX6_forces_X3_mayServe
set_option maxRecDepth 20000 in
theorem ggX6_forces_X6_wonWithin : GoodIn wsX6_forces wsX6_wonWithin := goodIn_r _ [21, 22, 28] (by decide +kernel) (by decide +kernel)
set_option maxRecDepth 20000 in
theorem gX6_forces_X6_wonWithin : GoodIn wsX6_forces (wsV RX6 41 RX6 yX6_wonWithin wsX6_wonWithin) := goodIn_app (goodIn_of _ (by decide +kernel)) ggX6_forces_X6_wonWithin
theorem dX6_forces_0 : decode cX6_forces 0 = .ok (.aload_n 1, 1) := by decide +kernel
theorem dX6_forces_1 : decode cX6_forces 1 = .ok (.iload_n 3, 1) := by decide +kernel
theorem dX6_forces_2 : decode cX6_forces 2 = .ok (.iload 4, 2) := by decide +kernel
theorem dX6_forces_4 : decode cX6_forces 4 = .ok (.invokevirtual 33, 3) := by decide +kernel
theorem dX6_forces_7 : decode cX6_forces 7 = .ok (.istore 6, 2) := by decide +kernel
theorem dX6_forces_9 : decode cX6_forces 9 = .ok (.aload_n 1, 1) := by decide +kernel
theorem dX6_forces_10 : decode cX6_forces 10 = .ok (.iload 6, 2) := by decide +kernel
theorem dX6_forces_12 : decode cX6_forces 12 = .ok (.iload 4, 2) := by decide +kernel
theorem dX6_forces_14 : decode cX6_forces 14 = .ok (.invokevirtual 37, 3) := by decide +kernel
theorem dX6_forces_17 : decode cX6_forces 17 = .ok (.istore 7, 2) := by decide +kernel
theorem dX6_forces_19 : decode cX6_forces 19 = .ok (.iconst 0, 1) := by decide +kernel
theorem dX6_forces_20 : decode cX6_forces 20 = .ok (.istore 8, 2) := by decide +kernel
theorem dX6_forces_22 : decode cX6_forces 22 = .ok (.iload 8, 2) := by decide +kernel
theorem dX6_forces_24 : decode cX6_forces 24 = .ok (.bipush 7, 2) := by decide +kernel
theorem dX6_forces_26 : decode cX6_forces 26 = .ok (.if_icmp .ge 72, 3) := by decide +kernel
theorem dX6_forces_29 : decode cX6_forces 29 = .ok (.aload_n 1, 1) := by decide +kernel
theorem dX6_forces_30 : decode cX6_forces 30 = .ok (.iload_n 2, 1) := by decide +kernel
theorem dX6_forces_31 : decode cX6_forces 31 = .ok (.iload 8, 2) := by decide +kernel
theorem dX6_forces_33 : decode cX6_forces 33 = .ok (.invokevirtual 33, 3) := by decide +kernel
theorem dX6_forces_36 : decode cX6_forces 36 = .ok (.istore 9, 2) := by decide +kernel
theorem dX6_forces_38 : decode cX6_forces 38 = .ok (.iload 7, 2) := by decide +kernel
theorem dX6_forces_40 : decode cX6_forces 40 = .ok (.ifCond .eq 18, 3) := by decide +kernel
theorem dX6_forces_43 : decode cX6_forces 43 = .ok (.aload_n 1, 1) := by decide +kernel
theorem dX6_forces_44 : decode cX6_forces 44 = .ok (.iload 9, 2) := by decide +kernel
theorem dX6_forces_46 : decode cX6_forces 46 = .ok (.iload 8, 2) := by decide +kernel
theorem dX6_forces_48 : decode cX6_forces 48 = .ok (.invokevirtual 37, 3) := by decide +kernel
theorem dX6_forces_51 : decode cX6_forces 51 = .ok (.ifCond .eq 7, 3) := by decide +kernel
theorem dX6_forces_54 : decode cX6_forces 54 = .ok (.iconst 1, 1) := by decide +kernel
theorem dX6_forces_55 : decode cX6_forces 55 = .ok (.goto 4, 3) := by decide +kernel
theorem dX6_forces_58 : decode cX6_forces 58 = .ok (.iconst 0, 1) := by decide +kernel
theorem dX6_forces_59 : decode cX6_forces 59 = .ok (.istore 10, 2) := by decide +kernel
theorem dX6_forces_61 : decode cX6_forces 61 = .ok (.aload_n 1, 1) := by decide +kernel
theorem dX6_forces_62 : decode cX6_forces 62 = .ok (.iload 8, 2) := by decide +kernel
theorem dX6_forces_64 : decode cX6_forces 64 = .ok (.invokevirtual 23, 3) := by decide +kernel
theorem dX6_forces_67 : decode cX6_forces 67 = .ok (.ifCond .eq 25, 3) := by decide +kernel
theorem dX6_forces_70 : decode cX6_forces 70 = .ok (.iload 10, 2) := by decide +kernel
theorem dX6_forces_72 : decode cX6_forces 72 = .ok (.ifCond .ne 20, 3) := by decide +kernel
theorem dX6_forces_75 : decode cX6_forces 75 = .ok (.aload_n 0, 1) := by decide +kernel
theorem dX6_forces_76 : decode cX6_forces 76 = .ok (.iload 9, 2) := by decide +kernel
theorem dX6_forces_78 : decode cX6_forces 78 = .ok (.iload 6, 2) := by decide +kernel
theorem dX6_forces_80 : decode cX6_forces 80 = .ok (.iload 5, 2) := by decide +kernel
theorem dX6_forces_82 : decode cX6_forces 82 = .ok (.iconst 1, 1) := by decide +kernel
theorem dX6_forces_83 : decode cX6_forces 83 = .ok (.isub, 1) := by decide +kernel
theorem dX6_forces_84 : decode cX6_forces 84 = .ok (.invokevirtual 41, 3) := by decide +kernel
theorem dX6_forces_87 : decode cX6_forces 87 = .ok (.ifCond .ne 5, 3) := by decide +kernel
theorem dX6_forces_90 : decode cX6_forces 90 = .ok (.iconst 0, 1) := by decide +kernel
theorem dX6_forces_91 : decode cX6_forces 91 = .ok (.ireturn, 1) := by decide +kernel
theorem dX6_forces_92 : decode cX6_forces 92 = .ok (.iinc 8 1, 3) := by decide +kernel
theorem dX6_forces_95 : decode cX6_forces 95 = .ok (.goto (-73), 3) := by decide +kernel
theorem dX6_forces_98 : decode cX6_forces 98 = .ok (.iconst 1, 1) := by decide +kernel
theorem dX6_forces_99 : decode cX6_forces 99 = .ok (.ireturn, 1) := by decide +kernel
theorem dX6_wonWithin_0 : decode cX6_wonWithin 0 = .ok (.aload_n 0, 1) := by decide +kernel
theorem dX6_wonWithin_1 : decode cX6_wonWithin 1 = .ok (.getfield 9, 3) := by decide +kernel
theorem dX6_wonWithin_4 : decode cX6_wonWithin 4 = .ok (.iload_n 1, 1) := by decide +kernel
theorem dX6_wonWithin_5 : decode cX6_wonWithin 5 = .ok (.bipush 10, 2) := by decide +kernel
theorem dX6_wonWithin_7 : decode cX6_wonWithin 7 = .ok (.imul, 1) := by decide +kernel
theorem dX6_wonWithin_8 : decode cX6_wonWithin 8 = .ok (.iload_n 2, 1) := by decide +kernel
theorem dX6_wonWithin_9 : decode cX6_wonWithin 9 = .ok (.iadd, 1) := by decide +kernel
theorem dX6_wonWithin_10 : decode cX6_wonWithin 10 = .ok (.iaload, 1) := by decide +kernel
theorem dX6_wonWithin_11 : decode cX6_wonWithin 11 = .ok (.istore 4, 2) := by decide +kernel
theorem dX6_wonWithin_13 : decode cX6_wonWithin 13 = .ok (.iload 4, 2) := by decide +kernel
theorem dX6_wonWithin_15 : decode cX6_wonWithin 15 = .ok (.ifCond .le 13, 3) := by decide +kernel
theorem dX6_wonWithin_18 : decode cX6_wonWithin 18 = .ok (.iload 4, 2) := by decide +kernel
theorem dX6_wonWithin_20 : decode cX6_wonWithin 20 = .ok (.iload_n 3, 1) := by decide +kernel
theorem dX6_wonWithin_21 : decode cX6_wonWithin 21 = .ok (.if_icmp .gt 7, 3) := by decide +kernel
theorem dX6_wonWithin_24 : decode cX6_wonWithin 24 = .ok (.iconst 1, 1) := by decide +kernel
theorem dX6_wonWithin_25 : decode cX6_wonWithin 25 = .ok (.goto 4, 3) := by decide +kernel
theorem dX6_wonWithin_28 : decode cX6_wonWithin 28 = .ok (.iconst 0, 1) := by decide +kernel
theorem dX6_wonWithin_29 : decode cX6_wonWithin 29 = .ok (.ireturn, 1) := by decide +kernel
set_option maxRecDepth 20000 in
theorem ggX7_init_X3_init : GoodIn wsX7_init wsX3_init := goodIn_r _ [35, 36, 2, 3, 37, 38, 39, 40, 41, 42, 88, 89, 90, 91, 92] (by decide +kernel) (by decide +kernel)
set_option maxRecDepth 20000 in
theorem gX7_init_X3_init_n29 : GoodIn wsX7_init (wsX3_init) := ggX7_init_X3_init
set_option maxRecDepth 20000 in
theorem ggX7_init_X5_init : GoodIn wsX7_init wsX5_init := goodIn_r _ [44, 45, 2, 3, 37, 46, 47, 48, 49, 93, 94, 95, 96] (by decide +kernel) (by decide +kernel)
set_option maxRecDepth 20000 in
theorem gX7_init_X5_init_n36 : GoodIn wsX7_init (wsX5_init) := ggX7_init_X5_init
set_option maxRecDepth 20000 in
theorem ggX7_init_X0_init : GoodIn wsX7_init wsX0_init := goodIn_r _ [51, 52, 2, 3, 37, 53, 54, 55, 97, 98, 99] (by decide +kernel) (by decide +kernel)
set_option maxRecDepth 20000 in
theorem gX7_init_X0_init_n41 : GoodIn wsX7_init (wsX0_init) := ggX7_init_X0_init
set_option maxRecDepth 20000 in
theorem ggX7_init_X2_init : GoodIn wsX7_init wsX2_init := goodIn_r _ [57, 58, 2, 3, 37, 59, 60, 100, 101] (by decide +kernel) (by decide +kernel)
set_option maxRecDepth 20000 in
theorem gX7_init_X2_init_n48 : GoodIn wsX7_init (wsX2_init) := ggX7_init_X2_init
set_option maxRecDepth 20000 in
theorem ggX7_init_X6_init : GoodIn wsX7_init wsX6_init := goodIn_r _ [62, 63, 2, 3, 37, 64, 102] (by decide +kernel) (by decide +kernel)
set_option maxRecDepth 20000 in
theorem gX7_init_X6_init_n55 : GoodIn wsX7_init (wsX6_init) := ggX7_init_X6_init
set_option maxRecDepth 20000 in
theorem ggX7_init_X1_init : GoodIn wsX7_init wsX1_init := goodIn_r _ [66, 67, 2, 3, 37, 68, 69, 70, 71, 103, 104, 105, 106] (by decide +kernel) (by decide +kernel)
set_option maxRecDepth 20000 in
theorem gX7_init_X1_init_n64 : GoodIn wsX7_init (wsX1_init) := ggX7_init_X1_init
set_option maxRecDepth 20000 in
theorem ggX7_init_X4_init : GoodIn wsX7_init wsX4_init := goodIn_r _ [73, 74, 2, 3, 37, 75, 76, 77, 78, 107, 108, 109, 110] (by decide +kernel) (by decide +kernel)
set_option maxRecDepth 20000 in
theorem gX7_init_X4_init_n65 : GoodIn wsX7_init (wsX4_init) := ggX7_init_X4_init
theorem dX7_init_0 : decode cX7_init 0 = .ok (.aload_n 0, 1) := by decide +kernel
theorem dX7_init_1 : decode cX7_init 1 = .ok (.invokespecial 1, 3) := by decide +kernel
theorem dX7_init_4 : decode cX7_init 4 = .ok (.aload_n 0, 1) := by decide +kernel
theorem dX7_init_5 : decode cX7_init 5 = .ok (.iconst 3, 1) := by decide +kernel
theorem dX7_init_6 : decode cX7_init 6 = .ok (.anewarray 9, 3) := by decide +kernel
theorem dX7_init_9 : decode cX7_init 9 = .ok (.putfield 11, 3) := by decide +kernel
theorem dX7_init_12 : decode cX7_init 12 = .ok (.aload_n 0, 1) := by decide +kernel
theorem dX7_init_13 : decode cX7_init 13 = .ok (.iconst 3, 1) := by decide +kernel
theorem dX7_init_14 : decode cX7_init 14 = .ok (.anewarray 15, 3) := by decide +kernel
theorem dX7_init_17 : decode cX7_init 17 = .ok (.putfield 17, 3) := by decide +kernel
theorem dX7_init_20 : decode cX7_init 20 = .ok (.aload_n 0, 1) := by decide +kernel
theorem dX7_init_21 : decode cX7_init 21 = .ok (.iconst 4, 1) := by decide +kernel
theorem dX7_init_22 : decode cX7_init 22 = .ok (.anewarray 21, 3) := by decide +kernel
theorem dX7_init_25 : decode cX7_init 25 = .ok (.putfield 23, 3) := by decide +kernel
theorem dX7_init_28 : decode cX7_init 28 = .ok (.aload_n 0, 1) := by decide +kernel
theorem dX7_init_29 : decode cX7_init 29 = .ok (.new 27, 3) := by decide +kernel
theorem dX7_init_32 : decode cX7_init 32 = .ok (.dup, 1) := by decide +kernel
theorem dX7_init_33 : decode cX7_init 33 = .ok (.invokespecial 29, 3) := by decide +kernel
theorem dX7_init_36 : decode cX7_init 36 = .ok (.putfield 30, 3) := by decide +kernel
theorem dX7_init_39 : decode cX7_init 39 = .ok (.aload_n 0, 1) := by decide +kernel
theorem dX7_init_40 : decode cX7_init 40 = .ok (.new 34, 3) := by decide +kernel
theorem dX7_init_43 : decode cX7_init 43 = .ok (.dup, 1) := by decide +kernel
theorem dX7_init_44 : decode cX7_init 44 = .ok (.invokespecial 36, 3) := by decide +kernel
theorem dX7_init_47 : decode cX7_init 47 = .ok (.putfield 37, 3) := by decide +kernel
theorem dX7_init_50 : decode cX7_init 50 = .ok (.aload_n 0, 1) := by decide +kernel
theorem dX7_init_51 : decode cX7_init 51 = .ok (.new 15, 3) := by decide +kernel
theorem dX7_init_54 : decode cX7_init 54 = .ok (.dup, 1) := by decide +kernel
theorem dX7_init_55 : decode cX7_init 55 = .ok (.invokespecial 41, 3) := by decide +kernel
theorem dX7_init_58 : decode cX7_init 58 = .ok (.putfield 42, 3) := by decide +kernel
theorem dX7_init_61 : decode cX7_init 61 = .ok (.aload_n 0, 1) := by decide +kernel
theorem dX7_init_62 : decode cX7_init 62 = .ok (.new 46, 3) := by decide +kernel
theorem dX7_init_65 : decode cX7_init 65 = .ok (.dup, 1) := by decide +kernel
theorem dX7_init_66 : decode cX7_init 66 = .ok (.invokespecial 48, 3) := by decide +kernel
theorem dX7_init_69 : decode cX7_init 69 = .ok (.putfield 49, 3) := by decide +kernel
theorem dX7_init_72 : decode cX7_init 72 = .ok (.aload_n 0, 1) := by decide +kernel
theorem dX7_init_73 : decode cX7_init 73 = .ok (.new 53, 3) := by decide +kernel
theorem dX7_init_76 : decode cX7_init 76 = .ok (.dup, 1) := by decide +kernel
theorem dX7_init_77 : decode cX7_init 77 = .ok (.invokespecial 55, 3) := by decide +kernel
theorem dX7_init_80 : decode cX7_init 80 = .ok (.putfield 56, 3) := by decide +kernel
theorem dX7_init_83 : decode cX7_init 83 = .ok (.aload_n 0, 1) := by decide +kernel
theorem dX7_init_84 : decode cX7_init 84 = .ok (.iconst 0, 1) := by decide +kernel
theorem dX7_init_85 : decode cX7_init 85 = .ok (.putfield 60, 3) := by decide +kernel
theorem dX7_init_88 : decode cX7_init 88 = .ok (.iconst 0, 1) := by decide +kernel
theorem dX7_init_89 : decode cX7_init 89 = .ok (.istore_n 1, 1) := by decide +kernel
theorem dX7_init_90 : decode cX7_init 90 = .ok (.iload_n 1, 1) := by decide +kernel
theorem dX7_init_91 : decode cX7_init 91 = .ok (.iconst 3, 1) := by decide +kernel
theorem dX7_init_92 : decode cX7_init 92 = .ok (.if_icmp .ge 35, 3) := by decide +kernel
theorem dX7_init_95 : decode cX7_init 95 = .ok (.aload_n 0, 1) := by decide +kernel
theorem dX7_init_96 : decode cX7_init 96 = .ok (.getfield 11, 3) := by decide +kernel
theorem dX7_init_99 : decode cX7_init 99 = .ok (.iload_n 1, 1) := by decide +kernel
theorem dX7_init_100 : decode cX7_init 100 = .ok (.new 9, 3) := by decide +kernel
theorem dX7_init_103 : decode cX7_init 103 = .ok (.dup, 1) := by decide +kernel
theorem dX7_init_104 : decode cX7_init 104 = .ok (.invokespecial 64, 3) := by decide +kernel
theorem dX7_init_107 : decode cX7_init 107 = .ok (.aastore, 1) := by decide +kernel
theorem dX7_init_108 : decode cX7_init 108 = .ok (.aload_n 0, 1) := by decide +kernel
theorem dX7_init_109 : decode cX7_init 109 = .ok (.getfield 17, 3) := by decide +kernel
theorem dX7_init_112 : decode cX7_init 112 = .ok (.iload_n 1, 1) := by decide +kernel
theorem dX7_init_113 : decode cX7_init 113 = .ok (.new 15, 3) := by decide +kernel
theorem dX7_init_116 : decode cX7_init 116 = .ok (.dup, 1) := by decide +kernel
theorem dX7_init_117 : decode cX7_init 117 = .ok (.invokespecial 41, 3) := by decide +kernel
theorem dX7_init_120 : decode cX7_init 120 = .ok (.aastore, 1) := by decide +kernel
theorem dX7_init_121 : decode cX7_init 121 = .ok (.iinc 1 1, 3) := by decide +kernel
theorem dX7_init_124 : decode cX7_init 124 = .ok (.goto (-34), 3) := by decide +kernel
theorem dX7_init_127 : decode cX7_init 127 = .ok (.iconst 0, 1) := by decide +kernel
theorem dX7_init_128 : decode cX7_init 128 = .ok (.istore_n 1, 1) := by decide +kernel
theorem dX7_init_129 : decode cX7_init 129 = .ok (.iload_n 1, 1) := by decide +kernel
theorem dX7_init_130 : decode cX7_init 130 = .ok (.iconst 4, 1) := by decide +kernel
theorem dX7_init_131 : decode cX7_init 131 = .ok (.if_icmp .ge 22, 3) := by decide +kernel
theorem dX7_init_134 : decode cX7_init 134 = .ok (.aload_n 0, 1) := by decide +kernel
theorem dX7_init_135 : decode cX7_init 135 = .ok (.getfield 23, 3) := by decide +kernel
theorem dX7_init_138 : decode cX7_init 138 = .ok (.iload_n 1, 1) := by decide +kernel
theorem dX7_init_139 : decode cX7_init 139 = .ok (.new 21, 3) := by decide +kernel
theorem dX7_init_142 : decode cX7_init 142 = .ok (.dup, 1) := by decide +kernel
theorem dX7_init_143 : decode cX7_init 143 = .ok (.invokespecial 65, 3) := by decide +kernel
theorem dX7_init_146 : decode cX7_init 146 = .ok (.aastore, 1) := by decide +kernel
theorem dX7_init_147 : decode cX7_init 147 = .ok (.iinc 1 1, 3) := by decide +kernel
theorem dX7_init_150 : decode cX7_init 150 = .ok (.goto (-21), 3) := by decide +kernel
theorem dX7_init_153 : decode cX7_init 153 = .ok (.return_, 1) := by decide +kernel
set_option maxRecDepth 20000 in
theorem ggX7_type_X7_isGeneral : GoodIn wsX7_type wsX7_isGeneral := goodIn_r _ [5, 6, 7, 4, 8] (by decide +kernel) (by decide +kernel)
set_option maxRecDepth 20000 in
theorem gX7_type_X7_isGeneral : GoodIn wsX7_type (va_wsS RX7 66 yX7_isGeneral wsX7_isGeneral) := goodIn_app (goodIn_of _ (by decide +kernel)) ggX7_type_X7_isGeneral
set_option maxRecDepth 20000 in
theorem ggX7_type_X7_within : GoodIn wsX7_type wsX7_within := goodIn_r _ [8] (by decide +kernel) (by decide +kernel)
set_option maxRecDepth 20000 in
theorem gX7_type_X7_within : GoodIn wsX7_type (va_wsS RX7 70 yX7_within wsX7_within) := goodIn_app (goodIn_of _ (by decide +kernel)) ggX7_type_X7_within
set_option maxRecDepth 20000 in
theorem ggX7_type_X7_dishOfLetter : GoodIn wsX7_type wsX7_dishOfLetter := goodIn_r _ [11, 12] (by decide +kernel) (by decide +kernel)
set_option maxRecDepth 20000 in
theorem gX7_type_X7_dishOfLetter : GoodIn wsX7_type (va_wsS RX7 74 yX7_dishOfLetter wsX7_dishOfLetter) := goodIn_app (goodIn_of _ (by decide +kernel)) ggX7_type_X7_dishOfLetter
set_option maxRecDepth 20000 in
theorem ggX7_type_X1_append : GoodIn wsX7_type wsX1_append := goodIn_r _ [17, 18, 19, 20, 30, 31, 32, 33] (by decide +kernel) (by decide +kernel)
set_option maxRecDepth 20000 in
theorem gX7_type_X1_append : GoodIn wsX7_type (wsV RX7 78 RX1 yX1_append wsX1_append) := goodIn_app (goodIn_of _ (by decide +kernel)) ggX7_type_X1_append
theorem dX7_type_0 : decode cX7_type 0 = .ok (.iload_n 1, 1) := by decide +kernel
theorem dX7_type_1 : decode cX7_type 1 = .ok (.invokestatic 66, 3) := by decide +kernel
theorem dX7_type_4 : decode cX7_type 4 = .ok (.ifCond .eq 14, 3) := by decide +kernel
theorem dX7_type_7 : decode cX7_type 7 = .ok (.iload_n 2, 1) := by decide +kernel
theorem dX7_type_8 : decode cX7_type 8 = .ok (.iconst 0, 1) := by decide +kernel
theorem dX7_type_9 : decode cX7_type 9 = .ok (.sipush 255, 3) := by decide +kernel
theorem dX7_type_12 : decode cX7_type 12 = .ok (.invokestatic 70, 3) := by decide +kernel
theorem dX7_type_15 : decode cX7_type 15 = .ok (.ifCond .ne 6, 3) := by decide +kernel
theorem dX7_type_18 : decode cX7_type 18 = .ok (.bipush (-2), 2) := by decide +kernel
theorem dX7_type_20 : decode cX7_type 20 = .ok (.ireturn, 1) := by decide +kernel
theorem dX7_type_21 : decode cX7_type 21 = .ok (.aload_n 0, 1) := by decide +kernel
theorem dX7_type_22 : decode cX7_type 22 = .ok (.getfield 11, 3) := by decide +kernel
theorem dX7_type_25 : decode cX7_type 25 = .ok (.iload_n 1, 1) := by decide +kernel
theorem dX7_type_26 : decode cX7_type 26 = .ok (.aaload, 1) := by decide +kernel
theorem dX7_type_27 : decode cX7_type 27 = .ok (.iload_n 2, 1) := by decide +kernel
theorem dX7_type_28 : decode cX7_type 28 = .ok (.invokestatic 74, 3) := by decide +kernel
theorem dX7_type_31 : decode cX7_type 31 = .ok (.invokevirtual 78, 3) := by decide +kernel
theorem dX7_type_34 : decode cX7_type 34 = .ok (.ireturn, 1) := by decide +kernel
set_option maxRecDepth 20000 in
theorem ggX7_wipe_X7_isGeneral : GoodIn wsX7_wipe wsX7_isGeneral := goodIn_r _ [5, 6, 7, 4, 8] (by decide +kernel) (by decide +kernel)
set_option maxRecDepth 20000 in
theorem gX7_wipe_X7_isGeneral : GoodIn wsX7_wipe (va_wsS RX7 66 yX7_isGeneral wsX7_isGeneral) := goodIn_app (goodIn_of _ (by decide +kernel)) ggX7_wipe_X7_isGeneral
set_option maxRecDepth 20000 in
theorem ggX7_wipe_X1_clearMenu : GoodIn wsX7_wipe wsX1_clearMenu := goodIn_r _ [13, 14, 15, 25, 26, 27, 28] (by decide +kernel) (by decide +kernel)
set_option maxRecDepth 20000 in
theorem gX7_wipe_X1_clearMenu : GoodIn wsX7_wipe (wsV RX7 81 RX1 yX1_clearMenu wsX1_clearMenu) := goodIn_app (goodIn_of _ (by decide +kernel)) ggX7_wipe_X1_clearMenu
theorem dX7_wipe_0 : decode cX7_wipe 0 = .ok (.iload_n 1, 1) := by decide +kernel
theorem dX7_wipe_1 : decode cX7_wipe 1 = .ok (.invokestatic 66, 3) := by decide +kernel
theorem dX7_wipe_4 : decode cX7_wipe 4 = .ok (.ifCond .ne 6, 3) := by decide +kernel
theorem dX7_wipe_7 : decode cX7_wipe 7 = .ok (.bipush (-2), 2) := by decide +kernel
theorem dX7_wipe_9 : decode cX7_wipe 9 = .ok (.ireturn, 1) := by decide +kernel
theorem dX7_wipe_10 : decode cX7_wipe 10 = .ok (.aload_n 0, 1) := by decide +kernel
theorem dX7_wipe_11 : decode cX7_wipe 11 = .ok (.getfield 11, 3) := by decide +kernel
theorem dX7_wipe_14 : decode cX7_wipe 14 = .ok (.iload_n 1, 1) := by decide +kernel
theorem dX7_wipe_15 : decode cX7_wipe 15 = .ok (.aaload, 1) := by decide +kernel
theorem dX7_wipe_16 : decode cX7_wipe 16 = .ok (.invokevirtual 81, 3) := by decide +kernel
theorem dX7_wipe_19 : decode cX7_wipe 19 = .ok (.ireturn, 1) := by decide +kernel
set_option maxRecDepth 20000 in
theorem ggX7_fault_X7_isGeneral : GoodIn wsX7_fault wsX7_isGeneral := goodIn_r _ [6, 7, 8, 5, 9] (by decide +kernel) (by decide +kernel)
set_option maxRecDepth 20000 in
theorem gX7_fault_X7_isGeneral : GoodIn wsX7_fault (va_wsS RX7 66 yX7_isGeneral wsX7_isGeneral) := goodIn_app (goodIn_of _ (by decide +kernel)) ggX7_fault_X7_isGeneral
theorem dX7_fault_0 : decode cX7_fault 0 = .ok (.iload_n 1, 1) := by decide +kernel
theorem dX7_fault_1 : decode cX7_fault 1 = .ok (.invokestatic 66, 3) := by decide +kernel
theorem dX7_fault_4 : decode cX7_fault 4 = .ok (.ifCond .ne 6, 3) := by decide +kernel
theorem dX7_fault_7 : decode cX7_fault 7 = .ok (.bipush (-2), 2) := by decide +kernel
theorem dX7_fault_9 : decode cX7_fault 9 = .ok (.ireturn, 1) := by decide +kernel
theorem dX7_fault_10 : decode cX7_fault 10 = .ok (.aload_n 0, 1) := by decide +kernel
theorem dX7_fault_11 : decode cX7_fault 11 = .ok (.getfield 11, 3) := by decide +kernel
theorem dX7_fault_14 : decode cX7_fault 14 = .ok (.iload_n 1, 1) := by decide +kernel
theorem dX7_fault_15 : decode cX7_fault 15 = .ok (.aaload, 1) := by decide +kernel
theorem dX7_fault_16 : decode cX7_fault 16 = .ok (.getfield 85, 3) := by decide +kernel
theorem dX7_fault_19 : decode cX7_fault 19 = .ok (.ireturn, 1) := by decide +kernel
set_option maxRecDepth 20000 in
theorem ggX7_undo_X7_isGeneral : GoodIn wsX7_undo wsX7_isGeneral := goodIn_r _ [5, 6, 7, 4, 8] (by decide +kernel) (by decide +kernel)
set_option maxRecDepth 20000 in
theorem gX7_undo_X7_isGeneral : GoodIn wsX7_undo (va_wsS RX7 66 yX7_isGeneral wsX7_isGeneral) := goodIn_app (goodIn_of _ (by decide +kernel)) ggX7_undo_X7_isGeneral
set_option maxRecDepth 20000 in
theorem ggX7_undo_X1_dropLast : GoodIn wsX7_undo wsX1_dropLast := goodIn_r _ [13, 14, 15, 25, 26, 27, 28] (by decide +kernel) (by decide +kernel)
set_option maxRecDepth 20000 in
theorem gX7_undo_X1_dropLast : GoodIn wsX7_undo (wsV RX7 88 RX1 yX1_dropLast wsX1_dropLast) := goodIn_app (goodIn_of _ (by decide +kernel)) ggX7_undo_X1_dropLast
theorem dX7_undo_0 : decode cX7_undo 0 = .ok (.iload_n 1, 1) := by decide +kernel
theorem dX7_undo_1 : decode cX7_undo 1 = .ok (.invokestatic 66, 3) := by decide +kernel
theorem dX7_undo_4 : decode cX7_undo 4 = .ok (.ifCond .ne 6, 3) := by decide +kernel
theorem dX7_undo_7 : decode cX7_undo 7 = .ok (.bipush (-2), 2) := by decide +kernel
theorem dX7_undo_9 : decode cX7_undo 9 = .ok (.ireturn, 1) := by decide +kernel
theorem dX7_undo_10 : decode cX7_undo 10 = .ok (.aload_n 0, 1) := by decide +kernel
theorem dX7_undo_11 : decode cX7_undo 11 = .ok (.getfield 11, 3) := by decide +kernel
theorem dX7_undo_14 : decode cX7_undo 14 = .ok (.iload_n 1, 1) := by decide +kernel
theorem dX7_undo_15 : decode cX7_undo 15 = .ok (.aaload, 1) := by decide +kernel
theorem dX7_undo_16 : decode cX7_undo 16 = .ok (.invokevirtual 88, 3) := by decide +kernel
theorem dX7_undo_19 : decode cX7_undo 19 = .ok (.ireturn, 1) := by decide +kernel
set_option maxRecDepth 20000 in
theorem ggX7_calm_X7_isGeneral : GoodIn wsX7_calm wsX7_isGeneral := goodIn_r _ [6, 7, 8, 5, 9] (by decide +kernel) (by decide +kernel)
set_option maxRecDepth 20000 in
theorem gX7_calm_X7_isGeneral : GoodIn wsX7_calm (va_wsS RX7 66 yX7_isGeneral wsX7_isGeneral) := goodIn_app (goodIn_of _ (by decide +kernel)) ggX7_calm_X7_isGeneral
set_option maxRecDepth 20000 in
theorem ggX7_calm_X7_within : GoodIn wsX7_calm wsX7_within := goodIn_r _ [9] (by decide +kernel) (by decide +kernel)
set_option maxRecDepth 20000 in
theorem gX7_calm_X7_within : GoodIn wsX7_calm (va_wsS RX7 70 yX7_within wsX7_within) := goodIn_app (goodIn_of _ (by decide +kernel)) ggX7_calm_X7_within
theorem dX7_calm_0 : decode cX7_calm 0 = .ok (.iload_n 1, 1) := by decide +kernel
theorem dX7_calm_1 : decode cX7_calm 1 = .ok (.invokestatic 66, 3) := by decide +kernel
theorem dX7_calm_4 : decode cX7_calm 4 = .ok (.ifCond .eq 13, 3) := by decide +kernel
theorem dX7_calm_7 : decode cX7_calm 7 = .ok (.iload_n 2, 1) := by decide +kernel
theorem dX7_calm_8 : decode cX7_calm 8 = .ok (.iconst 0, 1) := by decide +kernel
theorem dX7_calm_9 : decode cX7_calm 9 = .ok (.bipush 9, 2) := by decide +kernel
theorem dX7_calm_11 : decode cX7_calm 11 = .ok (.invokestatic 70, 3) := by decide +kernel
theorem dX7_calm_14 : decode cX7_calm 14 = .ok (.ifCond .ne 6, 3) := by decide +kernel
theorem dX7_calm_17 : decode cX7_calm 17 = .ok (.bipush (-2), 2) := by decide +kernel
theorem dX7_calm_19 : decode cX7_calm 19 = .ok (.ireturn, 1) := by decide +kernel
theorem dX7_calm_20 : decode cX7_calm 20 = .ok (.aload_n 0, 1) := by decide +kernel
theorem dX7_calm_21 : decode cX7_calm 21 = .ok (.getfield 11, 3) := by decide +kernel
theorem dX7_calm_24 : decode cX7_calm 24 = .ok (.iload_n 1, 1) := by decide +kernel
theorem dX7_calm_25 : decode cX7_calm 25 = .ok (.aaload, 1) := by decide +kernel
theorem dX7_calm_26 : decode cX7_calm 26 = .ok (.getfield 91, 3) := by decide +kernel
theorem dX7_calm_29 : decode cX7_calm 29 = .ok (.istore_n 3, 1) := by decide +kernel
theorem dX7_calm_30 : decode cX7_calm 30 = .ok (.aload_n 0, 1) := by decide +kernel
theorem dX7_calm_31 : decode cX7_calm 31 = .ok (.getfield 11, 3) := by decide +kernel
theorem dX7_calm_34 : decode cX7_calm 34 = .ok (.iload_n 1, 1) := by decide +kernel
theorem dX7_calm_35 : decode cX7_calm 35 = .ok (.aaload, 1) := by decide +kernel
theorem dX7_calm_36 : decode cX7_calm 36 = .ok (.iload_n 2, 1) := by decide +kernel
theorem dX7_calm_37 : decode cX7_calm 37 = .ok (.putfield 91, 3) := by decide +kernel
theorem dX7_calm_40 : decode cX7_calm 40 = .ok (.iload_n 3, 1) := by decide +kernel
theorem dX7_calm_41 : decode cX7_calm 41 = .ok (.ireturn, 1) := by decide +kernel
set_option maxRecDepth 20000 in
theorem ggX7_does_X7_isDish : GoodIn wsX7_does wsX7_isDish := goodIn_r _ [6, 7, 8, 5, 9] (by decide +kernel) (by decide +kernel)
set_option maxRecDepth 20000 in
theorem gX7_does_X7_isDish : GoodIn wsX7_does (va_wsS RX7 94 yX7_isDish wsX7_isDish) := goodIn_app (goodIn_of _ (by decide +kernel)) ggX7_does_X7_isDish
set_option maxRecDepth 20000 in
theorem ggX7_does_X7_within : GoodIn wsX7_does wsX7_within := goodIn_r _ [9] (by decide +kernel) (by decide +kernel)
set_option maxRecDepth 20000 in
theorem gX7_does_X7_within : GoodIn wsX7_does (va_wsS RX7 70 yX7_within wsX7_within) := goodIn_app (goodIn_of _ (by decide +kernel)) ggX7_does_X7_within
theorem dX7_does_0 : decode cX7_does 0 = .ok (.iload_n 1, 1) := by decide +kernel
theorem dX7_does_1 : decode cX7_does 1 = .ok (.invokestatic 94, 3) := by decide +kernel
theorem dX7_does_4 : decode cX7_does 4 = .ok (.ifCond .eq 14, 3) := by decide +kernel
theorem dX7_does_7 : decode cX7_does 7 = .ok (.iload_n 2, 1) := by decide +kernel
theorem dX7_does_8 : decode cX7_does 8 = .ok (.bipush (-9), 2) := by decide +kernel
theorem dX7_does_10 : decode cX7_does 10 = .ok (.bipush 9, 2) := by decide +kernel
theorem dX7_does_12 : decode cX7_does 12 = .ok (.invokestatic 70, 3) := by decide +kernel
theorem dX7_does_15 : decode cX7_does 15 = .ok (.ifCond .ne 6, 3) := by decide +kernel
theorem dX7_does_18 : decode cX7_does 18 = .ok (.bipush (-102), 2) := by decide +kernel
theorem dX7_does_20 : decode cX7_does 20 = .ok (.ireturn, 1) := by decide +kernel
theorem dX7_does_21 : decode cX7_does 21 = .ok (.aload_n 0, 1) := by decide +kernel
theorem dX7_does_22 : decode cX7_does 22 = .ok (.getfield 30, 3) := by decide +kernel
theorem dX7_does_25 : decode cX7_does 25 = .ok (.getfield 97, 3) := by decide +kernel
theorem dX7_does_28 : decode cX7_does 28 = .ok (.iload_n 1, 1) := by decide +kernel
theorem dX7_does_29 : decode cX7_does 29 = .ok (.iaload, 1) := by decide +kernel
theorem dX7_does_30 : decode cX7_does 30 = .ok (.istore_n 3, 1) := by decide +kernel
theorem dX7_does_31 : decode cX7_does 31 = .ok (.aload_n 0, 1) := by decide +kernel
theorem dX7_does_32 : decode cX7_does 32 = .ok (.getfield 30, 3) := by decide +kernel
theorem dX7_does_35 : decode cX7_does 35 = .ok (.getfield 97, 3) := by decide +kernel
theorem dX7_does_38 : decode cX7_does 38 = .ok (.iload_n 1, 1) := by decide +kernel
theorem dX7_does_39 : decode cX7_does 39 = .ok (.iload_n 2, 1) := by decide +kernel
theorem dX7_does_40 : decode cX7_does 40 = .ok (.iastore, 1) := by decide +kernel
theorem dX7_does_41 : decode cX7_does 41 = .ok (.iload_n 3, 1) := by decide +kernel
theorem dX7_does_42 : decode cX7_does 42 = .ok (.ireturn, 1) := by decide +kernel
set_option maxRecDepth 20000 in
theorem ggX7_set_X7_setMark : GoodIn wsX7_set wsX7_setMark := goodIn_r _ [5, 6, 7, 8, 9, 4, 10, 21, 22, 23, 24, 25, 26, 27, 28, 29, 30, 31, 32, 33, 34] (by decide +kernel) (by decide +kernel)
set_option maxRecDepth 20000 in
theorem gX7_set_X7_setMark : GoodIn wsX7_set (wsV RX7 101 RX7 yX7_setMark wsX7_setMark) := goodIn_app (goodIn_of _ (by decide +kernel)) ggX7_set_X7_setMark
set_option maxRecDepth 20000 in
theorem ggX7_set_X7_setLaw : GoodIn wsX7_set wsX7_setLaw := goodIn_r _ [14, 6, 15, 8, 9, 4, 10, 21, 22, 23, 24, 25, 26, 27, 28, 29, 30, 31, 32, 33, 34] (by decide +kernel) (by decide +kernel)
set_option maxRecDepth 20000 in
theorem gX7_set_X7_setLaw : GoodIn wsX7_set (wsV RX7 104 RX7 yX7_setLaw wsX7_setLaw) := goodIn_app (goodIn_of _ (by decide +kernel)) ggX7_set_X7_setLaw
set_option maxRecDepth 20000 in
theorem ggX7_set_X7_setForbidden : GoodIn wsX7_set wsX7_setForbidden := goodIn_r _ [19, 6, 20, 8, 9, 4, 10, 21, 22, 23, 24, 25, 26, 27, 28, 29, 30, 31, 32, 33, 34] (by decide +kernel) (by decide +kernel)
set_option maxRecDepth 20000 in
theorem gX7_set_X7_setForbidden : GoodIn wsX7_set (wsV RX7 107 RX7 yX7_setForbidden wsX7_setForbidden) := goodIn_app (goodIn_of _ (by decide +kernel)) ggX7_set_X7_setForbidden
theorem dX7_set_0 : decode cX7_set 0 = .ok (.iload_n 1, 1) := by decide +kernel
theorem dX7_set_1 : decode cX7_set 1 = .ok (.ifCond .ne 9, 3) := by decide +kernel
theorem dX7_set_4 : decode cX7_set 4 = .ok (.aload_n 0, 1) := by decide +kernel
theorem dX7_set_5 : decode cX7_set 5 = .ok (.iload_n 2, 1) := by decide +kernel
theorem dX7_set_6 : decode cX7_set 6 = .ok (.invokevirtual 101, 3) := by decide +kernel
theorem dX7_set_9 : decode cX7_set 9 = .ok (.ireturn, 1) := by decide +kernel
theorem dX7_set_10 : decode cX7_set 10 = .ok (.iload_n 1, 1) := by decide +kernel
theorem dX7_set_11 : decode cX7_set 11 = .ok (.iconst 1, 1) := by decide +kernel
theorem dX7_set_12 : decode cX7_set 12 = .ok (.if_icmp .ne 9, 3) := by decide +kernel
theorem dX7_set_15 : decode cX7_set 15 = .ok (.aload_n 0, 1) := by decide +kernel
theorem dX7_set_16 : decode cX7_set 16 = .ok (.iload_n 2, 1) := by decide +kernel
theorem dX7_set_17 : decode cX7_set 17 = .ok (.invokevirtual 104, 3) := by decide +kernel
theorem dX7_set_20 : decode cX7_set 20 = .ok (.ireturn, 1) := by decide +kernel
theorem dX7_set_21 : decode cX7_set 21 = .ok (.iload_n 1, 1) := by decide +kernel
theorem dX7_set_22 : decode cX7_set 22 = .ok (.iconst 2, 1) := by decide +kernel
theorem dX7_set_23 : decode cX7_set 23 = .ok (.if_icmp .ne 9, 3) := by decide +kernel
theorem dX7_set_26 : decode cX7_set 26 = .ok (.aload_n 0, 1) := by decide +kernel
theorem dX7_set_27 : decode cX7_set 27 = .ok (.iload_n 2, 1) := by decide +kernel
theorem dX7_set_28 : decode cX7_set 28 = .ok (.invokevirtual 107, 3) := by decide +kernel
theorem dX7_set_31 : decode cX7_set 31 = .ok (.ireturn, 1) := by decide +kernel
theorem dX7_set_32 : decode cX7_set 32 = .ok (.bipush (-2), 2) := by decide +kernel
theorem dX7_set_34 : decode cX7_set 34 = .ok (.ireturn, 1) := by decide +kernel
set_option maxRecDepth 20000 in
theorem ggX7_price_X7_isDish : GoodIn wsX7_price wsX7_isDish := goodIn_r _ [6, 7, 8, 5, 9] (by decide +kernel) (by decide +kernel)
set_option maxRecDepth 20000 in
theorem gX7_price_X7_isDish : GoodIn wsX7_price (va_wsS RX7 94 yX7_isDish wsX7_isDish) := goodIn_app (goodIn_of _ (by decide +kernel)) ggX7_price_X7_isDish
set_option maxRecDepth 20000 in
theorem ggX7_price_X7_within : GoodIn wsX7_price wsX7_within := goodIn_r _ [9] (by decide +kernel) (by decide +kernel)
set_option maxRecDepth 20000 in
theorem gX7_price_X7_within : GoodIn wsX7_price (va_wsS RX7 70 yX7_within wsX7_within) := goodIn_app (goodIn_of _ (by decide +kernel)) ggX7_price_X7_within
theorem dX7_price_0 : decode cX7_price 0 = .ok (.iload_n 1, 1) := by decide +kernel
theorem dX7_price_1 : decode cX7_price 1 = .ok (.invokestatic 94, 3) := by decide +kernel
theorem dX7_price_4 : decode cX7_price 4 = .ok (.ifCond .eq 13, 3) := by decide +kernel
theorem dX7_price_7 : decode cX7_price 7 = .ok (.iload_n 2, 1) := by decide +kernel
theorem dX7_price_8 : decode cX7_price 8 = .ok (.iconst 0, 1) := by decide +kernel
theorem dX7_price_9 : decode cX7_price 9 = .ok (.bipush 99, 2) := by decide +kernel
theorem dX7_price_11 : decode cX7_price 11 = .ok (.invokestatic 70, 3) := by decide +kernel
theorem dX7_price_14 : decode cX7_price 14 = .ok (.ifCond .ne 6, 3) := by decide +kernel
theorem dX7_price_17 : decode cX7_price 17 = .ok (.bipush (-2), 2) := by decide +kernel
theorem dX7_price_19 : decode cX7_price 19 = .ok (.ireturn, 1) := by decide +kernel
theorem dX7_price_20 : decode cX7_price 20 = .ok (.aload_n 0, 1) := by decide +kernel
theorem dX7_price_21 : decode cX7_price 21 = .ok (.getfield 30, 3) := by decide +kernel
theorem dX7_price_24 : decode cX7_price 24 = .ok (.getfield 110, 3) := by decide +kernel
theorem dX7_price_27 : decode cX7_price 27 = .ok (.iload_n 1, 1) := by decide +kernel
theorem dX7_price_28 : decode cX7_price 28 = .ok (.iaload, 1) := by decide +kernel
theorem dX7_price_29 : decode cX7_price 29 = .ok (.istore_n 3, 1) := by decide +kernel
theorem dX7_price_30 : decode cX7_price 30 = .ok (.aload_n 0, 1) := by decide +kernel
theorem dX7_price_31 : decode cX7_price 31 = .ok (.getfield 30, 3) := by decide +kernel
theorem dX7_price_34 : decode cX7_price 34 = .ok (.getfield 110, 3) := by decide +kernel
theorem dX7_price_37 : decode cX7_price 37 = .ok (.iload_n 1, 1) := by decide +kernel
theorem dX7_price_38 : decode cX7_price 38 = .ok (.iload_n 2, 1) := by decide +kernel
theorem dX7_price_39 : decode cX7_price 39 = .ok (.iastore, 1) := by decide +kernel
theorem dX7_price_40 : decode cX7_price 40 = .ok (.iload_n 3, 1) := by decide +kernel
theorem dX7_price_41 : decode cX7_price 41 = .ok (.ireturn, 1) := by decide +kernel
set_option maxRecDepth 20000 in
theorem ggX7_read_X7_isSheet : GoodIn wsX7_read wsX7_isSheet := goodIn_r _ [7, 8, 9, 6, 10] (by decide +kernel) (by decide +kernel)
set_option maxRecDepth 20000 in
theorem gX7_read_X7_isSheet : GoodIn wsX7_read (va_wsS RX7 113 yX7_isSheet wsX7_isSheet) := goodIn_app (goodIn_of _ (by decide +kernel)) ggX7_read_X7_isSheet
set_option maxRecDepth 20000 in
theorem ggX7_read_X7_isGeneral : GoodIn wsX7_read wsX7_isGeneral := goodIn_r _ [13, 8, 9, 6, 10] (by decide +kernel) (by decide +kernel)
set_option maxRecDepth 20000 in
theorem gX7_read_X7_isGeneral : GoodIn wsX7_read (va_wsS RX7 66 yX7_isGeneral wsX7_isGeneral) := goodIn_app (goodIn_of _ (by decide +kernel)) ggX7_read_X7_isGeneral
set_option maxRecDepth 20000 in
theorem ggX7_read_X7_finding : GoodIn wsX7_read wsX7_finding := goodIn_r _ [17, 18, 43, 44, 45, 46, 47, 48, 49, 50, 51] (by decide +kernel) (by decide +kernel)
set_option maxRecDepth 20000 in
theorem gX7_read_X7_finding : GoodIn wsX7_read (wsV RX7 120 RX7 yX7_finding wsX7_finding) := goodIn_app (goodIn_of _ (by decide +kernel)) ggX7_read_X7_finding
set_option maxRecDepth 20000 in
theorem ggX7_read_X1_takeMenu : GoodIn wsX7_read wsX1_takeMenu := goodIn_r _ [23, 24, 25, 26, 27, 28, 29, 30, 31, 32, 33, 22, 34, 35, 36, 6, 37, 8, 9, 10, 38, 39, 40, 41, 42, 52, 53, 54, 55, 56, 57, 58, 59] (by decide +kernel) (by decide +kernel)
set_option maxRecDepth 20000 in
theorem gX7_read_X1_takeMenu : GoodIn wsX7_read (wsV RX7 123 RX1 yX1_takeMenu wsX1_takeMenu) := goodIn_app (goodIn_of _ (by decide +kernel)) ggX7_read_X1_takeMenu
theorem dX7_read_0 : decode cX7_read 0 = .ok (.iload_n 1, 1) := by decide +kernel
theorem dX7_read_1 : decode cX7_read 1 = .ok (.invokestatic 113, 3) := by decide +kernel
theorem dX7_read_4 : decode cX7_read 4 = .ok (.ifCond .eq 10, 3) := by decide +kernel
theorem dX7_read_7 : decode cX7_read 7 = .ok (.iload_n 2, 1) := by decide +kernel
theorem dX7_read_8 : decode cX7_read 8 = .ok (.invokestatic 66, 3) := by decide +kernel
theorem dX7_read_11 : decode cX7_read 11 = .ok (.ifCond .ne 6, 3) := by decide +kernel
theorem dX7_read_14 : decode cX7_read 14 = .ok (.bipush (-2), 2) := by decide +kernel
theorem dX7_read_16 : decode cX7_read 16 = .ok (.ireturn, 1) := by decide +kernel
theorem dX7_read_17 : decode cX7_read 17 = .ok (.aload_n 0, 1) := by decide +kernel
theorem dX7_read_18 : decode cX7_read 18 = .ok (.getfield 23, 3) := by decide +kernel
theorem dX7_read_21 : decode cX7_read 21 = .ok (.iload_n 1, 1) := by decide +kernel
theorem dX7_read_22 : decode cX7_read 22 = .ok (.aaload, 1) := by decide +kernel
theorem dX7_read_23 : decode cX7_read 23 = .ok (.astore_n 3, 1) := by decide +kernel
theorem dX7_read_24 : decode cX7_read 24 = .ok (.aload_n 3, 1) := by decide +kernel
theorem dX7_read_25 : decode cX7_read 25 = .ok (.getfield 116, 3) := by decide +kernel
theorem dX7_read_28 : decode cX7_read 28 = .ok (.ifCond .eq 9, 3) := by decide +kernel
theorem dX7_read_31 : decode cX7_read 31 = .ok (.aload_n 0, 1) := by decide +kernel
theorem dX7_read_32 : decode cX7_read 32 = .ok (.iconst 1, 1) := by decide +kernel
theorem dX7_read_33 : decode cX7_read 33 = .ok (.invokevirtual 120, 3) := by decide +kernel
theorem dX7_read_36 : decode cX7_read 36 = .ok (.ireturn, 1) := by decide +kernel
theorem dX7_read_37 : decode cX7_read 37 = .ok (.aload_n 0, 1) := by decide +kernel
theorem dX7_read_38 : decode cX7_read 38 = .ok (.getfield 11, 3) := by decide +kernel
theorem dX7_read_41 : decode cX7_read 41 = .ok (.iload_n 2, 1) := by decide +kernel
theorem dX7_read_42 : decode cX7_read 42 = .ok (.aaload, 1) := by decide +kernel
theorem dX7_read_43 : decode cX7_read 43 = .ok (.aload_n 3, 1) := by decide +kernel
theorem dX7_read_44 : decode cX7_read 44 = .ok (.invokevirtual 123, 3) := by decide +kernel
theorem dX7_read_47 : decode cX7_read 47 = .ok (.ireturn, 1) := by decide +kernel
set_option maxRecDepth 20000 in
theorem ggX7_dish_X7_isGeneral : GoodIn wsX7_dish wsX7_isGeneral := goodIn_r _ [5, 6, 7, 4, 8] (by decide +kernel) (by decide +kernel)
set_option maxRecDepth 20000 in
theorem gX7_dish_X7_isGeneral : GoodIn wsX7_dish (va_wsS RX7 66 yX7_isGeneral wsX7_isGeneral) := goodIn_app (goodIn_of _ (by decide +kernel)) ggX7_dish_X7_isGeneral
set_option maxRecDepth 20000 in
theorem ggX7_dish_X7_isHour : GoodIn wsX7_dish wsX7_isHour := goodIn_r _ [11, 6, 7, 4, 8] (by decide +kernel) (by decide +kernel)
set_option maxRecDepth 20000 in
theorem gX7_dish_X7_isHour : GoodIn wsX7_dish (va_wsS RX7 127 yX7_isHour wsX7_isHour) := goodIn_app (goodIn_of _ (by decide +kernel)) ggX7_dish_X7_isHour
set_option maxRecDepth 20000 in
theorem ggX7_dish_X7_dayOf : GoodIn wsX7_dish wsX7_dayOf := goodIn_r _ [15, 16, 17, 18, 19, 20, 21, 22, 23, 24, 25, 26, 27, 28, 29, 30, 31, 32, 33, 34, 35, 36, 37, 38, 39, 40, 41, 42, 43, 44, 45, 46, 47, 48, 49, 53, 54, 55, 56, 57, 58, 59, 60, 61, 50, 51, 52, 62, 63, 64, 65, 66, 67, 68, 69, 70] (by decide +kernel) (by decide +kernel)
set_option maxRecDepth 20000 in
theorem gX7_dish_X7_dayOf : GoodIn wsX7_dish (wsV RX7 130 RX7 yX7_dayOf wsX7_dayOf) := goodIn_app (goodIn_of _ (by decide +kernel)) ggX7_dish_X7_dayOf
theorem dX7_dish_0 : decode cX7_dish 0 = .ok (.iload_n 1, 1) := by decide +kernel
theorem dX7_dish_1 : decode cX7_dish 1 = .ok (.invokestatic 66, 3) := by decide +kernel
theorem dX7_dish_4 : decode cX7_dish 4 = .ok (.ifCond .eq 10, 3) := by decide +kernel
theorem dX7_dish_7 : decode cX7_dish 7 = .ok (.iload_n 2, 1) := by decide +kernel
theorem dX7_dish_8 : decode cX7_dish 8 = .ok (.invokestatic 127, 3) := by decide +kernel
theorem dX7_dish_11 : decode cX7_dish 11 = .ok (.ifCond .ne 6, 3) := by decide +kernel
theorem dX7_dish_14 : decode cX7_dish 14 = .ok (.bipush (-2), 2) := by decide +kernel
theorem dX7_dish_16 : decode cX7_dish 16 = .ok (.ireturn, 1) := by decide +kernel
theorem dX7_dish_17 : decode cX7_dish 17 = .ok (.aload_n 0, 1) := by decide +kernel
theorem dX7_dish_18 : decode cX7_dish 18 = .ok (.iload_n 1, 1) := by decide +kernel
theorem dX7_dish_19 : decode cX7_dish 19 = .ok (.invokevirtual 130, 3) := by decide +kernel
theorem dX7_dish_22 : decode cX7_dish 22 = .ok (.getfield 134, 3) := by decide +kernel
theorem dX7_dish_25 : decode cX7_dish 25 = .ok (.iload_n 2, 1) := by decide +kernel
theorem dX7_dish_26 : decode cX7_dish 26 = .ok (.iaload, 1) := by decide +kernel
theorem dX7_dish_27 : decode cX7_dish 27 = .ok (.ireturn, 1) := by decide +kernel
set_option maxRecDepth 20000 in
theorem ggX7_level_X7_isGeneral : GoodIn wsX7_level wsX7_isGeneral := goodIn_r _ [5, 6, 7, 4, 8] (by decide +kernel) (by decide +kernel)
set_option maxRecDepth 20000 in
theorem gX7_level_X7_isGeneral : GoodIn wsX7_level (va_wsS RX7 66 yX7_isGeneral wsX7_isGeneral) := goodIn_app (goodIn_of _ (by decide +kernel)) ggX7_level_X7_isGeneral
set_option maxRecDepth 20000 in
theorem ggX7_level_X7_isHour : GoodIn wsX7_level wsX7_isHour := goodIn_r _ [11, 6, 7, 4, 8] (by decide +kernel) (by decide +kernel)
set_option maxRecDepth 20000 in
theorem gX7_level_X7_isHour : GoodIn wsX7_level (va_wsS RX7 127 yX7_isHour wsX7_isHour) := goodIn_app (goodIn_of _ (by decide +kernel)) ggX7_level_X7_isHour
set_option maxRecDepth 20000 in
theorem ggX7_level_X7_dayOf : GoodIn wsX7_level wsX7_dayOf := goodIn_r _ [15, 16, 17, 18, 19, 20, 21, 22, 23, 24, 25, 26, 27, 28, 29, 30, 31, 32, 33, 34, 35, 36, 37, 38, 39, 40, 41, 42, 43, 44, 45, 46, 47, 48, 49, 53, 54, 55, 56, 57, 58, 59, 60, 61, 50, 51, 52, 62, 63, 64, 65, 66, 67, 68, 69, 70] (by decide +kernel) (by decide +kernel)
set_option maxRecDepth 20000 in
theorem gX7_level_X7_dayOf : GoodIn wsX7_level (wsV RX7 130 RX7 yX7_dayOf wsX7_dayOf) := goodIn_app (goodIn_of _ (by decide +kernel)) ggX7_level_X7_dayOf
theorem dX7_level_0 : decode cX7_level 0 = .ok (.iload_n 1, 1) := by decide +kernel
theorem dX7_level_1 : decode cX7_level 1 = .ok (.invokestatic 66, 3) := by decide +kernel
theorem dX7_level_4 : decode cX7_level 4 = .ok (.ifCond .eq 10, 3) := by decide +kernel
theorem dX7_level_7 : decode cX7_level 7 = .ok (.iload_n 2, 1) := by decide +kernel
theorem dX7_level_8 : decode cX7_level 8 = .ok (.invokestatic 127, 3) := by decide +kernel
theorem dX7_level_11 : decode cX7_level 11 = .ok (.ifCond .ne 6, 3) := by decide +kernel
theorem dX7_level_14 : decode cX7_level 14 = .ok (.bipush (-2), 2) := by decide +kernel
theorem dX7_level_16 : decode cX7_level 16 = .ok (.ireturn, 1) := by decide +kernel
theorem dX7_level_17 : decode cX7_level 17 = .ok (.aload_n 0, 1) := by decide +kernel
theorem dX7_level_18 : decode cX7_level 18 = .ok (.iload_n 1, 1) := by decide +kernel
theorem dX7_level_19 : decode cX7_level 19 = .ok (.invokevirtual 130, 3) := by decide +kernel
theorem dX7_level_22 : decode cX7_level 22 = .ok (.getfield 137, 3) := by decide +kernel
theorem dX7_level_25 : decode cX7_level 25 = .ok (.iload_n 2, 1) := by decide +kernel
theorem dX7_level_26 : decode cX7_level 26 = .ok (.iaload, 1) := by decide +kernel
theorem dX7_level_27 : decode cX7_level 27 = .ok (.ireturn, 1) := by decide +kernel
set_option maxRecDepth 20000 in
theorem ggX7_hiccups_X7_isGeneral : GoodIn wsX7_hiccups wsX7_isGeneral := goodIn_r _ [4, 5, 6, 3, 7] (by decide +kernel) (by decide +kernel)
set_option maxRecDepth 20000 in
theorem gX7_hiccups_X7_isGeneral : GoodIn wsX7_hiccups (va_wsS RX7 66 yX7_isGeneral wsX7_isGeneral) := goodIn_app (goodIn_of _ (by decide +kernel)) ggX7_hiccups_X7_isGeneral
set_option maxRecDepth 20000 in
theorem ggX7_hiccups_X7_hoursOf : GoodIn wsX7_hiccups wsX7_hoursOf := goodIn_r _ [11, 12, 13, 14, 15, 3, 16, 17, 18, 19, 20, 21, 22, 23, 24, 25, 26, 27, 28, 29, 30, 31, 32, 33, 34, 35, 36, 37, 38, 39, 40, 41, 42, 43, 44, 45, 46, 47, 48, 49, 50, 51, 52, 53, 54, 55, 56, 57, 58, 59, 60, 61, 62, 63, 64, 65, 66, 67, 68, 69, 70, 71, 72, 73, 74, 75, 76, 77, 78, 79] (by decide +kernel) (by decide +kernel)
set_option maxRecDepth 20000 in
theorem gX7_hiccups_X7_hoursOf : GoodIn wsX7_hiccups (wsV RX7 140 RX7 yX7_hoursOf wsX7_hoursOf) := goodIn_app (goodIn_of _ (by decide +kernel)) ggX7_hiccups_X7_hoursOf
theorem dX7_hiccups_0 : decode cX7_hiccups 0 = .ok (.iload_n 1, 1) := by decide +kernel
theorem dX7_hiccups_1 : decode cX7_hiccups 1 = .ok (.invokestatic 66, 3) := by decide +kernel
theorem dX7_hiccups_4 : decode cX7_hiccups 4 = .ok (.ifCond .ne 6, 3) := by decide +kernel
theorem dX7_hiccups_7 : decode cX7_hiccups 7 = .ok (.bipush (-2), 2) := by decide +kernel
theorem dX7_hiccups_9 : decode cX7_hiccups 9 = .ok (.ireturn, 1) := by decide +kernel
theorem dX7_hiccups_10 : decode cX7_hiccups 10 = .ok (.aload_n 0, 1) := by decide +kernel
theorem dX7_hiccups_11 : decode cX7_hiccups 11 = .ok (.iload_n 1, 1) := by decide +kernel
theorem dX7_hiccups_12 : decode cX7_hiccups 12 = .ok (.invokevirtual 140, 3) := by decide +kernel
theorem dX7_hiccups_15 : decode cX7_hiccups 15 = .ok (.ireturn, 1) := by decide +kernel
set_option maxRecDepth 20000 in
theorem ggX7_broken_X7_within : GoodIn wsX7_broken wsX7_within := goodIn_r _ [4] (by decide +kernel) (by decide +kernel)
set_option maxRecDepth 20000 in
theorem gX7_broken_X7_within : GoodIn wsX7_broken (va_wsS RX7 70 yX7_within wsX7_within) := goodIn_app (goodIn_of _ (by decide +kernel)) ggX7_broken_X7_within
set_option maxRecDepth 20000 in
theorem ggX7_broken_X7_brokenHours : GoodIn wsX7_broken wsX7_brokenHours := goodIn_r _ [8, 9, 10, 11, 3, 12, 13, 14, 15, 16, 17, 18, 19, 20, 21, 22, 23, 24, 25, 26, 27, 28, 29, 30, 31, 32, 33, 34, 35, 36, 37, 38, 39, 40, 41, 42, 43, 44, 45, 46, 47, 48, 49, 50, 51, 52, 53, 54, 55, 56, 57, 58, 59, 60, 61, 62, 63, 64, 65, 66, 67, 68, 69, 70, 71, 72, 73, 74, 75, 76, 77, 78, 79, 80] (by decide +kernel) (by decide +kernel)
set_option maxRecDepth 20000 in
theorem gX7_broken_X7_brokenHours : GoodIn wsX7_broken (wsV RX7 143 RX7 yX7_brokenHours wsX7_brokenHours) := goodIn_app (goodIn_of _ (by decide +kernel)) ggX7_broken_X7_brokenHours
theorem dX7_broken_0 : decode cX7_broken 0 = .ok (.iload_n 1, 1) := by decide +kernel
theorem dX7_broken_1 : decode cX7_broken 1 = .ok (.iconst 0, 1) := by decide +kernel
theorem dX7_broken_2 : decode cX7_broken 2 = .ok (.iconst 2, 1) := by decide +kernel
theorem dX7_broken_3 : decode cX7_broken 3 = .ok (.invokestatic 70, 3) := by decide +kernel
theorem dX7_broken_6 : decode cX7_broken 6 = .ok (.ifCond .ne 6, 3) := by decide +kernel
theorem dX7_broken_9 : decode cX7_broken 9 = .ok (.bipush (-2), 2) := by decide +kernel
theorem dX7_broken_11 : decode cX7_broken 11 = .ok (.ireturn, 1) := by decide +kernel
theorem dX7_broken_12 : decode cX7_broken 12 = .ok (.aload_n 0, 1) := by decide +kernel
theorem dX7_broken_13 : decode cX7_broken 13 = .ok (.iload_n 1, 1) := by decide +kernel
theorem dX7_broken_14 : decode cX7_broken 14 = .ok (.invokevirtual 143, 3) := by decide +kernel
theorem dX7_broken_17 : decode cX7_broken 17 = .ok (.ireturn, 1) := by decide +kernel
set_option maxRecDepth 20000 in
theorem ggX7_judged_X7_brokenHours : GoodIn wsX7_judged wsX7_brokenHours := goodIn_r _ [7, 8, 9, 10, 6, 11, 1, 12, 13, 14, 15, 16, 17, 18, 19, 20, 21, 22, 23, 24, 25, 26, 27, 28, 29, 30, 31, 32, 33, 34, 35, 36, 37, 38, 39, 40, 41, 42, 43, 44, 45, 46, 47, 48, 49, 50, 51, 52, 53, 54, 55, 56, 57, 61, 62, 63, 64, 65, 66, 67, 68, 69, 75, 76, 77, 78, 79, 80, 81, 70, 71, 72, 73, 74] (by decide +kernel) (by decide +kernel)
set_option maxRecDepth 20000 in
theorem gX7_judged_X7_brokenHours : GoodIn wsX7_judged (wsV RX7 143 RX7 yX7_brokenHours wsX7_brokenHours) := goodIn_app (goodIn_of _ (by decide +kernel)) ggX7_judged_X7_brokenHours
set_option maxRecDepth 20000 in
theorem ggX7_judged_X7_hasHour : GoodIn wsX7_judged wsX7_hasHour := goodIn_r _ [60] (by decide +kernel) (by decide +kernel)
set_option maxRecDepth 20000 in
theorem gX7_judged_X7_hasHour : GoodIn wsX7_judged (va_wsS RX7 149 yX7_hasHour wsX7_hasHour) := goodIn_app (goodIn_of _ (by decide +kernel)) ggX7_judged_X7_hasHour
theorem dX7_judged_0 : decode cX7_judged 0 = .ok (.aload_n 0, 1) := by decide +kernel
theorem dX7_judged_1 : decode cX7_judged 1 = .ok (.aload_n 0, 1) := by decide +kernel
theorem dX7_judged_2 : decode cX7_judged 2 = .ok (.getfield 30, 3) := by decide +kernel
theorem dX7_judged_5 : decode cX7_judged 5 = .ok (.getfield 146, 3) := by decide +kernel
theorem dX7_judged_8 : decode cX7_judged 8 = .ok (.invokevirtual 143, 3) := by decide +kernel
theorem dX7_judged_11 : decode cX7_judged 11 = .ok (.istore_n 1, 1) := by decide +kernel
theorem dX7_judged_12 : decode cX7_judged 12 = .ok (.iconst 0, 1) := by decide +kernel
theorem dX7_judged_13 : decode cX7_judged 13 = .ok (.istore_n 2, 1) := by decide +kernel
theorem dX7_judged_14 : decode cX7_judged 14 = .ok (.iload_n 2, 1) := by decide +kernel
theorem dX7_judged_15 : decode cX7_judged 15 = .ok (.bipush 24, 2) := by decide +kernel
theorem dX7_judged_17 : decode cX7_judged 17 = .ok (.if_icmp .ge 19, 3) := by decide +kernel
theorem dX7_judged_20 : decode cX7_judged 20 = .ok (.iload_n 1, 1) := by decide +kernel
theorem dX7_judged_21 : decode cX7_judged 21 = .ok (.iload_n 2, 1) := by decide +kernel
theorem dX7_judged_22 : decode cX7_judged 22 = .ok (.invokestatic 149, 3) := by decide +kernel
theorem dX7_judged_25 : decode cX7_judged 25 = .ok (.ifCond .eq 5, 3) := by decide +kernel
theorem dX7_judged_28 : decode cX7_judged 28 = .ok (.iload_n 2, 1) := by decide +kernel
theorem dX7_judged_29 : decode cX7_judged 29 = .ok (.ireturn, 1) := by decide +kernel
theorem dX7_judged_30 : decode cX7_judged 30 = .ok (.iinc 2 1, 3) := by decide +kernel
theorem dX7_judged_33 : decode cX7_judged 33 = .ok (.goto (-19), 3) := by decide +kernel
theorem dX7_judged_36 : decode cX7_judged 36 = .ok (.iconst (-1), 1) := by decide +kernel
theorem dX7_judged_37 : decode cX7_judged 37 = .ok (.ireturn, 1) := by decide +kernel
set_option maxRecDepth 20000 in
theorem ggX7_armistice_X7_within : GoodIn wsX7_armistice wsX7_within := goodIn_r _ [6] (by decide +kernel) (by decide +kernel)
set_option maxRecDepth 20000 in
theorem gX7_armistice_X7_within : GoodIn wsX7_armistice (va_wsS RX7 70 yX7_within wsX7_within) := goodIn_app (goodIn_of _ (by decide +kernel)) ggX7_armistice_X7_within
set_option maxRecDepth 20000 in
theorem ggX7_armistice_X7_brokenHours : GoodIn wsX7_armistice wsX7_brokenHours := goodIn_r _ [10, 11, 12, 13, 5, 14, 1, 15, 16, 17, 18, 19, 20, 21, 22, 23, 24, 25, 26, 27, 28, 29, 30, 31, 32, 33, 34, 35, 36, 37, 38, 39, 40, 41, 42, 43, 44, 45, 46, 47, 48, 49, 50, 51, 52, 53, 54, 55, 56, 57, 58, 59, 60, 64, 65, 66, 67, 68, 69, 70, 71, 72, 78, 79, 80, 81, 82, 83, 84, 73, 74, 75, 76, 77] (by decide +kernel) (by decide +kernel)
set_option maxRecDepth 20000 in
theorem gX7_armistice_X7_brokenHours : GoodIn wsX7_armistice (wsV RX7 143 RX7 yX7_brokenHours wsX7_brokenHours) := goodIn_app (goodIn_of _ (by decide +kernel)) ggX7_armistice_X7_brokenHours
set_option maxRecDepth 20000 in
theorem ggX7_armistice_X7_hasHour : GoodIn wsX7_armistice wsX7_hasHour := goodIn_r _ [63] (by decide +kernel) (by decide +kernel)
set_option maxRecDepth 20000 in
theorem gX7_armistice_X7_hasHour : GoodIn wsX7_armistice (va_wsS RX7 149 yX7_hasHour wsX7_hasHour) := goodIn_app (goodIn_of _ (by decide +kernel)) ggX7_armistice_X7_hasHour
theorem dX7_armistice_0 : decode cX7_armistice 0 = .ok (.iload_n 1, 1) := by decide +kernel
theorem dX7_armistice_1 : decode cX7_armistice 1 = .ok (.iconst 0, 1) := by decide +kernel
theorem dX7_armistice_2 : decode cX7_armistice 2 = .ok (.iconst 1, 1) := by decide +kernel
theorem dX7_armistice_3 : decode cX7_armistice 3 = .ok (.invokestatic 70, 3) := by decide +kernel
theorem dX7_armistice_6 : decode cX7_armistice 6 = .ok (.ifCond .ne 6, 3) := by decide +kernel
theorem dX7_armistice_9 : decode cX7_armistice 9 = .ok (.bipush (-2), 2) := by decide +kernel
theorem dX7_armistice_11 : decode cX7_armistice 11 = .ok (.ireturn, 1) := by decide +kernel
theorem dX7_armistice_12 : decode cX7_armistice 12 = .ok (.aload_n 0, 1) := by decide +kernel
theorem dX7_armistice_13 : decode cX7_armistice 13 = .ok (.aload_n 0, 1) := by decide +kernel
theorem dX7_armistice_14 : decode cX7_armistice 14 = .ok (.getfield 30, 3) := by decide +kernel
theorem dX7_armistice_17 : decode cX7_armistice 17 = .ok (.getfield 146, 3) := by decide +kernel
theorem dX7_armistice_20 : decode cX7_armistice 20 = .ok (.invokevirtual 143, 3) := by decide +kernel
theorem dX7_armistice_23 : decode cX7_armistice 23 = .ok (.istore_n 2, 1) := by decide +kernel
theorem dX7_armistice_24 : decode cX7_armistice 24 = .ok (.iconst (-1), 1) := by decide +kernel
theorem dX7_armistice_25 : decode cX7_armistice 25 = .ok (.istore_n 3, 1) := by decide +kernel
theorem dX7_armistice_26 : decode cX7_armistice 26 = .ok (.iconst 0, 1) := by decide +kernel
theorem dX7_armistice_27 : decode cX7_armistice 27 = .ok (.istore 4, 2) := by decide +kernel
theorem dX7_armistice_29 : decode cX7_armistice 29 = .ok (.iconst 0, 1) := by decide +kernel
theorem dX7_armistice_30 : decode cX7_armistice 30 = .ok (.istore 5, 2) := by decide +kernel
theorem dX7_armistice_32 : decode cX7_armistice 32 = .ok (.iconst 0, 1) := by decide +kernel
theorem dX7_armistice_33 : decode cX7_armistice 33 = .ok (.istore 6, 2) := by decide +kernel
theorem dX7_armistice_35 : decode cX7_armistice 35 = .ok (.iload 6, 2) := by decide +kernel
theorem dX7_armistice_37 : decode cX7_armistice 37 = .ok (.bipush 24, 2) := by decide +kernel
theorem dX7_armistice_39 : decode cX7_armistice 39 = .ok (.if_icmp .ge 47, 3) := by decide +kernel
theorem dX7_armistice_42 : decode cX7_armistice 42 = .ok (.iload_n 2, 1) := by decide +kernel
theorem dX7_armistice_43 : decode cX7_armistice 43 = .ok (.iload 6, 2) := by decide +kernel
theorem dX7_armistice_45 : decode cX7_armistice 45 = .ok (.invokestatic 149, 3) := by decide +kernel
theorem dX7_armistice_48 : decode cX7_armistice 48 = .ok (.ifCond .eq 7, 3) := by decide +kernel
theorem dX7_armistice_51 : decode cX7_armistice 51 = .ok (.iconst 0, 1) := by decide +kernel
theorem dX7_armistice_52 : decode cX7_armistice 52 = .ok (.goto 7, 3) := by decide +kernel
theorem dX7_armistice_55 : decode cX7_armistice 55 = .ok (.iload 5, 2) := by decide +kernel
theorem dX7_armistice_57 : decode cX7_armistice 57 = .ok (.iconst 1, 1) := by decide +kernel
theorem dX7_armistice_58 : decode cX7_armistice 58 = .ok (.iadd, 1) := by decide +kernel
theorem dX7_armistice_59 : decode cX7_armistice 59 = .ok (.istore 5, 2) := by decide +kernel
theorem dX7_armistice_61 : decode cX7_armistice 61 = .ok (.iload 5, 2) := by decide +kernel
theorem dX7_armistice_63 : decode cX7_armistice 63 = .ok (.iload 4, 2) := by decide +kernel
theorem dX7_armistice_65 : decode cX7_armistice 65 = .ok (.if_icmp .le 15, 3) := by decide +kernel
theorem dX7_armistice_68 : decode cX7_armistice 68 = .ok (.iload 5, 2) := by decide +kernel
theorem dX7_armistice_70 : decode cX7_armistice 70 = .ok (.istore 4, 2) := by decide +kernel
theorem dX7_armistice_72 : decode cX7_armistice 72 = .ok (.iload 6, 2) := by decide +kernel
theorem dX7_armistice_74 : decode cX7_armistice 74 = .ok (.iload 5, 2) := by decide +kernel
theorem dX7_armistice_76 : decode cX7_armistice 76 = .ok (.isub, 1) := by decide +kernel
theorem dX7_armistice_77 : decode cX7_armistice 77 = .ok (.iconst 1, 1) := by decide +kernel
theorem dX7_armistice_78 : decode cX7_armistice 78 = .ok (.iadd, 1) := by decide +kernel
theorem dX7_armistice_79 : decode cX7_armistice 79 = .ok (.istore_n 3, 1) := by decide +kernel
theorem dX7_armistice_80 : decode cX7_armistice 80 = .ok (.iinc 6 1, 3) := by decide +kernel
theorem dX7_armistice_83 : decode cX7_armistice 83 = .ok (.goto (-48), 3) := by decide +kernel
theorem dX7_armistice_86 : decode cX7_armistice 86 = .ok (.iload_n 1, 1) := by decide +kernel
theorem dX7_armistice_87 : decode cX7_armistice 87 = .ok (.ifCond .ne 7, 3) := by decide +kernel
theorem dX7_armistice_90 : decode cX7_armistice 90 = .ok (.iload_n 3, 1) := by decide +kernel
theorem dX7_armistice_91 : decode cX7_armistice 91 = .ok (.goto 5, 3) := by decide +kernel
theorem dX7_armistice_94 : decode cX7_armistice 94 = .ok (.iload 4, 2) := by decide +kernel
theorem dX7_armistice_96 : decode cX7_armistice 96 = .ok (.ireturn, 1) := by decide +kernel
set_option maxRecDepth 20000 in
theorem ggX7_led_X7_isGeneral : GoodIn wsX7_led wsX7_isGeneral := goodIn_r _ [8, 9, 10, 7, 11] (by decide +kernel) (by decide +kernel)
set_option maxRecDepth 20000 in
theorem gX7_led_X7_isGeneral : GoodIn wsX7_led (va_wsS RX7 66 yX7_isGeneral wsX7_isGeneral) := goodIn_app (goodIn_of _ (by decide +kernel)) ggX7_led_X7_isGeneral
set_option maxRecDepth 20000 in
theorem ggX7_led_X7_isHour : GoodIn wsX7_led wsX7_isHour := goodIn_r _ [14, 9, 10, 7, 11] (by decide +kernel) (by decide +kernel)
set_option maxRecDepth 20000 in
theorem gX7_led_X7_isHour : GoodIn wsX7_led (va_wsS RX7 127 yX7_isHour wsX7_isHour) := goodIn_app (goodIn_of _ (by decide +kernel)) ggX7_led_X7_isHour
set_option maxRecDepth 20000 in
theorem ggX7_led_X7_dayOf : GoodIn wsX7_led wsX7_dayOf := goodIn_r _ [18, 19, 20, 1, 21, 22, 23, 24, 25, 26, 27, 28, 29, 30, 31, 32, 33, 34, 35, 36, 37, 38, 39, 40, 41, 42, 43, 44, 45, 46, 47, 48, 49, 50, 51, 61, 62, 63, 64, 65, 66, 67, 68, 69, 70, 71, 72, 78, 79, 80, 81, 73, 74, 75, 76, 77] (by decide +kernel) (by decide +kernel)
set_option maxRecDepth 20000 in
theorem gX7_led_X7_dayOf : GoodIn wsX7_led (wsV RX7 130 RX7 yX7_dayOf wsX7_dayOf) := goodIn_app (goodIn_of _ (by decide +kernel)) ggX7_led_X7_dayOf
set_option maxRecDepth 20000 in
theorem ggX7_led_X3_hiccupsAt : GoodIn wsX7_led wsX3_hiccupsAt := goodIn_r _ [55, 56, 73, 74, 75, 76, 77] (by decide +kernel) (by decide +kernel)
set_option maxRecDepth 20000 in
theorem gX7_led_X3_hiccupsAt : GoodIn wsX7_led (wsV RX7 153 RX3 yX3_hiccupsAt wsX3_hiccupsAt) := goodIn_app (goodIn_of _ (by decide +kernel)) ggX7_led_X3_hiccupsAt
set_option maxRecDepth 20000 in
theorem ggX7_led_X0_levelAhead : GoodIn wsX7_led wsX0_levelAhead := goodIn_r _ [60, 45, 28, 70, 71, 72] (by decide +kernel) (by decide +kernel)
set_option maxRecDepth 20000 in
theorem gX7_led_X0_levelAhead : GoodIn wsX7_led (wsV RX7 156 RX0 yX0_levelAhead wsX0_levelAhead) := goodIn_app (goodIn_of _ (by decide +kernel)) ggX7_led_X0_levelAhead
theorem dX7_led_0 : decode cX7_led 0 = .ok (.iload_n 1, 1) := by decide +kernel
theorem dX7_led_1 : decode cX7_led 1 = .ok (.invokestatic 66, 3) := by decide +kernel
theorem dX7_led_4 : decode cX7_led 4 = .ok (.ifCond .eq 10, 3) := by decide +kernel
theorem dX7_led_7 : decode cX7_led 7 = .ok (.iload_n 2, 1) := by decide +kernel
theorem dX7_led_8 : decode cX7_led 8 = .ok (.invokestatic 127, 3) := by decide +kernel
theorem dX7_led_11 : decode cX7_led 11 = .ok (.ifCond .ne 6, 3) := by decide +kernel
theorem dX7_led_14 : decode cX7_led 14 = .ok (.bipush (-2), 2) := by decide +kernel
theorem dX7_led_16 : decode cX7_led 16 = .ok (.ireturn, 1) := by decide +kernel
theorem dX7_led_17 : decode cX7_led 17 = .ok (.aload_n 0, 1) := by decide +kernel
theorem dX7_led_18 : decode cX7_led 18 = .ok (.iload_n 1, 1) := by decide +kernel
theorem dX7_led_19 : decode cX7_led 19 = .ok (.invokevirtual 130, 3) := by decide +kernel
theorem dX7_led_22 : decode cX7_led 22 = .ok (.astore_n 3, 1) := by decide +kernel
theorem dX7_led_23 : decode cX7_led 23 = .ok (.aload_n 0, 1) := by decide +kernel
theorem dX7_led_24 : decode cX7_led 24 = .ok (.getfield 30, 3) := by decide +kernel
theorem dX7_led_27 : decode cX7_led 27 = .ok (.aload_n 3, 1) := by decide +kernel
theorem dX7_led_28 : decode cX7_led 28 = .ok (.getfield 137, 3) := by decide +kernel
theorem dX7_led_31 : decode cX7_led 31 = .ok (.iload_n 2, 1) := by decide +kernel
theorem dX7_led_32 : decode cX7_led 32 = .ok (.iaload, 1) := by decide +kernel
theorem dX7_led_33 : decode cX7_led 33 = .ok (.aload_n 3, 1) := by decide +kernel
theorem dX7_led_34 : decode cX7_led 34 = .ok (.getfield 134, 3) := by decide +kernel
theorem dX7_led_37 : decode cX7_led 37 = .ok (.iload_n 2, 1) := by decide +kernel
theorem dX7_led_38 : decode cX7_led 38 = .ok (.iaload, 1) := by decide +kernel
theorem dX7_led_39 : decode cX7_led 39 = .ok (.invokevirtual 153, 3) := by decide +kernel
theorem dX7_led_42 : decode cX7_led 42 = .ok (.ifCond .ne 6, 3) := by decide +kernel
theorem dX7_led_45 : decode cX7_led 45 = .ok (.bipush (-3), 2) := by decide +kernel
theorem dX7_led_47 : decode cX7_led 47 = .ok (.ireturn, 1) := by decide +kernel
theorem dX7_led_48 : decode cX7_led 48 = .ok (.iload_n 2, 1) := by decide +kernel
theorem dX7_led_49 : decode cX7_led 49 = .ok (.istore 4, 2) := by decide +kernel
theorem dX7_led_51 : decode cX7_led 51 = .ok (.iload 4, 2) := by decide +kernel
theorem dX7_led_53 : decode cX7_led 53 = .ok (.ifCond .lt 28, 3) := by decide +kernel
theorem dX7_led_56 : decode cX7_led 56 = .ok (.aload_n 3, 1) := by decide +kernel
theorem dX7_led_57 : decode cX7_led 57 = .ok (.iload 4, 2) := by decide +kernel
theorem dX7_led_59 : decode cX7_led 59 = .ok (.invokevirtual 156, 3) := by decide +kernel
theorem dX7_led_62 : decode cX7_led 62 = .ok (.aload_n 0, 1) := by decide +kernel
theorem dX7_led_63 : decode cX7_led 63 = .ok (.getfield 30, 3) := by decide +kernel
theorem dX7_led_66 : decode cX7_led 66 = .ok (.getfield 159, 3) := by decide +kernel
theorem dX7_led_69 : decode cX7_led 69 = .ok (.if_icmp .ge 6, 3) := by decide +kernel
theorem dX7_led_72 : decode cX7_led 72 = .ok (.iload 4, 2) := by decide +kernel
theorem dX7_led_74 : decode cX7_led 74 = .ok (.ireturn, 1) := by decide +kernel
theorem dX7_led_75 : decode cX7_led 75 = .ok (.iinc 4 (-1), 3) := by decide +kernel
theorem dX7_led_78 : decode cX7_led 78 = .ok (.goto (-27), 3) := by decide +kernel
theorem dX7_led_81 : decode cX7_led 81 = .ok (.iconst (-1), 1) := by decide +kernel
theorem dX7_led_82 : decode cX7_led 82 = .ok (.ireturn, 1) := by decide +kernel
set_option maxRecDepth 20000 in
theorem ggX7_odds_X7_isHour : GoodIn wsX7_odds wsX7_isHour := goodIn_r _ [7, 8, 9, 6, 10] (by decide +kernel) (by decide +kernel)
set_option maxRecDepth 20000 in
theorem gX7_odds_X7_isHour : GoodIn wsX7_odds (va_wsS RX7 127 yX7_isHour wsX7_isHour) := goodIn_app (goodIn_of _ (by decide +kernel)) ggX7_odds_X7_isHour
set_option maxRecDepth 20000 in
theorem ggX7_odds_X7_within : GoodIn wsX7_odds wsX7_within := goodIn_r _ [10] (by decide +kernel) (by decide +kernel)
set_option maxRecDepth 20000 in
theorem gX7_odds_X7_within : GoodIn wsX7_odds (va_wsS RX7 70 yX7_within wsX7_within) := goodIn_app (goodIn_of _ (by decide +kernel)) ggX7_odds_X7_within
set_option maxRecDepth 20000 in
theorem ggX7_odds_X7_dayOf : GoodIn wsX7_odds wsX7_dayOf := goodIn_r _ [14, 15, 16, 17, 18, 19, 20, 21, 22, 23, 24, 25, 26, 27, 28, 29, 30, 31, 32, 33, 34, 35, 36, 37, 38, 39, 40, 41, 42, 43, 44, 45, 46, 47, 48, 53, 54, 55, 56, 57, 58, 59, 60, 61, 62, 63, 64, 65, 66, 67, 68, 69, 70, 71, 72, 73] (by decide +kernel) (by decide +kernel)
set_option maxRecDepth 20000 in
theorem gX7_odds_X7_dayOf : GoodIn wsX7_odds (wsV RX7 130 RX7 yX7_dayOf wsX7_dayOf) := goodIn_app (goodIn_of _ (by decide +kernel)) ggX7_odds_X7_dayOf
set_option maxRecDepth 20000 in
theorem ggX7_odds_X0_chanceAt : GoodIn wsX7_odds wsX0_chanceAt := goodIn_r _ [52, 23, 42, 5, 6, 7, 8, 9, 10, 62, 63, 64] (by decide +kernel) (by decide +kernel)
set_option maxRecDepth 20000 in
theorem gX7_odds_X0_chanceAt : GoodIn wsX7_odds (wsV RX7 164 RX0 yX0_chanceAt wsX0_chanceAt) := goodIn_app (goodIn_of _ (by decide +kernel)) ggX7_odds_X0_chanceAt
theorem dX7_odds_0 : decode cX7_odds 0 = .ok (.iload_n 1, 1) := by decide +kernel
theorem dX7_odds_1 : decode cX7_odds 1 = .ok (.invokestatic 127, 3) := by decide +kernel
theorem dX7_odds_4 : decode cX7_odds 4 = .ok (.ifCond .eq 30, 3) := by decide +kernel
theorem dX7_odds_7 : decode cX7_odds 7 = .ok (.iload_n 2, 1) := by decide +kernel
theorem dX7_odds_8 : decode cX7_odds 8 = .ok (.iconst 0, 1) := by decide +kernel
theorem dX7_odds_9 : decode cX7_odds 9 = .ok (.bipush 7, 2) := by decide +kernel
theorem dX7_odds_11 : decode cX7_odds 11 = .ok (.invokestatic 70, 3) := by decide +kernel
theorem dX7_odds_14 : decode cX7_odds 14 = .ok (.ifCond .eq 20, 3) := by decide +kernel
theorem dX7_odds_17 : decode cX7_odds 17 = .ok (.iload_n 1, 1) := by decide +kernel
theorem dX7_odds_18 : decode cX7_odds 18 = .ok (.iload_n 2, 1) := by decide +kernel
theorem dX7_odds_19 : decode cX7_odds 19 = .ok (.iadd, 1) := by decide +kernel
theorem dX7_odds_20 : decode cX7_odds 20 = .ok (.bipush 24, 2) := by decide +kernel
theorem dX7_odds_22 : decode cX7_odds 22 = .ok (.if_icmp .gt 12, 3) := by decide +kernel
theorem dX7_odds_25 : decode cX7_odds 25 = .ok (.iload_n 3, 1) := by decide +kernel
theorem dX7_odds_26 : decode cX7_odds 26 = .ok (.iconst 0, 1) := by decide +kernel
theorem dX7_odds_27 : decode cX7_odds 27 = .ok (.iconst 1, 1) := by decide +kernel
theorem dX7_odds_28 : decode cX7_odds 28 = .ok (.invokestatic 70, 3) := by decide +kernel
theorem dX7_odds_31 : decode cX7_odds 31 = .ok (.ifCond .ne 7, 3) := by decide +kernel
theorem dX7_odds_34 : decode cX7_odds 34 = .ok (.ldc2_w 162, 3) := by decide +kernel
theorem dX7_odds_37 : decode cX7_odds 37 = .ok (.lreturn, 1) := by decide +kernel
theorem dX7_odds_38 : decode cX7_odds 38 = .ok (.aload_n 0, 1) := by decide +kernel
theorem dX7_odds_39 : decode cX7_odds 39 = .ok (.iconst 0, 1) := by decide +kernel
theorem dX7_odds_40 : decode cX7_odds 40 = .ok (.invokevirtual 130, 3) := by decide +kernel
theorem dX7_odds_43 : decode cX7_odds 43 = .ok (.astore 4, 2) := by decide +kernel
theorem dX7_odds_45 : decode cX7_odds 45 = .ok (.aload_n 0, 1) := by decide +kernel
theorem dX7_odds_46 : decode cX7_odds 46 = .ok (.iconst 1, 1) := by decide +kernel
theorem dX7_odds_47 : decode cX7_odds 47 = .ok (.invokevirtual 130, 3) := by decide +kernel
theorem dX7_odds_50 : decode cX7_odds 50 = .ok (.astore 5, 2) := by decide +kernel
theorem dX7_odds_52 : decode cX7_odds 52 = .ok (.lconst 1, 1) := by decide +kernel
theorem dX7_odds_53 : decode cX7_odds 53 = .ok (.lstore 6, 2) := by decide +kernel
theorem dX7_odds_55 : decode cX7_odds 55 = .ok (.lconst 1, 1) := by decide +kernel
theorem dX7_odds_56 : decode cX7_odds 56 = .ok (.lstore 8, 2) := by decide +kernel
theorem dX7_odds_58 : decode cX7_odds 58 = .ok (.iload_n 1, 1) := by decide +kernel
theorem dX7_odds_59 : decode cX7_odds 59 = .ok (.istore 10, 2) := by decide +kernel
theorem dX7_odds_61 : decode cX7_odds 61 = .ok (.iload 10, 2) := by decide +kernel
theorem dX7_odds_63 : decode cX7_odds 63 = .ok (.iload_n 1, 1) := by decide +kernel
theorem dX7_odds_64 : decode cX7_odds 64 = .ok (.iload_n 2, 1) := by decide +kernel
theorem dX7_odds_65 : decode cX7_odds 65 = .ok (.iadd, 1) := by decide +kernel
theorem dX7_odds_66 : decode cX7_odds 66 = .ok (.if_icmp .ge 42, 3) := by decide +kernel
theorem dX7_odds_69 : decode cX7_odds 69 = .ok (.lload 6, 2) := by decide +kernel
theorem dX7_odds_71 : decode cX7_odds 71 = .ok (.sipush 256, 3) := by decide +kernel
theorem dX7_odds_74 : decode cX7_odds 74 = .ok (.aload 4, 2) := by decide +kernel
theorem dX7_odds_76 : decode cX7_odds 76 = .ok (.iload 10, 2) := by decide +kernel
theorem dX7_odds_78 : decode cX7_odds 78 = .ok (.invokevirtual 164, 3) := by decide +kernel
theorem dX7_odds_81 : decode cX7_odds 81 = .ok (.aload 5, 2) := by decide +kernel
theorem dX7_odds_83 : decode cX7_odds 83 = .ok (.iload 10, 2) := by decide +kernel
theorem dX7_odds_85 : decode cX7_odds 85 = .ok (.invokevirtual 164, 3) := by decide +kernel
theorem dX7_odds_88 : decode cX7_odds 88 = .ok (.imul, 1) := by decide +kernel
theorem dX7_odds_89 : decode cX7_odds 89 = .ok (.isub, 1) := by decide +kernel
theorem dX7_odds_90 : decode cX7_odds 90 = .ok (.i2l, 1) := by decide +kernel
theorem dX7_odds_91 : decode cX7_odds 91 = .ok (.lmul, 1) := by decide +kernel
theorem dX7_odds_92 : decode cX7_odds 92 = .ok (.lstore 6, 2) := by decide +kernel
theorem dX7_odds_94 : decode cX7_odds 94 = .ok (.lload 8, 2) := by decide +kernel
theorem dX7_odds_96 : decode cX7_odds 96 = .ok (.ldc2_w 167, 3) := by decide +kernel
theorem dX7_odds_99 : decode cX7_odds 99 = .ok (.lmul, 1) := by decide +kernel
theorem dX7_odds_100 : decode cX7_odds 100 = .ok (.lstore 8, 2) := by decide +kernel
theorem dX7_odds_102 : decode cX7_odds 102 = .ok (.iinc 10 1, 3) := by decide +kernel
theorem dX7_odds_105 : decode cX7_odds 105 = .ok (.goto (-44), 3) := by decide +kernel
theorem dX7_odds_108 : decode cX7_odds 108 = .ok (.iconst 0, 1) := by decide +kernel
theorem dX7_odds_109 : decode cX7_odds 109 = .ok (.istore 10, 2) := by decide +kernel
theorem dX7_odds_111 : decode cX7_odds 111 = .ok (.iload 10, 2) := by decide +kernel
theorem dX7_odds_113 : decode cX7_odds 113 = .ok (.iload_n 2, 1) := by decide +kernel
theorem dX7_odds_114 : decode cX7_odds 114 = .ok (.bipush 8, 2) := by decide +kernel
theorem dX7_odds_116 : decode cX7_odds 116 = .ok (.imul, 1) := by decide +kernel
theorem dX7_odds_117 : decode cX7_odds 117 = .ok (.if_icmp .ge 36, 3) := by decide +kernel
theorem dX7_odds_120 : decode cX7_odds 120 = .ok (.lload 6, 2) := by decide +kernel
theorem dX7_odds_122 : decode cX7_odds 122 = .ok (.ldc2_w 169, 3) := by decide +kernel
theorem dX7_odds_125 : decode cX7_odds 125 = .ok (.lrem, 1) := by decide +kernel
theorem dX7_odds_126 : decode cX7_odds 126 = .ok (.lconst 0, 1) := by decide +kernel
theorem dX7_odds_127 : decode cX7_odds 127 = .ok (.lcmp, 1) := by decide +kernel
theorem dX7_odds_128 : decode cX7_odds 128 = .ok (.ifCond .ne 25, 3) := by decide +kernel
theorem dX7_odds_131 : decode cX7_odds 131 = .ok (.lload 6, 2) := by decide +kernel
theorem dX7_odds_133 : decode cX7_odds 133 = .ok (.ldc2_w 169, 3) := by decide +kernel
theorem dX7_odds_136 : decode cX7_odds 136 = .ok (.ldiv, 1) := by decide +kernel
theorem dX7_odds_137 : decode cX7_odds 137 = .ok (.lstore 6, 2) := by decide +kernel
theorem dX7_odds_139 : decode cX7_odds 139 = .ok (.lload 8, 2) := by decide +kernel
theorem dX7_odds_141 : decode cX7_odds 141 = .ok (.ldc2_w 169, 3) := by decide +kernel
theorem dX7_odds_144 : decode cX7_odds 144 = .ok (.ldiv, 1) := by decide +kernel
theorem dX7_odds_145 : decode cX7_odds 145 = .ok (.lstore 8, 2) := by decide +kernel
theorem dX7_odds_147 : decode cX7_odds 147 = .ok (.iinc 10 1, 3) := by decide +kernel
theorem dX7_odds_150 : decode cX7_odds 150 = .ok (.goto (-39), 3) := by decide +kernel
theorem dX7_odds_153 : decode cX7_odds 153 = .ok (.iload_n 3, 1) := by decide +kernel
theorem dX7_odds_154 : decode cX7_odds 154 = .ok (.ifCond .ne 8, 3) := by decide +kernel
theorem dX7_odds_157 : decode cX7_odds 157 = .ok (.lload 6, 2) := by decide +kernel
theorem dX7_odds_159 : decode cX7_odds 159 = .ok (.goto 5, 3) := by decide +kernel
theorem dX7_odds_162 : decode cX7_odds 162 = .ok (.lload 8, 2) := by decide +kernel
theorem dX7_odds_164 : decode cX7_odds 164 = .ok (.lreturn, 1) := by decide +kernel
set_option maxRecDepth 20000 in
theorem ggX7_heard_X7_isGeneral : GoodIn wsX7_heard wsX7_isGeneral := goodIn_r _ [5, 6, 7, 4, 8] (by decide +kernel) (by decide +kernel)
set_option maxRecDepth 20000 in
theorem gX7_heard_X7_isGeneral : GoodIn wsX7_heard (va_wsS RX7 66 yX7_isGeneral wsX7_isGeneral) := goodIn_app (goodIn_of _ (by decide +kernel)) ggX7_heard_X7_isGeneral
set_option maxRecDepth 20000 in
theorem ggX7_heard_X7_dayOf : GoodIn wsX7_heard wsX7_dayOf := goodIn_r _ [12, 13, 14, 15, 16, 17, 18, 19, 20, 21, 22, 23, 24, 25, 26, 27, 28, 29, 30, 31, 32, 33, 34, 35, 36, 37, 38, 39, 40, 41, 42, 43, 44, 45, 46, 53, 54, 55, 56, 57, 58, 59, 60, 61, 62, 63, 64, 65, 66, 67, 68, 69, 70, 71, 72, 73] (by decide +kernel) (by decide +kernel)
set_option maxRecDepth 20000 in
theorem gX7_heard_X7_dayOf : GoodIn wsX7_heard (wsV RX7 130 RX7 yX7_dayOf wsX7_dayOf) := goodIn_app (goodIn_of _ (by decide +kernel)) ggX7_heard_X7_dayOf
set_option maxRecDepth 20000 in
theorem ggX7_heard_X0_chanceAt : GoodIn wsX7_heard wsX0_chanceAt := goodIn_r _ [50, 21, 40, 51, 4, 52, 6, 7, 8, 62, 63, 64] (by decide +kernel) (by decide +kernel)
set_option maxRecDepth 20000 in
theorem gX7_heard_X0_chanceAt : GoodIn wsX7_heard (wsV RX7 164 RX0 yX0_chanceAt wsX0_chanceAt) := goodIn_app (goodIn_of _ (by decide +kernel)) ggX7_heard_X0_chanceAt
theorem dX7_heard_0 : decode cX7_heard 0 = .ok (.iload_n 1, 1) := by decide +kernel
theorem dX7_heard_1 : decode cX7_heard 1 = .ok (.invokestatic 66, 3) := by decide +kernel
theorem dX7_heard_4 : decode cX7_heard 4 = .ok (.ifCond .ne 6, 3) := by decide +kernel
theorem dX7_heard_7 : decode cX7_heard 7 = .ok (.bipush (-2), 2) := by decide +kernel
theorem dX7_heard_9 : decode cX7_heard 9 = .ok (.ireturn, 1) := by decide +kernel
theorem dX7_heard_10 : decode cX7_heard 10 = .ok (.aload_n 0, 1) := by decide +kernel
theorem dX7_heard_11 : decode cX7_heard 11 = .ok (.iload_n 1, 1) := by decide +kernel
theorem dX7_heard_12 : decode cX7_heard 12 = .ok (.invokevirtual 130, 3) := by decide +kernel
theorem dX7_heard_15 : decode cX7_heard 15 = .ok (.astore_n 3, 1) := by decide +kernel
theorem dX7_heard_16 : decode cX7_heard 16 = .ok (.iconst 0, 1) := by decide +kernel
theorem dX7_heard_17 : decode cX7_heard 17 = .ok (.istore 4, 2) := by decide +kernel
theorem dX7_heard_19 : decode cX7_heard 19 = .ok (.iload_n 2, 1) := by decide +kernel
theorem dX7_heard_20 : decode cX7_heard 20 = .ok (.istore 5, 2) := by decide +kernel
theorem dX7_heard_22 : decode cX7_heard 22 = .ok (.iconst 0, 1) := by decide +kernel
theorem dX7_heard_23 : decode cX7_heard 23 = .ok (.istore 6, 2) := by decide +kernel
theorem dX7_heard_25 : decode cX7_heard 25 = .ok (.iload 6, 2) := by decide +kernel
theorem dX7_heard_27 : decode cX7_heard 27 = .ok (.bipush 24, 2) := by decide +kernel
theorem dX7_heard_29 : decode cX7_heard 29 = .ok (.if_icmp .ge 71, 3) := by decide +kernel
theorem dX7_heard_32 : decode cX7_heard 32 = .ok (.iconst 0, 1) := by decide +kernel
theorem dX7_heard_33 : decode cX7_heard 33 = .ok (.istore 7, 2) := by decide +kernel
theorem dX7_heard_35 : decode cX7_heard 35 = .ok (.iload 7, 2) := by decide +kernel
theorem dX7_heard_37 : decode cX7_heard 37 = .ok (.iconst 3, 1) := by decide +kernel
theorem dX7_heard_38 : decode cX7_heard 38 = .ok (.if_icmp .ge 56, 3) := by decide +kernel
theorem dX7_heard_41 : decode cX7_heard 41 = .ok (.ldc 171, 2) := by decide +kernel
theorem dX7_heard_43 : decode cX7_heard 43 = .ok (.iload 5, 2) := by decide +kernel
theorem dX7_heard_45 : decode cX7_heard 45 = .ok (.imul, 1) := by decide +kernel
theorem dX7_heard_46 : decode cX7_heard 46 = .ok (.sipush 12345, 3) := by decide +kernel
theorem dX7_heard_49 : decode cX7_heard 49 = .ok (.iadd, 1) := by decide +kernel
theorem dX7_heard_50 : decode cX7_heard 50 = .ok (.istore 5, 2) := by decide +kernel
theorem dX7_heard_52 : decode cX7_heard 52 = .ok (.iload 5, 2) := by decide +kernel
theorem dX7_heard_54 : decode cX7_heard 54 = .ok (.bipush 16, 2) := by decide +kernel
theorem dX7_heard_56 : decode cX7_heard 56 = .ok (.iushr, 1) := by decide +kernel
theorem dX7_heard_57 : decode cX7_heard 57 = .ok (.bipush 16, 2) := by decide +kernel
theorem dX7_heard_59 : decode cX7_heard 59 = .ok (.irem, 1) := by decide +kernel
theorem dX7_heard_60 : decode cX7_heard 60 = .ok (.istore 8, 2) := by decide +kernel
theorem dX7_heard_62 : decode cX7_heard 62 = .ok (.iload 7, 2) := by decide +kernel
theorem dX7_heard_64 : decode cX7_heard 64 = .ok (.iload_n 1, 1) := by decide +kernel
theorem dX7_heard_65 : decode cX7_heard 65 = .ok (.if_icmp .ne 23, 3) := by decide +kernel
theorem dX7_heard_68 : decode cX7_heard 68 = .ok (.iload 8, 2) := by decide +kernel
theorem dX7_heard_70 : decode cX7_heard 70 = .ok (.aload_n 3, 1) := by decide +kernel
theorem dX7_heard_71 : decode cX7_heard 71 = .ok (.iload 6, 2) := by decide +kernel
theorem dX7_heard_73 : decode cX7_heard 73 = .ok (.invokevirtual 164, 3) := by decide +kernel
theorem dX7_heard_76 : decode cX7_heard 76 = .ok (.if_icmp .ge 12, 3) := by decide +kernel
theorem dX7_heard_79 : decode cX7_heard 79 = .ok (.iload 4, 2) := by decide +kernel
theorem dX7_heard_81 : decode cX7_heard 81 = .ok (.iconst 1, 1) := by decide +kernel
theorem dX7_heard_82 : decode cX7_heard 82 = .ok (.iload 6, 2) := by decide +kernel
theorem dX7_heard_84 : decode cX7_heard 84 = .ok (.ishl, 1) := by decide +kernel
theorem dX7_heard_85 : decode cX7_heard 85 = .ok (.ior, 1) := by decide +kernel
theorem dX7_heard_86 : decode cX7_heard 86 = .ok (.istore 4, 2) := by decide +kernel
theorem dX7_heard_88 : decode cX7_heard 88 = .ok (.iinc 7 1, 3) := by decide +kernel
theorem dX7_heard_91 : decode cX7_heard 91 = .ok (.goto (-56), 3) := by decide +kernel
theorem dX7_heard_94 : decode cX7_heard 94 = .ok (.iinc 6 1, 3) := by decide +kernel
theorem dX7_heard_97 : decode cX7_heard 97 = .ok (.goto (-72), 3) := by decide +kernel
theorem dX7_heard_100 : decode cX7_heard 100 = .ok (.iload 4, 2) := by decide +kernel
theorem dX7_heard_102 : decode cX7_heard 102 = .ok (.ireturn, 1) := by decide +kernel
set_option maxRecDepth 20000 in
theorem ggX7_quiet_X7_isSide : GoodIn wsX7_quiet wsX7_isSide := goodIn_r _ [7, 8, 9, 6, 10] (by decide +kernel) (by decide +kernel)
set_option maxRecDepth 20000 in
theorem gX7_quiet_X7_isSide : GoodIn wsX7_quiet (va_wsS RX7 172 yX7_isSide wsX7_isSide) := goodIn_app (goodIn_of _ (by decide +kernel)) ggX7_quiet_X7_isSide
set_option maxRecDepth 20000 in
theorem ggX7_quiet_X7_isHour : GoodIn wsX7_quiet wsX7_isHour := goodIn_r _ [13, 8, 9, 6, 10] (by decide +kernel) (by decide +kernel)
set_option maxRecDepth 20000 in
theorem gX7_quiet_X7_isHour : GoodIn wsX7_quiet (va_wsS RX7 127 yX7_isHour wsX7_isHour) := goodIn_app (goodIn_of _ (by decide +kernel)) ggX7_quiet_X7_isHour
set_option maxRecDepth 20000 in
theorem ggX7_quiet_X7_within : GoodIn wsX7_quiet wsX7_within := goodIn_r _ [10] (by decide +kernel) (by decide +kernel)
set_option maxRecDepth 20000 in
theorem gX7_quiet_X7_within : GoodIn wsX7_quiet (va_wsS RX7 70 yX7_within wsX7_within) := goodIn_app (goodIn_of _ (by decide +kernel)) ggX7_quiet_X7_within
set_option maxRecDepth 20000 in
theorem ggX7_quiet_X7_dayOf : GoodIn wsX7_quiet wsX7_dayOf := goodIn_r _ [17, 18, 19, 2, 20, 21, 22, 23, 24, 25, 26, 27, 28, 29, 30, 31, 32, 33, 34, 35, 36, 37, 38, 39, 40, 41, 42, 43, 44, 45, 46, 47, 48, 49, 50, 108, 109, 110, 111, 112, 113, 114, 115, 116, 117, 118, 119, 120, 121, 122, 123, 124, 125, 126, 127, 128] (by decide +kernel) (by decide +kernel)
set_option maxRecDepth 20000 in
theorem gX7_quiet_X7_dayOf : GoodIn wsX7_quiet (wsV RX7 130 RX7 yX7_dayOf wsX7_dayOf) := goodIn_app (goodIn_of _ (by decide +kernel)) ggX7_quiet_X7_dayOf
set_option maxRecDepth 20000 in
theorem ggX7_quiet_X0_levelAhead : GoodIn wsX7_quiet wsX0_levelAhead := goodIn_r _ [54, 44, 27, 117, 118, 119] (by decide +kernel) (by decide +kernel)
set_option maxRecDepth 20000 in
theorem gX7_quiet_X0_levelAhead : GoodIn wsX7_quiet (wsV RX7 156 RX0 yX0_levelAhead wsX0_levelAhead) := goodIn_app (goodIn_of _ (by decide +kernel)) ggX7_quiet_X0_levelAhead
set_option maxRecDepth 20000 in
theorem ggX7_quiet_X7_hoursOf : GoodIn wsX7_quiet wsX7_hoursOf := goodIn_r _ [58, 2, 14, 15, 16, 6, 17, 18, 19, 20, 21, 22, 23, 24, 25, 26, 27, 28, 29, 30, 31, 32, 33, 34, 35, 36, 37, 38, 39, 40, 41, 42, 43, 44, 45, 46, 47, 48, 49, 50, 59, 60, 61, 62, 63, 64, 65, 66, 67, 108, 109, 110, 111, 112, 113, 114, 115, 116, 117, 118, 119, 120, 121, 122, 123, 124, 125, 126, 127, 128] (by decide +kernel) (by decide +kernel)
set_option maxRecDepth 20000 in
theorem gX7_quiet_X7_hoursOf : GoodIn wsX7_quiet (wsV RX7 140 RX7 yX7_hoursOf wsX7_hoursOf) := goodIn_app (goodIn_of _ (by decide +kernel)) ggX7_quiet_X7_hoursOf
set_option maxRecDepth 20000 in
theorem ggX7_quiet_X2_plan : GoodIn wsX7_quiet wsX2_plan := goodIn_r _ [72, 73, 74, 6, 75, 76, 77, 78, 71, 79, 80, 81, 82, 46, 47, 48, 49, 50, 83, 64, 65, 66, 67, 84, 85, 86, 87, 88, 89, 90, 91, 92, 93, 94, 95, 96, 97, 98, 99, 8, 9, 10, 129, 130, 124, 125, 126, 127, 128] (by decide +kernel) (by decide +kernel)
set_option maxRecDepth 20000 in
theorem gX7_quiet_X2_plan : GoodIn wsX7_quiet (wsV RX7 175 RX2 yX2_plan wsX2_plan) := goodIn_app (goodIn_of _ (by decide +kernel)) ggX7_quiet_X2_plan
set_option maxRecDepth 20000 in
theorem ggX7_quiet_X2_costFrom : GoodIn wsX7_quiet wsX2_costFrom := goodIn_r _ [103, 73, 129, 130] (by decide +kernel) (by decide +kernel)
set_option maxRecDepth 20000 in
theorem gX7_quiet_X2_costFrom : GoodIn wsX7_quiet (wsV RX7 179 RX2 yX2_costFrom wsX2_costFrom) := goodIn_app (goodIn_of _ (by decide +kernel)) ggX7_quiet_X2_costFrom
set_option maxRecDepth 20000 in
theorem ggX7_quiet_X2_dishAfter : GoodIn wsX7_quiet wsX2_dishAfter := goodIn_r _ [107, 81, 82, 46, 47, 48, 49, 50, 129, 130, 124, 125, 126, 127, 128] (by decide +kernel) (by decide +kernel)
set_option maxRecDepth 20000 in
theorem gX7_quiet_X2_dishAfter : GoodIn wsX7_quiet (wsV RX7 184 RX2 yX2_dishAfter wsX2_dishAfter) := goodIn_app (goodIn_of _ (by decide +kernel)) ggX7_quiet_X2_dishAfter
theorem dX7_quiet_0 : decode cX7_quiet 0 = .ok (.iload_n 1, 1) := by decide +kernel
theorem dX7_quiet_1 : decode cX7_quiet 1 = .ok (.invokestatic 172, 3) := by decide +kernel
theorem dX7_quiet_4 : decode cX7_quiet 4 = .ok (.ifCond .eq 22, 3) := by decide +kernel
theorem dX7_quiet_7 : decode cX7_quiet 7 = .ok (.iload_n 2, 1) := by decide +kernel
theorem dX7_quiet_8 : decode cX7_quiet 8 = .ok (.invokestatic 127, 3) := by decide +kernel
theorem dX7_quiet_11 : decode cX7_quiet 11 = .ok (.ifCond .eq 15, 3) := by decide +kernel
theorem dX7_quiet_14 : decode cX7_quiet 14 = .ok (.iload_n 3, 1) := by decide +kernel
theorem dX7_quiet_15 : decode cX7_quiet 15 = .ok (.invokestatic 127, 3) := by decide +kernel
theorem dX7_quiet_18 : decode cX7_quiet 18 = .ok (.ifCond .eq 8, 3) := by decide +kernel
theorem dX7_quiet_21 : decode cX7_quiet 21 = .ok (.iload_n 2, 1) := by decide +kernel
theorem dX7_quiet_22 : decode cX7_quiet 22 = .ok (.iload_n 3, 1) := by decide +kernel
theorem dX7_quiet_23 : decode cX7_quiet 23 = .ok (.if_icmp .le 6, 3) := by decide +kernel
theorem dX7_quiet_26 : decode cX7_quiet 26 = .ok (.bipush (-2), 2) := by decide +kernel
theorem dX7_quiet_28 : decode cX7_quiet 28 = .ok (.ireturn, 1) := by decide +kernel
theorem dX7_quiet_29 : decode cX7_quiet 29 = .ok (.iload 4, 2) := by decide +kernel
theorem dX7_quiet_31 : decode cX7_quiet 31 = .ok (.iconst (-1), 1) := by decide +kernel
theorem dX7_quiet_32 : decode cX7_quiet 32 = .ok (.iload_n 3, 1) := by decide +kernel
theorem dX7_quiet_33 : decode cX7_quiet 33 = .ok (.iload_n 2, 1) := by decide +kernel
theorem dX7_quiet_34 : decode cX7_quiet 34 = .ok (.isub, 1) := by decide +kernel
theorem dX7_quiet_35 : decode cX7_quiet 35 = .ok (.invokestatic 70, 3) := by decide +kernel
theorem dX7_quiet_38 : decode cX7_quiet 38 = .ok (.ifCond .ne 6, 3) := by decide +kernel
theorem dX7_quiet_41 : decode cX7_quiet 41 = .ok (.bipush (-2), 2) := by decide +kernel
theorem dX7_quiet_43 : decode cX7_quiet 43 = .ok (.ireturn, 1) := by decide +kernel
theorem dX7_quiet_44 : decode cX7_quiet 44 = .ok (.aload_n 0, 1) := by decide +kernel
theorem dX7_quiet_45 : decode cX7_quiet 45 = .ok (.iload_n 1, 1) := by decide +kernel
theorem dX7_quiet_46 : decode cX7_quiet 46 = .ok (.invokevirtual 130, 3) := by decide +kernel
theorem dX7_quiet_49 : decode cX7_quiet 49 = .ok (.iload_n 2, 1) := by decide +kernel
theorem dX7_quiet_50 : decode cX7_quiet 50 = .ok (.invokevirtual 156, 3) := by decide +kernel
theorem dX7_quiet_53 : decode cX7_quiet 53 = .ok (.istore 5, 2) := by decide +kernel
theorem dX7_quiet_55 : decode cX7_quiet 55 = .ok (.aload_n 0, 1) := by decide +kernel
theorem dX7_quiet_56 : decode cX7_quiet 56 = .ok (.getfield 49, 3) := by decide +kernel
theorem dX7_quiet_59 : decode cX7_quiet 59 = .ok (.aload_n 0, 1) := by decide +kernel
theorem dX7_quiet_60 : decode cX7_quiet 60 = .ok (.getfield 30, 3) := by decide +kernel
theorem dX7_quiet_63 : decode cX7_quiet 63 = .ok (.aload_n 0, 1) := by decide +kernel
theorem dX7_quiet_64 : decode cX7_quiet 64 = .ok (.iconst 1, 1) := by decide +kernel
theorem dX7_quiet_65 : decode cX7_quiet 65 = .ok (.iload_n 1, 1) := by decide +kernel
theorem dX7_quiet_66 : decode cX7_quiet 66 = .ok (.isub, 1) := by decide +kernel
theorem dX7_quiet_67 : decode cX7_quiet 67 = .ok (.invokevirtual 140, 3) := by decide +kernel
theorem dX7_quiet_70 : decode cX7_quiet 70 = .ok (.iload_n 2, 1) := by decide +kernel
theorem dX7_quiet_71 : decode cX7_quiet 71 = .ok (.iload_n 3, 1) := by decide +kernel
theorem dX7_quiet_72 : decode cX7_quiet 72 = .ok (.invokevirtual 175, 3) := by decide +kernel
theorem dX7_quiet_75 : decode cX7_quiet 75 = .ok (.aload_n 0, 1) := by decide +kernel
theorem dX7_quiet_76 : decode cX7_quiet 76 = .ok (.getfield 49, 3) := by decide +kernel
theorem dX7_quiet_79 : decode cX7_quiet 79 = .ok (.iload_n 2, 1) := by decide +kernel
theorem dX7_quiet_80 : decode cX7_quiet 80 = .ok (.iload 5, 2) := by decide +kernel
theorem dX7_quiet_82 : decode cX7_quiet 82 = .ok (.invokevirtual 179, 3) := by decide +kernel
theorem dX7_quiet_85 : decode cX7_quiet 85 = .ok (.ldc 183, 2) := by decide +kernel
theorem dX7_quiet_87 : decode cX7_quiet 87 = .ok (.if_icmp .lt 5, 3) := by decide +kernel
theorem dX7_quiet_90 : decode cX7_quiet 90 = .ok (.iconst (-1), 1) := by decide +kernel
theorem dX7_quiet_91 : decode cX7_quiet 91 = .ok (.ireturn, 1) := by decide +kernel
theorem dX7_quiet_92 : decode cX7_quiet 92 = .ok (.iload 4, 2) := by decide +kernel
theorem dX7_quiet_94 : decode cX7_quiet 94 = .ok (.iconst (-1), 1) := by decide +kernel
theorem dX7_quiet_95 : decode cX7_quiet 95 = .ok (.if_icmp .ne 14, 3) := by decide +kernel
theorem dX7_quiet_98 : decode cX7_quiet 98 = .ok (.aload_n 0, 1) := by decide +kernel
theorem dX7_quiet_99 : decode cX7_quiet 99 = .ok (.getfield 49, 3) := by decide +kernel
theorem dX7_quiet_102 : decode cX7_quiet 102 = .ok (.iload_n 2, 1) := by decide +kernel
theorem dX7_quiet_103 : decode cX7_quiet 103 = .ok (.iload 5, 2) := by decide +kernel
theorem dX7_quiet_105 : decode cX7_quiet 105 = .ok (.invokevirtual 179, 3) := by decide +kernel
theorem dX7_quiet_108 : decode cX7_quiet 108 = .ok (.ireturn, 1) := by decide +kernel
theorem dX7_quiet_109 : decode cX7_quiet 109 = .ok (.aload_n 0, 1) := by decide +kernel
theorem dX7_quiet_110 : decode cX7_quiet 110 = .ok (.getfield 49, 3) := by decide +kernel
theorem dX7_quiet_113 : decode cX7_quiet 113 = .ok (.aload_n 0, 1) := by decide +kernel
theorem dX7_quiet_114 : decode cX7_quiet 114 = .ok (.getfield 30, 3) := by decide +kernel
theorem dX7_quiet_117 : decode cX7_quiet 117 = .ok (.iload_n 2, 1) := by decide +kernel
theorem dX7_quiet_118 : decode cX7_quiet 118 = .ok (.iload 5, 2) := by decide +kernel
theorem dX7_quiet_120 : decode cX7_quiet 120 = .ok (.iload 4, 2) := by decide +kernel
theorem dX7_quiet_122 : decode cX7_quiet 122 = .ok (.invokevirtual 184, 3) := by decide +kernel
theorem dX7_quiet_125 : decode cX7_quiet 125 = .ok (.ireturn, 1) := by decide +kernel
set_option maxRecDepth 20000 in
theorem ggX7_force_X7_isHour : GoodIn wsX7_force wsX7_isHour := goodIn_r _ [6, 7, 8, 5, 9] (by decide +kernel) (by decide +kernel)
set_option maxRecDepth 20000 in
theorem gX7_force_X7_isHour : GoodIn wsX7_force (va_wsS RX7 127 yX7_isHour wsX7_isHour) := goodIn_app (goodIn_of _ (by decide +kernel)) ggX7_force_X7_isHour
set_option maxRecDepth 20000 in
theorem ggX7_force_X7_within : GoodIn wsX7_force wsX7_within := goodIn_r _ [9] (by decide +kernel) (by decide +kernel)
set_option maxRecDepth 20000 in
theorem gX7_force_X7_within : GoodIn wsX7_force (va_wsS RX7 70 yX7_within wsX7_within) := goodIn_app (goodIn_of _ (by decide +kernel)) ggX7_force_X7_within
set_option maxRecDepth 20000 in
theorem ggX7_force_X7_dayOf : GoodIn wsX7_force wsX7_dayOf := goodIn_r _ [13, 14, 15, 2, 16, 17, 18, 19, 20, 21, 22, 23, 24, 25, 26, 27, 28, 29, 30, 31, 32, 33, 34, 35, 36, 37, 38, 39, 40, 41, 42, 43, 44, 45, 46, 85, 86, 87, 88, 89, 90, 91, 92, 93, 94, 95, 96, 97, 98, 99, 100, 101, 102, 103, 104, 105] (by decide +kernel) (by decide +kernel)
set_option maxRecDepth 20000 in
theorem gX7_force_X7_dayOf : GoodIn wsX7_force (wsV RX7 130 RX7 yX7_dayOf wsX7_dayOf) := goodIn_app (goodIn_of _ (by decide +kernel)) ggX7_force_X7_dayOf
set_option maxRecDepth 20000 in
theorem ggX7_force_X0_levelAhead : GoodIn wsX7_force wsX0_levelAhead := goodIn_r _ [50, 40, 23, 94, 95, 96] (by decide +kernel) (by decide +kernel)
set_option maxRecDepth 20000 in
theorem gX7_force_X0_levelAhead : GoodIn wsX7_force (wsV RX7 156 RX0 yX0_levelAhead wsX0_levelAhead) := goodIn_app (goodIn_of _ (by decide +kernel)) ggX7_force_X0_levelAhead
set_option maxRecDepth 20000 in
theorem ggX7_force_X6_weigh : GoodIn wsX7_force wsX6_weigh := goodIn_r _ [55, 56, 57, 58, 59, 54, 60, 61, 62, 63, 64, 65, 66, 67, 44, 68, 69, 70, 71, 72, 73, 74, 42, 43, 45, 46, 75, 76, 77, 78, 79, 80, 81, 82, 83, 106, 101, 102, 103, 104, 105] (by decide +kernel) (by decide +kernel)
set_option maxRecDepth 20000 in
theorem gX7_force_X6_weigh : GoodIn wsX7_force (wsV RX7 188 RX6 yX6_weigh wsX6_weigh) := goodIn_app (goodIn_of _ (by decide +kernel)) ggX7_force_X6_weigh
set_option maxRecDepth 20000 in
theorem ggX7_force_X6_firstDish : GoodIn wsX7_force wsX6_firstDish := goodIn_r _ [64, 65, 66, 67, 44, 68, 69, 70, 71, 72, 54, 73, 74, 42, 43, 45, 46, 75, 76, 77, 78, 79, 80, 81, 82, 83, 56, 101, 102, 103, 104, 105, 106] (by decide +kernel) (by decide +kernel)
set_option maxRecDepth 20000 in
theorem gX7_force_X6_firstDish : GoodIn wsX7_force (wsV RX7 192 RX6 yX6_firstDish wsX6_firstDish) := goodIn_app (goodIn_of _ (by decide +kernel)) ggX7_force_X6_firstDish
theorem dX7_force_0 : decode cX7_force 0 = .ok (.iload_n 1, 1) := by decide +kernel
theorem dX7_force_1 : decode cX7_force 1 = .ok (.invokestatic 127, 3) := by decide +kernel
theorem dX7_force_4 : decode cX7_force 4 = .ok (.ifCond .eq 30, 3) := by decide +kernel
theorem dX7_force_7 : decode cX7_force 7 = .ok (.iload_n 2, 1) := by decide +kernel
theorem dX7_force_8 : decode cX7_force 8 = .ok (.iconst 1, 1) := by decide +kernel
theorem dX7_force_9 : decode cX7_force 9 = .ok (.bipush 12, 2) := by decide +kernel
theorem dX7_force_11 : decode cX7_force 11 = .ok (.invokestatic 70, 3) := by decide +kernel
theorem dX7_force_14 : decode cX7_force 14 = .ok (.ifCond .eq 20, 3) := by decide +kernel
theorem dX7_force_17 : decode cX7_force 17 = .ok (.iload_n 1, 1) := by decide +kernel
theorem dX7_force_18 : decode cX7_force 18 = .ok (.iload_n 2, 1) := by decide +kernel
theorem dX7_force_19 : decode cX7_force 19 = .ok (.iadd, 1) := by decide +kernel
theorem dX7_force_20 : decode cX7_force 20 = .ok (.bipush 24, 2) := by decide +kernel
theorem dX7_force_22 : decode cX7_force 22 = .ok (.if_icmp .gt 12, 3) := by decide +kernel
theorem dX7_force_25 : decode cX7_force 25 = .ok (.iload_n 3, 1) := by decide +kernel
theorem dX7_force_26 : decode cX7_force 26 = .ok (.iconst 0, 1) := by decide +kernel
theorem dX7_force_27 : decode cX7_force 27 = .ok (.iconst 1, 1) := by decide +kernel
theorem dX7_force_28 : decode cX7_force 28 = .ok (.invokestatic 70, 3) := by decide +kernel
theorem dX7_force_31 : decode cX7_force 31 = .ok (.ifCond .ne 6, 3) := by decide +kernel
theorem dX7_force_34 : decode cX7_force 34 = .ok (.bipush (-2), 2) := by decide +kernel
theorem dX7_force_36 : decode cX7_force 36 = .ok (.ireturn, 1) := by decide +kernel
theorem dX7_force_37 : decode cX7_force 37 = .ok (.aload_n 0, 1) := by decide +kernel
theorem dX7_force_38 : decode cX7_force 38 = .ok (.iconst 0, 1) := by decide +kernel
theorem dX7_force_39 : decode cX7_force 39 = .ok (.invokevirtual 130, 3) := by decide +kernel
theorem dX7_force_42 : decode cX7_force 42 = .ok (.iload_n 1, 1) := by decide +kernel
theorem dX7_force_43 : decode cX7_force 43 = .ok (.invokevirtual 156, 3) := by decide +kernel
theorem dX7_force_46 : decode cX7_force 46 = .ok (.istore 4, 2) := by decide +kernel
theorem dX7_force_48 : decode cX7_force 48 = .ok (.aload_n 0, 1) := by decide +kernel
theorem dX7_force_49 : decode cX7_force 49 = .ok (.iconst 1, 1) := by decide +kernel
theorem dX7_force_50 : decode cX7_force 50 = .ok (.invokevirtual 130, 3) := by decide +kernel
theorem dX7_force_53 : decode cX7_force 53 = .ok (.iload_n 1, 1) := by decide +kernel
theorem dX7_force_54 : decode cX7_force 54 = .ok (.invokevirtual 156, 3) := by decide +kernel
theorem dX7_force_57 : decode cX7_force 57 = .ok (.istore 5, 2) := by decide +kernel
theorem dX7_force_59 : decode cX7_force 59 = .ok (.aload_n 0, 1) := by decide +kernel
theorem dX7_force_60 : decode cX7_force 60 = .ok (.getfield 56, 3) := by decide +kernel
theorem dX7_force_63 : decode cX7_force 63 = .ok (.aload_n 0, 1) := by decide +kernel
theorem dX7_force_64 : decode cX7_force 64 = .ok (.getfield 30, 3) := by decide +kernel
theorem dX7_force_67 : decode cX7_force 67 = .ok (.iload_n 2, 1) := by decide +kernel
theorem dX7_force_68 : decode cX7_force 68 = .ok (.iconst 1, 1) := by decide +kernel
theorem dX7_force_69 : decode cX7_force 69 = .ok (.isub, 1) := by decide +kernel
theorem dX7_force_70 : decode cX7_force 70 = .ok (.invokevirtual 188, 3) := by decide +kernel
theorem dX7_force_73 : decode cX7_force 73 = .ok (.aload_n 0, 1) := by decide +kernel
theorem dX7_force_74 : decode cX7_force 74 = .ok (.getfield 56, 3) := by decide +kernel
theorem dX7_force_77 : decode cX7_force 77 = .ok (.aload_n 0, 1) := by decide +kernel
theorem dX7_force_78 : decode cX7_force 78 = .ok (.getfield 30, 3) := by decide +kernel
theorem dX7_force_81 : decode cX7_force 81 = .ok (.iload 4, 2) := by decide +kernel
theorem dX7_force_83 : decode cX7_force 83 = .ok (.iload 5, 2) := by decide +kernel
theorem dX7_force_85 : decode cX7_force 85 = .ok (.iload_n 2, 1) := by decide +kernel
theorem dX7_force_86 : decode cX7_force 86 = .ok (.invokevirtual 192, 3) := by decide +kernel
theorem dX7_force_89 : decode cX7_force 89 = .ok (.istore 6, 2) := by decide +kernel
theorem dX7_force_91 : decode cX7_force 91 = .ok (.iload_n 3, 1) := by decide +kernel
theorem dX7_force_92 : decode cX7_force 92 = .ok (.iconst 1, 1) := by decide +kernel
theorem dX7_force_93 : decode cX7_force 93 = .ok (.if_icmp .ne 6, 3) := by decide +kernel
theorem dX7_force_96 : decode cX7_force 96 = .ok (.iload 6, 2) := by decide +kernel
theorem dX7_force_98 : decode cX7_force 98 = .ok (.ireturn, 1) := by decide +kernel
theorem dX7_force_99 : decode cX7_force 99 = .ok (.iload 6, 2) := by decide +kernel
theorem dX7_force_101 : decode cX7_force 101 = .ok (.iconst (-1), 1) := by decide +kernel
theorem dX7_force_102 : decode cX7_force 102 = .ok (.if_icmp .ne 7, 3) := by decide +kernel
theorem dX7_force_105 : decode cX7_force 105 = .ok (.iconst 0, 1) := by decide +kernel
theorem dX7_force_106 : decode cX7_force 106 = .ok (.goto 4, 3) := by decide +kernel
theorem dX7_force_109 : decode cX7_force 109 = .ok (.iconst 1, 1) := by decide +kernel
theorem dX7_force_110 : decode cX7_force 110 = .ok (.ireturn, 1) := by decide +kernel
set_option maxRecDepth 20000 in
theorem ggX7_seen_X7_isGeneral : GoodIn wsX7_seen wsX7_isGeneral := goodIn_r _ [5, 6, 7, 4, 8] (by decide +kernel) (by decide +kernel)
set_option maxRecDepth 20000 in
theorem gX7_seen_X7_isGeneral : GoodIn wsX7_seen (va_wsS RX7 66 yX7_isGeneral wsX7_isGeneral) := goodIn_app (goodIn_of _ (by decide +kernel)) ggX7_seen_X7_isGeneral
set_option maxRecDepth 20000 in
theorem ggX7_seen_X7_isHour : GoodIn wsX7_seen wsX7_isHour := goodIn_r _ [11, 6, 7, 4, 8] (by decide +kernel) (by decide +kernel)
set_option maxRecDepth 20000 in
theorem gX7_seen_X7_isHour : GoodIn wsX7_seen (va_wsS RX7 127 yX7_isHour wsX7_isHour) := goodIn_app (goodIn_of _ (by decide +kernel)) ggX7_seen_X7_isHour
set_option maxRecDepth 20000 in
theorem ggX7_seen_X7_within : GoodIn wsX7_seen wsX7_within := goodIn_r _ [8] (by decide +kernel) (by decide +kernel)
set_option maxRecDepth 20000 in
theorem gX7_seen_X7_within : GoodIn wsX7_seen (va_wsS RX7 70 yX7_within wsX7_within) := goodIn_app (goodIn_of _ (by decide +kernel)) ggX7_seen_X7_within
set_option maxRecDepth 20000 in
theorem ggX7_seen_X5_add : GoodIn wsX7_seen wsX5_add := goodIn_r _ [16, 17, 18, 19, 20, 30, 31, 32, 33] (by decide +kernel) (by decide +kernel)
set_option maxRecDepth 20000 in
theorem gX7_seen_X5_add : GoodIn wsX7_seen (wsV RX7 195 RX5 yX5_add wsX5_add) := goodIn_app (goodIn_of _ (by decide +kernel)) ggX7_seen_X5_add
theorem dX7_seen_0 : decode cX7_seen 0 = .ok (.iload_n 1, 1) := by decide +kernel
theorem dX7_seen_1 : decode cX7_seen 1 = .ok (.invokestatic 66, 3) := by decide +kernel
theorem dX7_seen_4 : decode cX7_seen 4 = .ok (.ifCond .eq 19, 3) := by decide +kernel
theorem dX7_seen_7 : decode cX7_seen 7 = .ok (.iload_n 2, 1) := by decide +kernel
theorem dX7_seen_8 : decode cX7_seen 8 = .ok (.invokestatic 127, 3) := by decide +kernel
theorem dX7_seen_11 : decode cX7_seen 11 = .ok (.ifCond .eq 12, 3) := by decide +kernel
