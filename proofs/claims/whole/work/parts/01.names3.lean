theorem dX8_dishBy_7 : decode cX8_dishBy 7 = .ok (.goto 65, 3) := by decide +kernel
theorem dX8_dishBy_10 : decode cX8_dishBy 10 = .ok (.iload_n 0, 1) := by decide +kernel
theorem dX8_dishBy_11 : decode cX8_dishBy 11 = .ok (.bipush 98, 2) := by decide +kernel
theorem dX8_dishBy_13 : decode cX8_dishBy 13 = .ok (.if_icmp .ne 7, 3) := by decide +kernel
theorem dX8_dishBy_16 : decode cX8_dishBy 16 = .ok (.iconst 1, 1) := by decide +kernel
theorem dX8_dishBy_17 : decode cX8_dishBy 17 = .ok (.goto 55, 3) := by decide +kernel
theorem dX8_dishBy_20 : decode cX8_dishBy 20 = .ok (.iload_n 0, 1) := by decide +kernel
theorem dX8_dishBy_21 : decode cX8_dishBy 21 = .ok (.bipush 99, 2) := by decide +kernel
theorem dX8_dishBy_23 : decode cX8_dishBy 23 = .ok (.if_icmp .ne 7, 3) := by decide +kernel
theorem dX8_dishBy_26 : decode cX8_dishBy 26 = .ok (.iconst 2, 1) := by decide +kernel
theorem dX8_dishBy_27 : decode cX8_dishBy 27 = .ok (.goto 45, 3) := by decide +kernel
theorem dX8_dishBy_30 : decode cX8_dishBy 30 = .ok (.iload_n 0, 1) := by decide +kernel
theorem dX8_dishBy_31 : decode cX8_dishBy 31 = .ok (.bipush 118, 2) := by decide +kernel
theorem dX8_dishBy_33 : decode cX8_dishBy 33 = .ok (.if_icmp .ne 7, 3) := by decide +kernel
theorem dX8_dishBy_36 : decode cX8_dishBy 36 = .ok (.iconst 3, 1) := by decide +kernel
theorem dX8_dishBy_37 : decode cX8_dishBy 37 = .ok (.goto 35, 3) := by decide +kernel
theorem dX8_dishBy_40 : decode cX8_dishBy 40 = .ok (.iload_n 0, 1) := by decide +kernel
theorem dX8_dishBy_41 : decode cX8_dishBy 41 = .ok (.bipush 102, 2) := by decide +kernel
theorem dX8_dishBy_43 : decode cX8_dishBy 43 = .ok (.if_icmp .ne 7, 3) := by decide +kernel
theorem dX8_dishBy_46 : decode cX8_dishBy 46 = .ok (.iconst 4, 1) := by decide +kernel
theorem dX8_dishBy_47 : decode cX8_dishBy 47 = .ok (.goto 25, 3) := by decide +kernel
theorem dX8_dishBy_50 : decode cX8_dishBy 50 = .ok (.iload_n 0, 1) := by decide +kernel
theorem dX8_dishBy_51 : decode cX8_dishBy 51 = .ok (.bipush 115, 2) := by decide +kernel
theorem dX8_dishBy_53 : decode cX8_dishBy 53 = .ok (.if_icmp .ne 7, 3) := by decide +kernel
theorem dX8_dishBy_56 : decode cX8_dishBy 56 = .ok (.iconst 5, 1) := by decide +kernel
theorem dX8_dishBy_57 : decode cX8_dishBy 57 = .ok (.goto 15, 3) := by decide +kernel
theorem dX8_dishBy_60 : decode cX8_dishBy 60 = .ok (.iload_n 0, 1) := by decide +kernel
theorem dX8_dishBy_61 : decode cX8_dishBy 61 = .ok (.bipush 104, 2) := by decide +kernel
theorem dX8_dishBy_63 : decode cX8_dishBy 63 = .ok (.if_icmp .ne 8, 3) := by decide +kernel
theorem dX8_dishBy_66 : decode cX8_dishBy 66 = .ok (.bipush 6, 2) := by decide +kernel
theorem dX8_dishBy_68 : decode cX8_dishBy 68 = .ok (.goto 4, 3) := by decide +kernel
theorem dX8_dishBy_71 : decode cX8_dishBy 71 = .ok (.iconst (-1), 1) := by decide +kernel
theorem dX8_dishBy_72 : decode cX8_dishBy 72 = .ok (.ireturn, 1) := by decide +kernel
theorem dX8_byteOf_0 : decode cX8_byteOf 0 = .ok (.iload_n 0, 1) := by decide +kernel
theorem dX8_byteOf_1 : decode cX8_byteOf 1 = .ok (.ifCond .ne 8, 3) := by decide +kernel
theorem dX8_byteOf_4 : decode cX8_byteOf 4 = .ok (.bipush 110, 2) := by decide +kernel
theorem dX8_byteOf_6 : decode cX8_byteOf 6 = .ok (.goto 55, 3) := by decide +kernel
theorem dX8_byteOf_9 : decode cX8_byteOf 9 = .ok (.iload_n 0, 1) := by decide +kernel
theorem dX8_byteOf_10 : decode cX8_byteOf 10 = .ok (.iconst 1, 1) := by decide +kernel
theorem dX8_byteOf_11 : decode cX8_byteOf 11 = .ok (.if_icmp .ne 8, 3) := by decide +kernel
theorem dX8_byteOf_14 : decode cX8_byteOf 14 = .ok (.bipush 98, 2) := by decide +kernel
theorem dX8_byteOf_16 : decode cX8_byteOf 16 = .ok (.goto 45, 3) := by decide +kernel
theorem dX8_byteOf_19 : decode cX8_byteOf 19 = .ok (.iload_n 0, 1) := by decide +kernel
theorem dX8_byteOf_20 : decode cX8_byteOf 20 = .ok (.iconst 2, 1) := by decide +kernel
theorem dX8_byteOf_21 : decode cX8_byteOf 21 = .ok (.if_icmp .ne 8, 3) := by decide +kernel
theorem dX8_byteOf_24 : decode cX8_byteOf 24 = .ok (.bipush 99, 2) := by decide +kernel
theorem dX8_byteOf_26 : decode cX8_byteOf 26 = .ok (.goto 35, 3) := by decide +kernel
theorem dX8_byteOf_29 : decode cX8_byteOf 29 = .ok (.iload_n 0, 1) := by decide +kernel
theorem dX8_byteOf_30 : decode cX8_byteOf 30 = .ok (.iconst 3, 1) := by decide +kernel
theorem dX8_byteOf_31 : decode cX8_byteOf 31 = .ok (.if_icmp .ne 8, 3) := by decide +kernel
theorem dX8_byteOf_34 : decode cX8_byteOf 34 = .ok (.bipush 118, 2) := by decide +kernel
theorem dX8_byteOf_36 : decode cX8_byteOf 36 = .ok (.goto 25, 3) := by decide +kernel
theorem dX8_byteOf_39 : decode cX8_byteOf 39 = .ok (.iload_n 0, 1) := by decide +kernel
theorem dX8_byteOf_40 : decode cX8_byteOf 40 = .ok (.iconst 4, 1) := by decide +kernel
theorem dX8_byteOf_41 : decode cX8_byteOf 41 = .ok (.if_icmp .ne 8, 3) := by decide +kernel
theorem dX8_byteOf_44 : decode cX8_byteOf 44 = .ok (.bipush 102, 2) := by decide +kernel
theorem dX8_byteOf_46 : decode cX8_byteOf 46 = .ok (.goto 15, 3) := by decide +kernel
theorem dX8_byteOf_49 : decode cX8_byteOf 49 = .ok (.iload_n 0, 1) := by decide +kernel
theorem dX8_byteOf_50 : decode cX8_byteOf 50 = .ok (.iconst 5, 1) := by decide +kernel
theorem dX8_byteOf_51 : decode cX8_byteOf 51 = .ok (.if_icmp .ne 8, 3) := by decide +kernel
theorem dX8_byteOf_54 : decode cX8_byteOf 54 = .ok (.bipush 115, 2) := by decide +kernel
theorem dX8_byteOf_56 : decode cX8_byteOf 56 = .ok (.goto 5, 3) := by decide +kernel
theorem dX8_byteOf_59 : decode cX8_byteOf 59 = .ok (.bipush 104, 2) := by decide +kernel
theorem dX8_byteOf_61 : decode cX8_byteOf 61 = .ok (.ireturn, 1) := by decide +kernel
set_option maxRecDepth 20000 in
theorem ggX8_type_X8_isGeneral : GoodIn wsX8_type wsX8_isGeneral := goodIn_r _ [6, 7, 8, 5, 9] (by decide +kernel) (by decide +kernel)
set_option maxRecDepth 20000 in
theorem gX8_type_X8_isGeneral : GoodIn wsX8_type (va_wsS RX8 75 yX8_isGeneral wsX8_isGeneral) := goodIn_app (goodIn_of _ (by decide +kernel)) ggX8_type_X8_isGeneral
set_option maxRecDepth 20000 in
theorem ggX8_type_X8_in : GoodIn wsX8_type wsX8_in := goodIn_r _ [9] (by decide +kernel) (by decide +kernel)
set_option maxRecDepth 20000 in
theorem gX8_type_X8_in : GoodIn wsX8_type (va_wsS RX8 71 yX8_in wsX8_in) := goodIn_app (goodIn_of _ (by decide +kernel)) ggX8_type_X8_in
theorem dX8_type_0 : decode cX8_type 0 = .ok (.iload_n 1, 1) := by decide +kernel
theorem dX8_type_1 : decode cX8_type 1 = .ok (.invokestatic 75, 3) := by decide +kernel
theorem dX8_type_4 : decode cX8_type 4 = .ok (.ifCond .eq 14, 3) := by decide +kernel
theorem dX8_type_7 : decode cX8_type 7 = .ok (.iload_n 2, 1) := by decide +kernel
theorem dX8_type_8 : decode cX8_type 8 = .ok (.iconst 0, 1) := by decide +kernel
theorem dX8_type_9 : decode cX8_type 9 = .ok (.sipush 255, 3) := by decide +kernel
theorem dX8_type_12 : decode cX8_type 12 = .ok (.invokestatic 71, 3) := by decide +kernel
theorem dX8_type_15 : decode cX8_type 15 = .ok (.ifCond .ne 6, 3) := by decide +kernel
theorem dX8_type_18 : decode cX8_type 18 = .ok (.bipush (-2), 2) := by decide +kernel
theorem dX8_type_20 : decode cX8_type 20 = .ok (.ireturn, 1) := by decide +kernel
theorem dX8_type_21 : decode cX8_type 21 = .ok (.aload_n 0, 1) := by decide +kernel
theorem dX8_type_22 : decode cX8_type 22 = .ok (.getfield 7, 3) := by decide +kernel
theorem dX8_type_25 : decode cX8_type 25 = .ok (.iload_n 1, 1) := by decide +kernel
theorem dX8_type_26 : decode cX8_type 26 = .ok (.iaload, 1) := by decide +kernel
theorem dX8_type_27 : decode cX8_type 27 = .ok (.bipush 24, 2) := by decide +kernel
theorem dX8_type_29 : decode cX8_type 29 = .ok (.if_icmp .ne 6, 3) := by decide +kernel
theorem dX8_type_32 : decode cX8_type 32 = .ok (.bipush (-4), 2) := by decide +kernel
theorem dX8_type_34 : decode cX8_type 34 = .ok (.ireturn, 1) := by decide +kernel
theorem dX8_type_35 : decode cX8_type 35 = .ok (.aload_n 0, 1) := by decide +kernel
theorem dX8_type_36 : decode cX8_type 36 = .ok (.getfield 13, 3) := by decide +kernel
theorem dX8_type_39 : decode cX8_type 39 = .ok (.bipush 24, 2) := by decide +kernel
theorem dX8_type_41 : decode cX8_type 41 = .ok (.iload_n 1, 1) := by decide +kernel
theorem dX8_type_42 : decode cX8_type 42 = .ok (.imul, 1) := by decide +kernel
theorem dX8_type_43 : decode cX8_type 43 = .ok (.aload_n 0, 1) := by decide +kernel
theorem dX8_type_44 : decode cX8_type 44 = .ok (.getfield 7, 3) := by decide +kernel
theorem dX8_type_47 : decode cX8_type 47 = .ok (.iload_n 1, 1) := by decide +kernel
theorem dX8_type_48 : decode cX8_type 48 = .ok (.iaload, 1) := by decide +kernel
theorem dX8_type_49 : decode cX8_type 49 = .ok (.iadd, 1) := by decide +kernel
theorem dX8_type_50 : decode cX8_type 50 = .ok (.iload_n 2, 1) := by decide +kernel
theorem dX8_type_51 : decode cX8_type 51 = .ok (.iastore, 1) := by decide +kernel
theorem dX8_type_52 : decode cX8_type 52 = .ok (.aload_n 0, 1) := by decide +kernel
theorem dX8_type_53 : decode cX8_type 53 = .ok (.getfield 7, 3) := by decide +kernel
theorem dX8_type_56 : decode cX8_type 56 = .ok (.iload_n 1, 1) := by decide +kernel
theorem dX8_type_57 : decode cX8_type 57 = .ok (.dup2, 1) := by decide +kernel
theorem dX8_type_58 : decode cX8_type 58 = .ok (.iaload, 1) := by decide +kernel
theorem dX8_type_59 : decode cX8_type 59 = .ok (.iconst 1, 1) := by decide +kernel
theorem dX8_type_60 : decode cX8_type 60 = .ok (.iadd, 1) := by decide +kernel
theorem dX8_type_61 : decode cX8_type 61 = .ok (.iastore, 1) := by decide +kernel
theorem dX8_type_62 : decode cX8_type 62 = .ok (.aload_n 0, 1) := by decide +kernel
theorem dX8_type_63 : decode cX8_type 63 = .ok (.getfield 7, 3) := by decide +kernel
theorem dX8_type_66 : decode cX8_type 66 = .ok (.iload_n 1, 1) := by decide +kernel
theorem dX8_type_67 : decode cX8_type 67 = .ok (.iaload, 1) := by decide +kernel
theorem dX8_type_68 : decode cX8_type 68 = .ok (.ireturn, 1) := by decide +kernel
set_option maxRecDepth 20000 in
theorem ggX8_wipe_X8_isGeneral : GoodIn wsX8_wipe wsX8_isGeneral := goodIn_r _ [5, 6, 7, 4, 8] (by decide +kernel) (by decide +kernel)
set_option maxRecDepth 20000 in
theorem gX8_wipe_X8_isGeneral : GoodIn wsX8_wipe (va_wsS RX8 75 yX8_isGeneral wsX8_isGeneral) := goodIn_app (goodIn_of _ (by decide +kernel)) ggX8_wipe_X8_isGeneral
theorem dX8_wipe_0 : decode cX8_wipe 0 = .ok (.iload_n 1, 1) := by decide +kernel
theorem dX8_wipe_1 : decode cX8_wipe 1 = .ok (.invokestatic 75, 3) := by decide +kernel
theorem dX8_wipe_4 : decode cX8_wipe 4 = .ok (.ifCond .ne 6, 3) := by decide +kernel
theorem dX8_wipe_7 : decode cX8_wipe 7 = .ok (.bipush (-2), 2) := by decide +kernel
theorem dX8_wipe_9 : decode cX8_wipe 9 = .ok (.ireturn, 1) := by decide +kernel
theorem dX8_wipe_10 : decode cX8_wipe 10 = .ok (.aload_n 0, 1) := by decide +kernel
theorem dX8_wipe_11 : decode cX8_wipe 11 = .ok (.getfield 7, 3) := by decide +kernel
theorem dX8_wipe_14 : decode cX8_wipe 14 = .ok (.iload_n 1, 1) := by decide +kernel
theorem dX8_wipe_15 : decode cX8_wipe 15 = .ok (.iaload, 1) := by decide +kernel
theorem dX8_wipe_16 : decode cX8_wipe 16 = .ok (.istore_n 2, 1) := by decide +kernel
theorem dX8_wipe_17 : decode cX8_wipe 17 = .ok (.aload_n 0, 1) := by decide +kernel
theorem dX8_wipe_18 : decode cX8_wipe 18 = .ok (.getfield 7, 3) := by decide +kernel
theorem dX8_wipe_21 : decode cX8_wipe 21 = .ok (.iload_n 1, 1) := by decide +kernel
theorem dX8_wipe_22 : decode cX8_wipe 22 = .ok (.iconst 0, 1) := by decide +kernel
theorem dX8_wipe_23 : decode cX8_wipe 23 = .ok (.iastore, 1) := by decide +kernel
theorem dX8_wipe_24 : decode cX8_wipe 24 = .ok (.iload_n 2, 1) := by decide +kernel
theorem dX8_wipe_25 : decode cX8_wipe 25 = .ok (.ireturn, 1) := by decide +kernel
set_option maxRecDepth 20000 in
theorem ggX8_faultOf_X8_dishBy : GoodIn wsX8_faultOf wsX8_dishBy := goodIn_r _ [6] (by decide +kernel) (by decide +kernel)
set_option maxRecDepth 20000 in
theorem gX8_faultOf_X8_dishBy : GoodIn wsX8_faultOf (va_wsS RX8 79 yX8_dishBy wsX8_dishBy) := goodIn_app (goodIn_of _ (by decide +kernel)) ggX8_faultOf_X8_dishBy
theorem dX8_faultOf_0 : decode cX8_faultOf 0 = .ok (.iconst 0, 1) := by decide +kernel
theorem dX8_faultOf_1 : decode cX8_faultOf 1 = .ok (.istore_n 2, 1) := by decide +kernel
theorem dX8_faultOf_2 : decode cX8_faultOf 2 = .ok (.iload_n 2, 1) := by decide +kernel
theorem dX8_faultOf_3 : decode cX8_faultOf 3 = .ok (.aload_n 0, 1) := by decide +kernel
theorem dX8_faultOf_4 : decode cX8_faultOf 4 = .ok (.getfield 7, 3) := by decide +kernel
theorem dX8_faultOf_7 : decode cX8_faultOf 7 = .ok (.iload_n 1, 1) := by decide +kernel
theorem dX8_faultOf_8 : decode cX8_faultOf 8 = .ok (.iaload, 1) := by decide +kernel
theorem dX8_faultOf_9 : decode cX8_faultOf 9 = .ok (.if_icmp .ge 29, 3) := by decide +kernel
theorem dX8_faultOf_12 : decode cX8_faultOf 12 = .ok (.aload_n 0, 1) := by decide +kernel
theorem dX8_faultOf_13 : decode cX8_faultOf 13 = .ok (.getfield 13, 3) := by decide +kernel
theorem dX8_faultOf_16 : decode cX8_faultOf 16 = .ok (.bipush 24, 2) := by decide +kernel
theorem dX8_faultOf_18 : decode cX8_faultOf 18 = .ok (.iload_n 1, 1) := by decide +kernel
theorem dX8_faultOf_19 : decode cX8_faultOf 19 = .ok (.imul, 1) := by decide +kernel
theorem dX8_faultOf_20 : decode cX8_faultOf 20 = .ok (.iload_n 2, 1) := by decide +kernel
theorem dX8_faultOf_21 : decode cX8_faultOf 21 = .ok (.iadd, 1) := by decide +kernel
theorem dX8_faultOf_22 : decode cX8_faultOf 22 = .ok (.iaload, 1) := by decide +kernel
theorem dX8_faultOf_23 : decode cX8_faultOf 23 = .ok (.invokestatic 79, 3) := by decide +kernel
theorem dX8_faultOf_26 : decode cX8_faultOf 26 = .ok (.iconst (-1), 1) := by decide +kernel
theorem dX8_faultOf_27 : decode cX8_faultOf 27 = .ok (.if_icmp .ne 5, 3) := by decide +kernel
theorem dX8_faultOf_30 : decode cX8_faultOf 30 = .ok (.iload_n 2, 1) := by decide +kernel
theorem dX8_faultOf_31 : decode cX8_faultOf 31 = .ok (.ireturn, 1) := by decide +kernel
theorem dX8_faultOf_32 : decode cX8_faultOf 32 = .ok (.iinc 2 1, 3) := by decide +kernel
theorem dX8_faultOf_35 : decode cX8_faultOf 35 = .ok (.goto (-33), 3) := by decide +kernel
theorem dX8_faultOf_38 : decode cX8_faultOf 38 = .ok (.iconst (-1), 1) := by decide +kernel
theorem dX8_faultOf_39 : decode cX8_faultOf 39 = .ok (.ireturn, 1) := by decide +kernel
set_option maxRecDepth 20000 in
theorem ggX8_fault_X8_isGeneral : GoodIn wsX8_fault wsX8_isGeneral := goodIn_r _ [4, 5, 6, 3, 7] (by decide +kernel) (by decide +kernel)
set_option maxRecDepth 20000 in
theorem gX8_fault_X8_isGeneral : GoodIn wsX8_fault (va_wsS RX8 75 yX8_isGeneral wsX8_isGeneral) := goodIn_app (goodIn_of _ (by decide +kernel)) ggX8_fault_X8_isGeneral
set_option maxRecDepth 20000 in
theorem ggX8_fault_X8_faultOf : GoodIn wsX8_fault wsX8_faultOf := goodIn_r _ [11, 12, 13, 14, 15, 3, 16, 17, 18, 19, 20, 21, 22, 23, 24, 25, 26, 27, 28, 29, 30, 31, 32, 33, 34, 35, 36, 37, 38, 39] (by decide +kernel) (by decide +kernel)
set_option maxRecDepth 20000 in
theorem gX8_fault_X8_faultOf : GoodIn wsX8_fault (wsV RX8 83 RX8 yX8_faultOf wsX8_faultOf) := goodIn_app (goodIn_of _ (by decide +kernel)) ggX8_fault_X8_faultOf
theorem dX8_fault_0 : decode cX8_fault 0 = .ok (.iload_n 1, 1) := by decide +kernel
theorem dX8_fault_1 : decode cX8_fault 1 = .ok (.invokestatic 75, 3) := by decide +kernel
theorem dX8_fault_4 : decode cX8_fault 4 = .ok (.ifCond .eq 11, 3) := by decide +kernel
theorem dX8_fault_7 : decode cX8_fault 7 = .ok (.aload_n 0, 1) := by decide +kernel
theorem dX8_fault_8 : decode cX8_fault 8 = .ok (.iload_n 1, 1) := by decide +kernel
theorem dX8_fault_9 : decode cX8_fault 9 = .ok (.invokevirtual 83, 3) := by decide +kernel
theorem dX8_fault_12 : decode cX8_fault 12 = .ok (.goto 5, 3) := by decide +kernel
theorem dX8_fault_15 : decode cX8_fault 15 = .ok (.bipush (-2), 2) := by decide +kernel
theorem dX8_fault_17 : decode cX8_fault 17 = .ok (.ireturn, 1) := by decide +kernel
set_option maxRecDepth 20000 in
theorem ggX8_undo_X8_isGeneral : GoodIn wsX8_undo wsX8_isGeneral := goodIn_r _ [5, 6, 7, 4, 8] (by decide +kernel) (by decide +kernel)
set_option maxRecDepth 20000 in
theorem gX8_undo_X8_isGeneral : GoodIn wsX8_undo (va_wsS RX8 75 yX8_isGeneral wsX8_isGeneral) := goodIn_app (goodIn_of _ (by decide +kernel)) ggX8_undo_X8_isGeneral
theorem dX8_undo_0 : decode cX8_undo 0 = .ok (.iload_n 1, 1) := by decide +kernel
theorem dX8_undo_1 : decode cX8_undo 1 = .ok (.invokestatic 75, 3) := by decide +kernel
theorem dX8_undo_4 : decode cX8_undo 4 = .ok (.ifCond .ne 6, 3) := by decide +kernel
theorem dX8_undo_7 : decode cX8_undo 7 = .ok (.bipush (-2), 2) := by decide +kernel
theorem dX8_undo_9 : decode cX8_undo 9 = .ok (.ireturn, 1) := by decide +kernel
theorem dX8_undo_10 : decode cX8_undo 10 = .ok (.aload_n 0, 1) := by decide +kernel
theorem dX8_undo_11 : decode cX8_undo 11 = .ok (.getfield 7, 3) := by decide +kernel
theorem dX8_undo_14 : decode cX8_undo 14 = .ok (.iload_n 1, 1) := by decide +kernel
theorem dX8_undo_15 : decode cX8_undo 15 = .ok (.iaload, 1) := by decide +kernel
theorem dX8_undo_16 : decode cX8_undo 16 = .ok (.ifCond .ne 6, 3) := by decide +kernel
theorem dX8_undo_19 : decode cX8_undo 19 = .ok (.bipush (-3), 2) := by decide +kernel
theorem dX8_undo_21 : decode cX8_undo 21 = .ok (.ireturn, 1) := by decide +kernel
theorem dX8_undo_22 : decode cX8_undo 22 = .ok (.aload_n 0, 1) := by decide +kernel
theorem dX8_undo_23 : decode cX8_undo 23 = .ok (.getfield 7, 3) := by decide +kernel
theorem dX8_undo_26 : decode cX8_undo 26 = .ok (.iload_n 1, 1) := by decide +kernel
theorem dX8_undo_27 : decode cX8_undo 27 = .ok (.dup2, 1) := by decide +kernel
theorem dX8_undo_28 : decode cX8_undo 28 = .ok (.iaload, 1) := by decide +kernel
theorem dX8_undo_29 : decode cX8_undo 29 = .ok (.iconst 1, 1) := by decide +kernel
theorem dX8_undo_30 : decode cX8_undo 30 = .ok (.isub, 1) := by decide +kernel
theorem dX8_undo_31 : decode cX8_undo 31 = .ok (.iastore, 1) := by decide +kernel
theorem dX8_undo_32 : decode cX8_undo 32 = .ok (.aload_n 0, 1) := by decide +kernel
theorem dX8_undo_33 : decode cX8_undo 33 = .ok (.getfield 7, 3) := by decide +kernel
theorem dX8_undo_36 : decode cX8_undo 36 = .ok (.iload_n 1, 1) := by decide +kernel
theorem dX8_undo_37 : decode cX8_undo 37 = .ok (.iaload, 1) := by decide +kernel
theorem dX8_undo_38 : decode cX8_undo 38 = .ok (.ireturn, 1) := by decide +kernel
set_option maxRecDepth 20000 in
theorem ggX8_calm_X8_isGeneral : GoodIn wsX8_calm wsX8_isGeneral := goodIn_r _ [5, 6, 7, 4, 8] (by decide +kernel) (by decide +kernel)
set_option maxRecDepth 20000 in
theorem gX8_calm_X8_isGeneral : GoodIn wsX8_calm (va_wsS RX8 75 yX8_isGeneral wsX8_isGeneral) := goodIn_app (goodIn_of _ (by decide +kernel)) ggX8_calm_X8_isGeneral
set_option maxRecDepth 20000 in
theorem ggX8_calm_X8_in : GoodIn wsX8_calm wsX8_in := goodIn_r _ [8] (by decide +kernel) (by decide +kernel)
set_option maxRecDepth 20000 in
theorem gX8_calm_X8_in : GoodIn wsX8_calm (va_wsS RX8 71 yX8_in wsX8_in) := goodIn_app (goodIn_of _ (by decide +kernel)) ggX8_calm_X8_in
theorem dX8_calm_0 : decode cX8_calm 0 = .ok (.iload_n 1, 1) := by decide +kernel
theorem dX8_calm_1 : decode cX8_calm 1 = .ok (.invokestatic 75, 3) := by decide +kernel
theorem dX8_calm_4 : decode cX8_calm 4 = .ok (.ifCond .eq 13, 3) := by decide +kernel
theorem dX8_calm_7 : decode cX8_calm 7 = .ok (.iload_n 2, 1) := by decide +kernel
theorem dX8_calm_8 : decode cX8_calm 8 = .ok (.iconst 0, 1) := by decide +kernel
theorem dX8_calm_9 : decode cX8_calm 9 = .ok (.bipush 9, 2) := by decide +kernel
theorem dX8_calm_11 : decode cX8_calm 11 = .ok (.invokestatic 71, 3) := by decide +kernel
theorem dX8_calm_14 : decode cX8_calm 14 = .ok (.ifCond .ne 6, 3) := by decide +kernel
theorem dX8_calm_17 : decode cX8_calm 17 = .ok (.bipush (-2), 2) := by decide +kernel
theorem dX8_calm_19 : decode cX8_calm 19 = .ok (.ireturn, 1) := by decide +kernel
theorem dX8_calm_20 : decode cX8_calm 20 = .ok (.aload_n 0, 1) := by decide +kernel
theorem dX8_calm_21 : decode cX8_calm 21 = .ok (.getfield 16, 3) := by decide +kernel
theorem dX8_calm_24 : decode cX8_calm 24 = .ok (.iload_n 1, 1) := by decide +kernel
theorem dX8_calm_25 : decode cX8_calm 25 = .ok (.iaload, 1) := by decide +kernel
theorem dX8_calm_26 : decode cX8_calm 26 = .ok (.istore_n 3, 1) := by decide +kernel
theorem dX8_calm_27 : decode cX8_calm 27 = .ok (.aload_n 0, 1) := by decide +kernel
theorem dX8_calm_28 : decode cX8_calm 28 = .ok (.getfield 16, 3) := by decide +kernel
theorem dX8_calm_31 : decode cX8_calm 31 = .ok (.iload_n 1, 1) := by decide +kernel
theorem dX8_calm_32 : decode cX8_calm 32 = .ok (.iload_n 2, 1) := by decide +kernel
theorem dX8_calm_33 : decode cX8_calm 33 = .ok (.iastore, 1) := by decide +kernel
theorem dX8_calm_34 : decode cX8_calm 34 = .ok (.iload_n 3, 1) := by decide +kernel
theorem dX8_calm_35 : decode cX8_calm 35 = .ok (.ireturn, 1) := by decide +kernel
set_option maxRecDepth 20000 in
theorem ggX8_does_X8_isDish : GoodIn wsX8_does wsX8_isDish := goodIn_r _ [5, 6, 7, 4, 8] (by decide +kernel) (by decide +kernel)
set_option maxRecDepth 20000 in
theorem gX8_does_X8_isDish : GoodIn wsX8_does (va_wsS RX8 86 yX8_isDish wsX8_isDish) := goodIn_app (goodIn_of _ (by decide +kernel)) ggX8_does_X8_isDish
set_option maxRecDepth 20000 in
theorem ggX8_does_X8_in : GoodIn wsX8_does wsX8_in := goodIn_r _ [8] (by decide +kernel) (by decide +kernel)
set_option maxRecDepth 20000 in
theorem gX8_does_X8_in : GoodIn wsX8_does (va_wsS RX8 71 yX8_in wsX8_in) := goodIn_app (goodIn_of _ (by decide +kernel)) ggX8_does_X8_in
theorem dX8_does_0 : decode cX8_does 0 = .ok (.iload_n 1, 1) := by decide +kernel
theorem dX8_does_1 : decode cX8_does 1 = .ok (.invokestatic 86, 3) := by decide +kernel
theorem dX8_does_4 : decode cX8_does 4 = .ok (.ifCond .eq 14, 3) := by decide +kernel
theorem dX8_does_7 : decode cX8_does 7 = .ok (.iload_n 2, 1) := by decide +kernel
theorem dX8_does_8 : decode cX8_does 8 = .ok (.bipush (-9), 2) := by decide +kernel
theorem dX8_does_10 : decode cX8_does 10 = .ok (.bipush 9, 2) := by decide +kernel
theorem dX8_does_12 : decode cX8_does 12 = .ok (.invokestatic 71, 3) := by decide +kernel
theorem dX8_does_15 : decode cX8_does 15 = .ok (.ifCond .ne 6, 3) := by decide +kernel
theorem dX8_does_18 : decode cX8_does 18 = .ok (.bipush (-102), 2) := by decide +kernel
theorem dX8_does_20 : decode cX8_does 20 = .ok (.ireturn, 1) := by decide +kernel
theorem dX8_does_21 : decode cX8_does 21 = .ok (.aload_n 0, 1) := by decide +kernel
theorem dX8_does_22 : decode cX8_does 22 = .ok (.getfield 19, 3) := by decide +kernel
theorem dX8_does_25 : decode cX8_does 25 = .ok (.iload_n 1, 1) := by decide +kernel
theorem dX8_does_26 : decode cX8_does 26 = .ok (.iaload, 1) := by decide +kernel
theorem dX8_does_27 : decode cX8_does 27 = .ok (.istore_n 3, 1) := by decide +kernel
theorem dX8_does_28 : decode cX8_does 28 = .ok (.aload_n 0, 1) := by decide +kernel
theorem dX8_does_29 : decode cX8_does 29 = .ok (.getfield 19, 3) := by decide +kernel
theorem dX8_does_32 : decode cX8_does 32 = .ok (.iload_n 1, 1) := by decide +kernel
theorem dX8_does_33 : decode cX8_does 33 = .ok (.iload_n 2, 1) := by decide +kernel
theorem dX8_does_34 : decode cX8_does 34 = .ok (.iastore, 1) := by decide +kernel
theorem dX8_does_35 : decode cX8_does 35 = .ok (.iload_n 3, 1) := by decide +kernel
theorem dX8_does_36 : decode cX8_does 36 = .ok (.ireturn, 1) := by decide +kernel
set_option maxRecDepth 20000 in
theorem ggX8_set_X8_in : GoodIn wsX8_set wsX8_in := goodIn_r _ [7] (by decide +kernel) (by decide +kernel)
set_option maxRecDepth 20000 in
theorem gX8_set_X8_in : GoodIn wsX8_set (va_wsS RX8 71 yX8_in wsX8_in) := goodIn_app (goodIn_of _ (by decide +kernel)) ggX8_set_X8_in
theorem dX8_set_0 : decode cX8_set 0 = .ok (.iload_n 1, 1) := by decide +kernel
theorem dX8_set_1 : decode cX8_set 1 = .ok (.iconst 0, 1) := by decide +kernel
theorem dX8_set_2 : decode cX8_set 2 = .ok (.iconst 2, 1) := by decide +kernel
theorem dX8_set_3 : decode cX8_set 3 = .ok (.invokestatic 71, 3) := by decide +kernel
theorem dX8_set_6 : decode cX8_set 6 = .ok (.ifCond .eq 51, 3) := by decide +kernel
theorem dX8_set_9 : decode cX8_set 9 = .ok (.iload_n 2, 1) := by decide +kernel
theorem dX8_set_10 : decode cX8_set 10 = .ok (.iload_n 1, 1) := by decide +kernel
theorem dX8_set_11 : decode cX8_set 11 = .ok (.ifCond .ne 7, 3) := by decide +kernel
theorem dX8_set_14 : decode cX8_set 14 = .ok (.iconst 1, 1) := by decide +kernel
theorem dX8_set_15 : decode cX8_set 15 = .ok (.goto 4, 3) := by decide +kernel
theorem dX8_set_18 : decode cX8_set 18 = .ok (.iconst 0, 1) := by decide +kernel
theorem dX8_set_19 : decode cX8_set 19 = .ok (.iload_n 1, 1) := by decide +kernel
theorem dX8_set_20 : decode cX8_set 20 = .ok (.ifCond .ne 8, 3) := by decide +kernel
theorem dX8_set_23 : decode cX8_set 23 = .ok (.bipush 10, 2) := by decide +kernel
theorem dX8_set_25 : decode cX8_set 25 = .ok (.goto 14, 3) := by decide +kernel
theorem dX8_set_28 : decode cX8_set 28 = .ok (.iload_n 1, 1) := by decide +kernel
theorem dX8_set_29 : decode cX8_set 29 = .ok (.iconst 1, 1) := by decide +kernel
theorem dX8_set_30 : decode cX8_set 30 = .ok (.if_icmp .ne 7, 3) := by decide +kernel
theorem dX8_set_33 : decode cX8_set 33 = .ok (.iconst 2, 1) := by decide +kernel
theorem dX8_set_34 : decode cX8_set 34 = .ok (.goto 5, 3) := by decide +kernel
theorem dX8_set_37 : decode cX8_set 37 = .ok (.bipush 126, 2) := by decide +kernel
theorem dX8_set_39 : decode cX8_set 39 = .ok (.invokestatic 71, 3) := by decide +kernel
theorem dX8_set_42 : decode cX8_set 42 = .ok (.ifCond .eq 15, 3) := by decide +kernel
theorem dX8_set_45 : decode cX8_set 45 = .ok (.iload_n 1, 1) := by decide +kernel
theorem dX8_set_46 : decode cX8_set 46 = .ok (.iconst 2, 1) := by decide +kernel
theorem dX8_set_47 : decode cX8_set 47 = .ok (.if_icmp .ne 13, 3) := by decide +kernel
theorem dX8_set_50 : decode cX8_set 50 = .ok (.iload_n 2, 1) := by decide +kernel
theorem dX8_set_51 : decode cX8_set 51 = .ok (.iconst 2, 1) := by decide +kernel
theorem dX8_set_52 : decode cX8_set 52 = .ok (.irem, 1) := by decide +kernel
theorem dX8_set_53 : decode cX8_set 53 = .ok (.iconst 1, 1) := by decide +kernel
theorem dX8_set_54 : decode cX8_set 54 = .ok (.if_icmp .ne 6, 3) := by decide +kernel
theorem dX8_set_57 : decode cX8_set 57 = .ok (.bipush (-2), 2) := by decide +kernel
theorem dX8_set_59 : decode cX8_set 59 = .ok (.ireturn, 1) := by decide +kernel
theorem dX8_set_60 : decode cX8_set 60 = .ok (.iload_n 1, 1) := by decide +kernel
theorem dX8_set_61 : decode cX8_set 61 = .ok (.ifCond .ne 10, 3) := by decide +kernel
theorem dX8_set_64 : decode cX8_set 64 = .ok (.aload_n 0, 1) := by decide +kernel
theorem dX8_set_65 : decode cX8_set 65 = .ok (.getfield 65, 3) := by decide +kernel
theorem dX8_set_68 : decode cX8_set 68 = .ok (.goto 19, 3) := by decide +kernel
theorem dX8_set_71 : decode cX8_set 71 = .ok (.iload_n 1, 1) := by decide +kernel
theorem dX8_set_72 : decode cX8_set 72 = .ok (.iconst 1, 1) := by decide +kernel
theorem dX8_set_73 : decode cX8_set 73 = .ok (.if_icmp .ne 10, 3) := by decide +kernel
theorem dX8_set_76 : decode cX8_set 76 = .ok (.aload_n 0, 1) := by decide +kernel
theorem dX8_set_77 : decode cX8_set 77 = .ok (.getfield 89, 3) := by decide +kernel
theorem dX8_set_80 : decode cX8_set 80 = .ok (.goto 7, 3) := by decide +kernel
theorem dX8_set_83 : decode cX8_set 83 = .ok (.aload_n 0, 1) := by decide +kernel
theorem dX8_set_84 : decode cX8_set 84 = .ok (.getfield 92, 3) := by decide +kernel
theorem dX8_set_87 : decode cX8_set 87 = .ok (.istore_n 3, 1) := by decide +kernel
theorem dX8_set_88 : decode cX8_set 88 = .ok (.aload_n 0, 1) := by decide +kernel
theorem dX8_set_89 : decode cX8_set 89 = .ok (.iload_n 1, 1) := by decide +kernel
theorem dX8_set_90 : decode cX8_set 90 = .ok (.ifCond .ne 7, 3) := by decide +kernel
theorem dX8_set_93 : decode cX8_set 93 = .ok (.iload_n 2, 1) := by decide +kernel
theorem dX8_set_94 : decode cX8_set 94 = .ok (.goto 7, 3) := by decide +kernel
theorem dX8_set_97 : decode cX8_set 97 = .ok (.aload_n 0, 1) := by decide +kernel
theorem dX8_set_98 : decode cX8_set 98 = .ok (.getfield 65, 3) := by decide +kernel
theorem dX8_set_101 : decode cX8_set 101 = .ok (.putfield 65, 3) := by decide +kernel
theorem dX8_set_104 : decode cX8_set 104 = .ok (.aload_n 0, 1) := by decide +kernel
theorem dX8_set_105 : decode cX8_set 105 = .ok (.iload_n 1, 1) := by decide +kernel
theorem dX8_set_106 : decode cX8_set 106 = .ok (.iconst 1, 1) := by decide +kernel
theorem dX8_set_107 : decode cX8_set 107 = .ok (.if_icmp .ne 7, 3) := by decide +kernel
theorem dX8_set_110 : decode cX8_set 110 = .ok (.iload_n 2, 1) := by decide +kernel
theorem dX8_set_111 : decode cX8_set 111 = .ok (.goto 7, 3) := by decide +kernel
theorem dX8_set_114 : decode cX8_set 114 = .ok (.aload_n 0, 1) := by decide +kernel
theorem dX8_set_115 : decode cX8_set 115 = .ok (.getfield 89, 3) := by decide +kernel
theorem dX8_set_118 : decode cX8_set 118 = .ok (.putfield 89, 3) := by decide +kernel
theorem dX8_set_121 : decode cX8_set 121 = .ok (.aload_n 0, 1) := by decide +kernel
theorem dX8_set_122 : decode cX8_set 122 = .ok (.iload_n 1, 1) := by decide +kernel
theorem dX8_set_123 : decode cX8_set 123 = .ok (.iconst 2, 1) := by decide +kernel
theorem dX8_set_124 : decode cX8_set 124 = .ok (.if_icmp .ne 7, 3) := by decide +kernel
theorem dX8_set_127 : decode cX8_set 127 = .ok (.iload_n 2, 1) := by decide +kernel
theorem dX8_set_128 : decode cX8_set 128 = .ok (.goto 7, 3) := by decide +kernel
theorem dX8_set_131 : decode cX8_set 131 = .ok (.aload_n 0, 1) := by decide +kernel
theorem dX8_set_132 : decode cX8_set 132 = .ok (.getfield 92, 3) := by decide +kernel
theorem dX8_set_135 : decode cX8_set 135 = .ok (.putfield 92, 3) := by decide +kernel
theorem dX8_set_138 : decode cX8_set 138 = .ok (.iload_n 3, 1) := by decide +kernel
theorem dX8_set_139 : decode cX8_set 139 = .ok (.ireturn, 1) := by decide +kernel
set_option maxRecDepth 20000 in
theorem ggX8_price_X8_isDish : GoodIn wsX8_price wsX8_isDish := goodIn_r _ [5, 6, 7, 4, 8] (by decide +kernel) (by decide +kernel)
set_option maxRecDepth 20000 in
theorem gX8_price_X8_isDish : GoodIn wsX8_price (va_wsS RX8 86 yX8_isDish wsX8_isDish) := goodIn_app (goodIn_of _ (by decide +kernel)) ggX8_price_X8_isDish
set_option maxRecDepth 20000 in
theorem ggX8_price_X8_in : GoodIn wsX8_price wsX8_in := goodIn_r _ [8] (by decide +kernel) (by decide +kernel)
set_option maxRecDepth 20000 in
theorem gX8_price_X8_in : GoodIn wsX8_price (va_wsS RX8 71 yX8_in wsX8_in) := goodIn_app (goodIn_of _ (by decide +kernel)) ggX8_price_X8_in
theorem dX8_price_0 : decode cX8_price 0 = .ok (.iload_n 1, 1) := by decide +kernel
theorem dX8_price_1 : decode cX8_price 1 = .ok (.invokestatic 86, 3) := by decide +kernel
theorem dX8_price_4 : decode cX8_price 4 = .ok (.ifCond .eq 13, 3) := by decide +kernel
theorem dX8_price_7 : decode cX8_price 7 = .ok (.iload_n 2, 1) := by decide +kernel
theorem dX8_price_8 : decode cX8_price 8 = .ok (.iconst 0, 1) := by decide +kernel
theorem dX8_price_9 : decode cX8_price 9 = .ok (.bipush 99, 2) := by decide +kernel
theorem dX8_price_11 : decode cX8_price 11 = .ok (.invokestatic 71, 3) := by decide +kernel
theorem dX8_price_14 : decode cX8_price 14 = .ok (.ifCond .ne 6, 3) := by decide +kernel
theorem dX8_price_17 : decode cX8_price 17 = .ok (.bipush (-2), 2) := by decide +kernel
theorem dX8_price_19 : decode cX8_price 19 = .ok (.ireturn, 1) := by decide +kernel
theorem dX8_price_20 : decode cX8_price 20 = .ok (.aload_n 0, 1) := by decide +kernel
theorem dX8_price_21 : decode cX8_price 21 = .ok (.getfield 22, 3) := by decide +kernel
theorem dX8_price_24 : decode cX8_price 24 = .ok (.iload_n 1, 1) := by decide +kernel
theorem dX8_price_25 : decode cX8_price 25 = .ok (.iaload, 1) := by decide +kernel
theorem dX8_price_26 : decode cX8_price 26 = .ok (.istore_n 3, 1) := by decide +kernel
theorem dX8_price_27 : decode cX8_price 27 = .ok (.aload_n 0, 1) := by decide +kernel
theorem dX8_price_28 : decode cX8_price 28 = .ok (.getfield 22, 3) := by decide +kernel
theorem dX8_price_31 : decode cX8_price 31 = .ok (.iload_n 1, 1) := by decide +kernel
theorem dX8_price_32 : decode cX8_price 32 = .ok (.iload_n 2, 1) := by decide +kernel
theorem dX8_price_33 : decode cX8_price 33 = .ok (.iastore, 1) := by decide +kernel
theorem dX8_price_34 : decode cX8_price 34 = .ok (.iload_n 3, 1) := by decide +kernel
theorem dX8_price_35 : decode cX8_price 35 = .ok (.ireturn, 1) := by decide +kernel
set_option maxRecDepth 20000 in
theorem ggX8_read_X8_isSheet : GoodIn wsX8_read wsX8_isSheet := goodIn_r _ [9, 10, 11, 8, 12] (by decide +kernel) (by decide +kernel)
set_option maxRecDepth 20000 in
theorem gX8_read_X8_isSheet : GoodIn wsX8_read (va_wsS RX8 95 yX8_isSheet wsX8_isSheet) := goodIn_app (goodIn_of _ (by decide +kernel)) ggX8_read_X8_isSheet
set_option maxRecDepth 20000 in
theorem ggX8_read_X8_isGeneral : GoodIn wsX8_read wsX8_isGeneral := goodIn_r _ [15, 10, 11, 8, 12] (by decide +kernel) (by decide +kernel)
set_option maxRecDepth 20000 in
theorem gX8_read_X8_isGeneral : GoodIn wsX8_read (va_wsS RX8 75 yX8_isGeneral wsX8_isGeneral) := goodIn_app (goodIn_of _ (by decide +kernel)) ggX8_read_X8_isGeneral
set_option maxRecDepth 20000 in
theorem ggX8_read_X8_meets : GoodIn wsX8_read wsX8_meets := goodIn_r _ [19, 20, 27, 28, 29, 30, 31, 32, 33, 34, 35, 36, 37, 38, 39, 40, 41, 42, 43, 44, 45, 46, 47, 48, 49] (by decide +kernel) (by decide +kernel)
set_option maxRecDepth 20000 in
theorem gX8_read_X8_meets : GoodIn wsX8_read (wsV RX8 98 RX8 yX8_meets wsX8_meets) := goodIn_app (goodIn_of _ (by decide +kernel)) ggX8_read_X8_meets
set_option maxRecDepth 20000 in
theorem ggX8_read_X8_isDish : GoodIn wsX8_read wsX8_isDish := goodIn_r _ [23, 10, 11, 8, 12] (by decide +kernel) (by decide +kernel)
set_option maxRecDepth 20000 in
theorem gX8_read_X8_isDish : GoodIn wsX8_read (va_wsS RX8 86 yX8_isDish wsX8_isDish) := goodIn_app (goodIn_of _ (by decide +kernel)) ggX8_read_X8_isDish
set_option maxRecDepth 20000 in
theorem ggX8_read_X8_byteOf : GoodIn wsX8_read wsX8_byteOf := goodIn_r _ [26] (by decide +kernel) (by decide +kernel)
set_option maxRecDepth 20000 in
theorem gX8_read_X8_byteOf : GoodIn wsX8_read (va_wsS RX8 101 yX8_byteOf wsX8_byteOf) := goodIn_app (goodIn_of _ (by decide +kernel)) ggX8_read_X8_byteOf
theorem dX8_read_0 : decode cX8_read 0 = .ok (.iload_n 1, 1) := by decide +kernel
theorem dX8_read_1 : decode cX8_read 1 = .ok (.invokestatic 95, 3) := by decide +kernel
theorem dX8_read_4 : decode cX8_read 4 = .ok (.ifCond .eq 10, 3) := by decide +kernel
theorem dX8_read_7 : decode cX8_read 7 = .ok (.iload_n 2, 1) := by decide +kernel
theorem dX8_read_8 : decode cX8_read 8 = .ok (.invokestatic 75, 3) := by decide +kernel
theorem dX8_read_11 : decode cX8_read 11 = .ok (.ifCond .ne 6, 3) := by decide +kernel
theorem dX8_read_14 : decode cX8_read 14 = .ok (.bipush (-2), 2) := by decide +kernel
theorem dX8_read_16 : decode cX8_read 16 = .ok (.ireturn, 1) := by decide +kernel
theorem dX8_read_17 : decode cX8_read 17 = .ok (.aload_n 0, 1) := by decide +kernel
theorem dX8_read_18 : decode cX8_read 18 = .ok (.getfield 50, 3) := by decide +kernel
theorem dX8_read_21 : decode cX8_read 21 = .ok (.iload_n 1, 1) := by decide +kernel
theorem dX8_read_22 : decode cX8_read 22 = .ok (.baload, 1) := by decide +kernel
theorem dX8_read_23 : decode cX8_read 23 = .ok (.ifCond .ne 9, 3) := by decide +kernel
theorem dX8_read_26 : decode cX8_read 26 = .ok (.aload_n 0, 1) := by decide +kernel
theorem dX8_read_27 : decode cX8_read 27 = .ok (.iconst 1, 1) := by decide +kernel
theorem dX8_read_28 : decode cX8_read 28 = .ok (.invokevirtual 98, 3) := by decide +kernel
theorem dX8_read_31 : decode cX8_read 31 = .ok (.ireturn, 1) := by decide +kernel
theorem dX8_read_32 : decode cX8_read 32 = .ok (.iconst 0, 1) := by decide +kernel
theorem dX8_read_33 : decode cX8_read 33 = .ok (.istore_n 3, 1) := by decide +kernel
theorem dX8_read_34 : decode cX8_read 34 = .ok (.iload_n 3, 1) := by decide +kernel
theorem dX8_read_35 : decode cX8_read 35 = .ok (.aload_n 0, 1) := by decide +kernel
theorem dX8_read_36 : decode cX8_read 36 = .ok (.getfield 56, 3) := by decide +kernel
theorem dX8_read_39 : decode cX8_read 39 = .ok (.iload_n 1, 1) := by decide +kernel
theorem dX8_read_40 : decode cX8_read 40 = .ok (.iaload, 1) := by decide +kernel
theorem dX8_read_41 : decode cX8_read 41 = .ok (.if_icmp .ge 57, 3) := by decide +kernel
theorem dX8_read_44 : decode cX8_read 44 = .ok (.iload_n 3, 1) := by decide +kernel
theorem dX8_read_45 : decode cX8_read 45 = .ok (.bipush 24, 2) := by decide +kernel
theorem dX8_read_47 : decode cX8_read 47 = .ok (.if_icmp .ge 51, 3) := by decide +kernel
theorem dX8_read_50 : decode cX8_read 50 = .ok (.aload_n 0, 1) := by decide +kernel
theorem dX8_read_51 : decode cX8_read 51 = .ok (.getfield 59, 3) := by decide +kernel
theorem dX8_read_54 : decode cX8_read 54 = .ok (.bipush 48, 2) := by decide +kernel
theorem dX8_read_56 : decode cX8_read 56 = .ok (.iload_n 1, 1) := by decide +kernel
theorem dX8_read_57 : decode cX8_read 57 = .ok (.imul, 1) := by decide +kernel
theorem dX8_read_58 : decode cX8_read 58 = .ok (.iload_n 3, 1) := by decide +kernel
theorem dX8_read_59 : decode cX8_read 59 = .ok (.iadd, 1) := by decide +kernel
theorem dX8_read_60 : decode cX8_read 60 = .ok (.iaload, 1) := by decide +kernel
theorem dX8_read_61 : decode cX8_read 61 = .ok (.invokestatic 86, 3) := by decide +kernel
theorem dX8_read_64 : decode cX8_read 64 = .ok (.ifCond .eq 34, 3) := by decide +kernel
theorem dX8_read_67 : decode cX8_read 67 = .ok (.aload_n 0, 1) := by decide +kernel
theorem dX8_read_68 : decode cX8_read 68 = .ok (.getfield 13, 3) := by decide +kernel
theorem dX8_read_71 : decode cX8_read 71 = .ok (.bipush 24, 2) := by decide +kernel
theorem dX8_read_73 : decode cX8_read 73 = .ok (.iload_n 2, 1) := by decide +kernel
theorem dX8_read_74 : decode cX8_read 74 = .ok (.imul, 1) := by decide +kernel
theorem dX8_read_75 : decode cX8_read 75 = .ok (.iload_n 3, 1) := by decide +kernel
theorem dX8_read_76 : decode cX8_read 76 = .ok (.iadd, 1) := by decide +kernel
theorem dX8_read_77 : decode cX8_read 77 = .ok (.aload_n 0, 1) := by decide +kernel
theorem dX8_read_78 : decode cX8_read 78 = .ok (.getfield 59, 3) := by decide +kernel
theorem dX8_read_81 : decode cX8_read 81 = .ok (.bipush 48, 2) := by decide +kernel
theorem dX8_read_83 : decode cX8_read 83 = .ok (.iload_n 1, 1) := by decide +kernel
theorem dX8_read_84 : decode cX8_read 84 = .ok (.imul, 1) := by decide +kernel
theorem dX8_read_85 : decode cX8_read 85 = .ok (.iload_n 3, 1) := by decide +kernel
theorem dX8_read_86 : decode cX8_read 86 = .ok (.iadd, 1) := by decide +kernel
theorem dX8_read_87 : decode cX8_read 87 = .ok (.iaload, 1) := by decide +kernel
theorem dX8_read_88 : decode cX8_read 88 = .ok (.invokestatic 101, 3) := by decide +kernel
theorem dX8_read_91 : decode cX8_read 91 = .ok (.iastore, 1) := by decide +kernel
theorem dX8_read_92 : decode cX8_read 92 = .ok (.iinc 3 1, 3) := by decide +kernel
theorem dX8_read_95 : decode cX8_read 95 = .ok (.goto (-61), 3) := by decide +kernel
theorem dX8_read_98 : decode cX8_read 98 = .ok (.aload_n 0, 1) := by decide +kernel
theorem dX8_read_99 : decode cX8_read 99 = .ok (.getfield 7, 3) := by decide +kernel
theorem dX8_read_102 : decode cX8_read 102 = .ok (.iload_n 2, 1) := by decide +kernel
theorem dX8_read_103 : decode cX8_read 103 = .ok (.iload_n 3, 1) := by decide +kernel
theorem dX8_read_104 : decode cX8_read 104 = .ok (.iastore, 1) := by decide +kernel
theorem dX8_read_105 : decode cX8_read 105 = .ok (.iload_n 3, 1) := by decide +kernel
theorem dX8_read_106 : decode cX8_read 106 = .ok (.ireturn, 1) := by decide +kernel
set_option maxRecDepth 20000 in
theorem ggX8_toldMany_X8_faultOf : GoodIn wsX8_toldMany wsX8_faultOf := goodIn_r _ [6, 1, 7, 8, 9, 5, 10, 11, 12, 13, 14, 15, 16, 17, 18, 19, 20, 21, 22, 23, 24, 25, 26, 27, 28, 29, 30, 31, 32, 33] (by decide +kernel) (by decide +kernel)
set_option maxRecDepth 20000 in
theorem gX8_toldMany_X8_faultOf : GoodIn wsX8_toldMany (wsV RX8 83 RX8 yX8_faultOf wsX8_faultOf) := goodIn_app (goodIn_of _ (by decide +kernel)) ggX8_toldMany_X8_faultOf
theorem dX8_toldMany_0 : decode cX8_toldMany 0 = .ok (.aload_n 0, 1) := by decide +kernel
theorem dX8_toldMany_1 : decode cX8_toldMany 1 = .ok (.iload_n 1, 1) := by decide +kernel
theorem dX8_toldMany_2 : decode cX8_toldMany 2 = .ok (.invokevirtual 83, 3) := by decide +kernel
theorem dX8_toldMany_5 : decode cX8_toldMany 5 = .ok (.iconst (-1), 1) := by decide +kernel
theorem dX8_toldMany_6 : decode cX8_toldMany 6 = .ok (.if_icmp .ne 12, 3) := by decide +kernel
theorem dX8_toldMany_9 : decode cX8_toldMany 9 = .ok (.aload_n 0, 1) := by decide +kernel
theorem dX8_toldMany_10 : decode cX8_toldMany 10 = .ok (.getfield 7, 3) := by decide +kernel
theorem dX8_toldMany_13 : decode cX8_toldMany 13 = .ok (.iload_n 1, 1) := by decide +kernel
theorem dX8_toldMany_14 : decode cX8_toldMany 14 = .ok (.iaload, 1) := by decide +kernel
theorem dX8_toldMany_15 : decode cX8_toldMany 15 = .ok (.goto 4, 3) := by decide +kernel
theorem dX8_toldMany_18 : decode cX8_toldMany 18 = .ok (.iconst 0, 1) := by decide +kernel
theorem dX8_toldMany_19 : decode cX8_toldMany 19 = .ok (.ireturn, 1) := by decide +kernel
set_option maxRecDepth 20000 in
theorem ggX8_lays_X8_toldMany : GoodIn wsX8_lays wsX8_toldMany := goodIn_r _ [10, 11, 12, 13, 14, 9, 15, 3, 16, 17, 18, 32, 33, 34, 35, 36, 37, 38, 39, 40, 41, 42, 43, 44, 45, 46, 47, 48, 49, 50, 51, 52, 53, 54] (by decide +kernel) (by decide +kernel)
set_option maxRecDepth 20000 in
theorem gX8_lays_X8_toldMany : GoodIn wsX8_lays (wsV RX8 104 RX8 yX8_toldMany wsX8_toldMany) := goodIn_app (goodIn_of _ (by decide +kernel)) ggX8_lays_X8_toldMany
set_option maxRecDepth 20000 in
theorem ggX8_lays_X8_in : GoodIn wsX8_lays wsX8_in := goodIn_r _ [21] (by decide +kernel) (by decide +kernel)
set_option maxRecDepth 20000 in
theorem gX8_lays_X8_in : GoodIn wsX8_lays (va_wsS RX8 71 yX8_in wsX8_in) := goodIn_app (goodIn_of _ (by decide +kernel)) ggX8_lays_X8_in
set_option maxRecDepth 20000 in
theorem ggX8_lays_X8_dishBy : GoodIn wsX8_lays wsX8_dishBy := goodIn_r _ [18] (by decide +kernel) (by decide +kernel)
set_option maxRecDepth 20000 in
theorem gX8_lays_X8_dishBy : GoodIn wsX8_lays (va_wsS RX8 79 yX8_dishBy wsX8_dishBy) := goodIn_app (goodIn_of _ (by decide +kernel)) ggX8_lays_X8_dishBy
set_option maxRecDepth 20000 in
theorem ggX8_lays_X8_next : GoodIn wsX8_lays wsX8_next := goodIn_r _ [25, 26, 32, 33, 34, 35, 36, 37, 38, 39, 40, 41, 42, 43, 44, 45, 46, 47, 48, 49, 50, 51, 52, 53, 54] (by decide +kernel) (by decide +kernel)
set_option maxRecDepth 20000 in
theorem gX8_lays_X8_next : GoodIn wsX8_lays (wsV RX8 107 RX8 yX8_next wsX8_next) := goodIn_app (goodIn_of _ (by decide +kernel)) ggX8_lays_X8_next
set_option maxRecDepth 20000 in
theorem ggX8_lays_X8_doesHiccup : GoodIn wsX8_lays wsX8_doesHiccup := goodIn_r _ [30, 31, 32, 33, 34, 35, 36, 37, 38, 39, 40, 41, 42, 43, 44, 45, 46, 47, 48, 49, 50, 51, 52, 53, 54] (by decide +kernel) (by decide +kernel)
set_option maxRecDepth 20000 in
theorem gX8_lays_X8_doesHiccup : GoodIn wsX8_lays (wsV RX8 111 RX8 yX8_doesHiccup wsX8_doesHiccup) := goodIn_app (goodIn_of _ (by decide +kernel)) ggX8_lays_X8_doesHiccup
theorem dX8_lays_0 : decode cX8_lays 0 = .ok (.aload_n 0, 1) := by decide +kernel
theorem dX8_lays_1 : decode cX8_lays 1 = .ok (.iload_n 1, 1) := by decide +kernel
theorem dX8_lays_2 : decode cX8_lays 2 = .ok (.invokevirtual 104, 3) := by decide +kernel
theorem dX8_lays_5 : decode cX8_lays 5 = .ok (.istore 4, 2) := by decide +kernel
theorem dX8_lays_7 : decode cX8_lays 7 = .ok (.aload_n 0, 1) := by decide +kernel
theorem dX8_lays_8 : decode cX8_lays 8 = .ok (.getfield 16, 3) := by decide +kernel
theorem dX8_lays_11 : decode cX8_lays 11 = .ok (.iload_n 1, 1) := by decide +kernel
theorem dX8_lays_12 : decode cX8_lays 12 = .ok (.iaload, 1) := by decide +kernel
theorem dX8_lays_13 : decode cX8_lays 13 = .ok (.istore 5, 2) := by decide +kernel
theorem dX8_lays_15 : decode cX8_lays 15 = .ok (.aload_n 0, 1) := by decide +kernel
theorem dX8_lays_16 : decode cX8_lays 16 = .ok (.getfield 31, 3) := by decide +kernel
theorem dX8_lays_19 : decode cX8_lays 19 = .ok (.iload_n 1, 1) := by decide +kernel
theorem dX8_lays_20 : decode cX8_lays 20 = .ok (.iconst 0, 1) := by decide +kernel
theorem dX8_lays_21 : decode cX8_lays 21 = .ok (.iastore, 1) := by decide +kernel
theorem dX8_lays_22 : decode cX8_lays 22 = .ok (.iconst 0, 1) := by decide +kernel
theorem dX8_lays_23 : decode cX8_lays 23 = .ok (.istore 6, 2) := by decide +kernel
theorem dX8_lays_25 : decode cX8_lays 25 = .ok (.iload 6, 2) := by decide +kernel
theorem dX8_lays_27 : decode cX8_lays 27 = .ok (.bipush 24, 2) := by decide +kernel
theorem dX8_lays_29 : decode cX8_lays 29 = .ok (.if_icmp .ge 125, 3) := by decide +kernel
theorem dX8_lays_32 : decode cX8_lays 32 = .ok (.iload 6, 2) := by decide +kernel
theorem dX8_lays_34 : decode cX8_lays 34 = .ok (.iload_n 2, 1) := by decide +kernel
theorem dX8_lays_35 : decode cX8_lays 35 = .ok (.isub, 1) := by decide +kernel
theorem dX8_lays_36 : decode cX8_lays 36 = .ok (.istore 7, 2) := by decide +kernel
theorem dX8_lays_38 : decode cX8_lays 38 = .ok (.iload 6, 2) := by decide +kernel
theorem dX8_lays_40 : decode cX8_lays 40 = .ok (.iload_n 3, 1) := by decide +kernel
theorem dX8_lays_41 : decode cX8_lays 41 = .ok (.if_icmp .ne 7, 3) := by decide +kernel
theorem dX8_lays_44 : decode cX8_lays 44 = .ok (.iconst 4, 1) := by decide +kernel
theorem dX8_lays_45 : decode cX8_lays 45 = .ok (.goto 35, 3) := by decide +kernel
theorem dX8_lays_48 : decode cX8_lays 48 = .ok (.iload 7, 2) := by decide +kernel
theorem dX8_lays_50 : decode cX8_lays 50 = .ok (.iconst 0, 1) := by decide +kernel
theorem dX8_lays_51 : decode cX8_lays 51 = .ok (.iload 4, 2) := by decide +kernel
theorem dX8_lays_53 : decode cX8_lays 53 = .ok (.iconst 1, 1) := by decide +kernel
theorem dX8_lays_54 : decode cX8_lays 54 = .ok (.isub, 1) := by decide +kernel
theorem dX8_lays_55 : decode cX8_lays 55 = .ok (.invokestatic 71, 3) := by decide +kernel
theorem dX8_lays_58 : decode cX8_lays 58 = .ok (.ifCond .eq 21, 3) := by decide +kernel
theorem dX8_lays_61 : decode cX8_lays 61 = .ok (.aload_n 0, 1) := by decide +kernel
theorem dX8_lays_62 : decode cX8_lays 62 = .ok (.getfield 13, 3) := by decide +kernel
theorem dX8_lays_65 : decode cX8_lays 65 = .ok (.bipush 24, 2) := by decide +kernel
theorem dX8_lays_67 : decode cX8_lays 67 = .ok (.iload_n 1, 1) := by decide +kernel
theorem dX8_lays_68 : decode cX8_lays 68 = .ok (.imul, 1) := by decide +kernel
theorem dX8_lays_69 : decode cX8_lays 69 = .ok (.iload 7, 2) := by decide +kernel
theorem dX8_lays_71 : decode cX8_lays 71 = .ok (.iadd, 1) := by decide +kernel
theorem dX8_lays_72 : decode cX8_lays 72 = .ok (.iaload, 1) := by decide +kernel
theorem dX8_lays_73 : decode cX8_lays 73 = .ok (.invokestatic 79, 3) := by decide +kernel
theorem dX8_lays_76 : decode cX8_lays 76 = .ok (.goto 4, 3) := by decide +kernel
theorem dX8_lays_79 : decode cX8_lays 79 = .ok (.iconst 0, 1) := by decide +kernel
theorem dX8_lays_80 : decode cX8_lays 80 = .ok (.istore 8, 2) := by decide +kernel
theorem dX8_lays_82 : decode cX8_lays 82 = .ok (.aload_n 0, 1) := by decide +kernel
theorem dX8_lays_83 : decode cX8_lays 83 = .ok (.getfield 25, 3) := by decide +kernel
theorem dX8_lays_86 : decode cX8_lays 86 = .ok (.bipush 24, 2) := by decide +kernel
theorem dX8_lays_88 : decode cX8_lays 88 = .ok (.iload_n 1, 1) := by decide +kernel
theorem dX8_lays_89 : decode cX8_lays 89 = .ok (.imul, 1) := by decide +kernel
theorem dX8_lays_90 : decode cX8_lays 90 = .ok (.iload 6, 2) := by decide +kernel
theorem dX8_lays_92 : decode cX8_lays 92 = .ok (.iadd, 1) := by decide +kernel
theorem dX8_lays_93 : decode cX8_lays 93 = .ok (.iload 8, 2) := by decide +kernel
theorem dX8_lays_95 : decode cX8_lays 95 = .ok (.iastore, 1) := by decide +kernel
theorem dX8_lays_96 : decode cX8_lays 96 = .ok (.aload_n 0, 1) := by decide +kernel
theorem dX8_lays_97 : decode cX8_lays 97 = .ok (.iload 5, 2) := by decide +kernel
theorem dX8_lays_99 : decode cX8_lays 99 = .ok (.iload 8, 2) := by decide +kernel
theorem dX8_lays_101 : decode cX8_lays 101 = .ok (.invokevirtual 107, 3) := by decide +kernel
theorem dX8_lays_104 : decode cX8_lays 104 = .ok (.istore 5, 2) := by decide +kernel
theorem dX8_lays_106 : decode cX8_lays 106 = .ok (.aload_n 0, 1) := by decide +kernel
theorem dX8_lays_107 : decode cX8_lays 107 = .ok (.getfield 28, 3) := by decide +kernel
theorem dX8_lays_110 : decode cX8_lays 110 = .ok (.bipush 24, 2) := by decide +kernel
theorem dX8_lays_112 : decode cX8_lays 112 = .ok (.iload_n 1, 1) := by decide +kernel
theorem dX8_lays_113 : decode cX8_lays 113 = .ok (.imul, 1) := by decide +kernel
theorem dX8_lays_114 : decode cX8_lays 114 = .ok (.iload 6, 2) := by decide +kernel
theorem dX8_lays_116 : decode cX8_lays 116 = .ok (.iadd, 1) := by decide +kernel
theorem dX8_lays_117 : decode cX8_lays 117 = .ok (.iload 5, 2) := by decide +kernel
theorem dX8_lays_119 : decode cX8_lays 119 = .ok (.iastore, 1) := by decide +kernel
theorem dX8_lays_120 : decode cX8_lays 120 = .ok (.aload_n 0, 1) := by decide +kernel
theorem dX8_lays_121 : decode cX8_lays 121 = .ok (.getfield 31, 3) := by decide +kernel
theorem dX8_lays_124 : decode cX8_lays 124 = .ok (.iload_n 1, 1) := by decide +kernel
theorem dX8_lays_125 : decode cX8_lays 125 = .ok (.dup2, 1) := by decide +kernel
theorem dX8_lays_126 : decode cX8_lays 126 = .ok (.iaload, 1) := by decide +kernel
theorem dX8_lays_127 : decode cX8_lays 127 = .ok (.aload_n 0, 1) := by decide +kernel
theorem dX8_lays_128 : decode cX8_lays 128 = .ok (.iload 5, 2) := by decide +kernel
theorem dX8_lays_130 : decode cX8_lays 130 = .ok (.iload 8, 2) := by decide +kernel
theorem dX8_lays_132 : decode cX8_lays 132 = .ok (.invokevirtual 111, 3) := by decide +kernel
theorem dX8_lays_135 : decode cX8_lays 135 = .ok (.ifCond .eq 10, 3) := by decide +kernel
theorem dX8_lays_138 : decode cX8_lays 138 = .ok (.iconst 1, 1) := by decide +kernel
theorem dX8_lays_139 : decode cX8_lays 139 = .ok (.iload 6, 2) := by decide +kernel
theorem dX8_lays_141 : decode cX8_lays 141 = .ok (.ishl, 1) := by decide +kernel
theorem dX8_lays_142 : decode cX8_lays 142 = .ok (.goto 4, 3) := by decide +kernel
theorem dX8_lays_145 : decode cX8_lays 145 = .ok (.iconst 0, 1) := by decide +kernel
theorem dX8_lays_146 : decode cX8_lays 146 = .ok (.ior, 1) := by decide +kernel
theorem dX8_lays_147 : decode cX8_lays 147 = .ok (.iastore, 1) := by decide +kernel
theorem dX8_lays_148 : decode cX8_lays 148 = .ok (.iinc 6 1, 3) := by decide +kernel
theorem dX8_lays_151 : decode cX8_lays 151 = .ok (.goto (-126), 3) := by decide +kernel
theorem dX8_lays_154 : decode cX8_lays 154 = .ok (.return_, 1) := by decide +kernel
theorem dX8_next_0 : decode cX8_next 0 = .ok (.iload_n 1, 1) := by decide +kernel
theorem dX8_next_1 : decode cX8_next 1 = .ok (.aload_n 0, 1) := by decide +kernel
theorem dX8_next_2 : decode cX8_next 2 = .ok (.getfield 19, 3) := by decide +kernel
theorem dX8_next_5 : decode cX8_next 5 = .ok (.iload_n 2, 1) := by decide +kernel
theorem dX8_next_6 : decode cX8_next 6 = .ok (.iaload, 1) := by decide +kernel
theorem dX8_next_7 : decode cX8_next 7 = .ok (.iadd, 1) := by decide +kernel
theorem dX8_next_8 : decode cX8_next 8 = .ok (.istore_n 3, 1) := by decide +kernel
theorem dX8_next_9 : decode cX8_next 9 = .ok (.iload_n 3, 1) := by decide +kernel
theorem dX8_next_10 : decode cX8_next 10 = .ok (.ifCond .ge 7, 3) := by decide +kernel
theorem dX8_next_13 : decode cX8_next 13 = .ok (.iconst 0, 1) := by decide +kernel
theorem dX8_next_14 : decode cX8_next 14 = .ok (.goto 15, 3) := by decide +kernel
theorem dX8_next_17 : decode cX8_next 17 = .ok (.iload_n 3, 1) := by decide +kernel
theorem dX8_next_18 : decode cX8_next 18 = .ok (.bipush 9, 2) := by decide +kernel
theorem dX8_next_20 : decode cX8_next 20 = .ok (.if_icmp .le 8, 3) := by decide +kernel
theorem dX8_next_23 : decode cX8_next 23 = .ok (.bipush 9, 2) := by decide +kernel
theorem dX8_next_25 : decode cX8_next 25 = .ok (.goto 4, 3) := by decide +kernel
theorem dX8_next_28 : decode cX8_next 28 = .ok (.iload_n 3, 1) := by decide +kernel
theorem dX8_next_29 : decode cX8_next 29 = .ok (.ireturn, 1) := by decide +kernel
theorem dX8_doesHiccup_0 : decode cX8_doesHiccup 0 = .ok (.iload_n 1, 1) := by decide +kernel
theorem dX8_doesHiccup_1 : decode cX8_doesHiccup 1 = .ok (.aload_n 0, 1) := by decide +kernel
theorem dX8_doesHiccup_2 : decode cX8_doesHiccup 2 = .ok (.getfield 65, 3) := by decide +kernel
theorem dX8_doesHiccup_5 : decode cX8_doesHiccup 5 = .ok (.if_icmp .lt 12, 3) := by decide +kernel
theorem dX8_doesHiccup_8 : decode cX8_doesHiccup 8 = .ok (.iload_n 2, 1) := by decide +kernel
theorem dX8_doesHiccup_9 : decode cX8_doesHiccup 9 = .ok (.iconst 5, 1) := by decide +kernel
theorem dX8_doesHiccup_10 : decode cX8_doesHiccup 10 = .ok (.if_icmp .eq 7, 3) := by decide +kernel
theorem dX8_doesHiccup_13 : decode cX8_doesHiccup 13 = .ok (.iconst 1, 1) := by decide +kernel
theorem dX8_doesHiccup_14 : decode cX8_doesHiccup 14 = .ok (.goto 4, 3) := by decide +kernel
theorem dX8_doesHiccup_17 : decode cX8_doesHiccup 17 = .ok (.iconst 0, 1) := by decide +kernel
theorem dX8_doesHiccup_18 : decode cX8_doesHiccup 18 = .ok (.ireturn, 1) := by decide +kernel
set_option maxRecDepth 20000 in
theorem ggX8_laysAll_X8_lays : GoodIn wsX8_laysAll wsX8_lays := goodIn_r _ [5, 6, 7, 8, 9, 10, 11, 12, 13, 4, 14, 15, 16, 17, 18, 19, 20, 21, 22, 23, 24, 25, 26, 27, 28, 29, 30, 31, 32, 33, 34, 35, 36, 37, 38, 39, 40, 41, 42, 43, 44, 45, 46, 47, 48, 49, 50, 51, 52, 53, 54, 55, 56, 57, 58] (by decide +kernel) (by decide +kernel)
set_option maxRecDepth 20000 in
theorem gX8_laysAll_X8_lays : GoodIn wsX8_laysAll (wsV RX8 115 RX8 yX8_lays wsX8_lays) := goodIn_app (goodIn_of _ (by decide +kernel)) ggX8_laysAll_X8_lays
theorem dX8_laysAll_0 : decode cX8_laysAll 0 = .ok (.iconst 0, 1) := by decide +kernel
theorem dX8_laysAll_1 : decode cX8_laysAll 1 = .ok (.istore_n 1, 1) := by decide +kernel
theorem dX8_laysAll_2 : decode cX8_laysAll 2 = .ok (.iload_n 1, 1) := by decide +kernel
theorem dX8_laysAll_3 : decode cX8_laysAll 3 = .ok (.iconst 3, 1) := by decide +kernel
theorem dX8_laysAll_4 : decode cX8_laysAll 4 = .ok (.if_icmp .ge 16, 3) := by decide +kernel
theorem dX8_laysAll_7 : decode cX8_laysAll 7 = .ok (.aload_n 0, 1) := by decide +kernel
theorem dX8_laysAll_8 : decode cX8_laysAll 8 = .ok (.iload_n 1, 1) := by decide +kernel
theorem dX8_laysAll_9 : decode cX8_laysAll 9 = .ok (.iconst 0, 1) := by decide +kernel
theorem dX8_laysAll_10 : decode cX8_laysAll 10 = .ok (.iconst (-1), 1) := by decide +kernel
theorem dX8_laysAll_11 : decode cX8_laysAll 11 = .ok (.invokevirtual 115, 3) := by decide +kernel
theorem dX8_laysAll_14 : decode cX8_laysAll 14 = .ok (.iinc 1 1, 3) := by decide +kernel
theorem dX8_laysAll_17 : decode cX8_laysAll 17 = .ok (.goto (-15), 3) := by decide +kernel
theorem dX8_laysAll_20 : decode cX8_laysAll 20 = .ok (.return_, 1) := by decide +kernel
set_option maxRecDepth 20000 in
theorem ggX8_dishOf_X8_laysAll : GoodIn wsX8_dishOf wsX8_laysAll := goodIn_r _ [6, 7, 8, 9, 5, 10, 11, 12, 13, 1, 14, 15, 16, 17, 18, 19, 20, 21, 22, 23, 24, 25, 26, 27, 28, 29, 30, 31, 32, 33, 34, 35, 36, 37, 38, 39, 40, 41, 42, 43, 44, 45, 46, 47, 48, 49, 50, 51, 52, 53, 54, 55, 56, 57, 58, 59, 60, 61, 62] (by decide +kernel) (by decide +kernel)
set_option maxRecDepth 20000 in
theorem gX8_dishOf_X8_laysAll : GoodIn wsX8_dishOf (wsV RX8 119 RX8 yX8_laysAll wsX8_laysAll) := goodIn_app (goodIn_of _ (by decide +kernel)) ggX8_dishOf_X8_laysAll
theorem dX8_dishOf_0 : decode cX8_dishOf 0 = .ok (.aload_n 0, 1) := by decide +kernel
theorem dX8_dishOf_1 : decode cX8_dishOf 1 = .ok (.invokevirtual 119, 3) := by decide +kernel
theorem dX8_dishOf_4 : decode cX8_dishOf 4 = .ok (.aload_n 0, 1) := by decide +kernel
theorem dX8_dishOf_5 : decode cX8_dishOf 5 = .ok (.getfield 25, 3) := by decide +kernel
theorem dX8_dishOf_8 : decode cX8_dishOf 8 = .ok (.bipush 24, 2) := by decide +kernel
theorem dX8_dishOf_10 : decode cX8_dishOf 10 = .ok (.iload_n 1, 1) := by decide +kernel
theorem dX8_dishOf_11 : decode cX8_dishOf 11 = .ok (.imul, 1) := by decide +kernel
theorem dX8_dishOf_12 : decode cX8_dishOf 12 = .ok (.iload_n 2, 1) := by decide +kernel
theorem dX8_dishOf_13 : decode cX8_dishOf 13 = .ok (.iadd, 1) := by decide +kernel
theorem dX8_dishOf_14 : decode cX8_dishOf 14 = .ok (.iaload, 1) := by decide +kernel
theorem dX8_dishOf_15 : decode cX8_dishOf 15 = .ok (.ireturn, 1) := by decide +kernel
set_option maxRecDepth 20000 in
theorem ggX8_dish_X8_isGeneral : GoodIn wsX8_dish wsX8_isGeneral := goodIn_r _ [4, 5, 6, 3, 7] (by decide +kernel) (by decide +kernel)
set_option maxRecDepth 20000 in
theorem gX8_dish_X8_isGeneral : GoodIn wsX8_dish (va_wsS RX8 75 yX8_isGeneral wsX8_isGeneral) := goodIn_app (goodIn_of _ (by decide +kernel)) ggX8_dish_X8_isGeneral
set_option maxRecDepth 20000 in
theorem ggX8_dish_X8_isHour : GoodIn wsX8_dish wsX8_isHour := goodIn_r _ [10, 5, 6, 3, 7] (by decide +kernel) (by decide +kernel)
set_option maxRecDepth 20000 in
theorem gX8_dish_X8_isHour : GoodIn wsX8_dish (va_wsS RX8 122 yX8_isHour wsX8_isHour) := goodIn_app (goodIn_of _ (by decide +kernel)) ggX8_dish_X8_isHour
set_option maxRecDepth 20000 in
theorem ggX8_dish_X8_dishOf : GoodIn wsX8_dish wsX8_dishOf := goodIn_r _ [14, 15, 16, 17, 18, 3, 19, 20, 21, 22, 23, 24, 25, 26, 27, 28, 29, 30, 31, 32, 33, 34, 35, 36, 37, 38, 39, 5, 6, 7, 40, 41, 42, 43, 44, 45, 46, 47, 48, 49, 50, 51, 52, 53, 54, 55, 56, 57, 58, 59, 60, 61, 62, 63, 64, 65, 66, 67, 68, 69, 70, 71, 72] (by decide +kernel) (by decide +kernel)
set_option maxRecDepth 20000 in
theorem gX8_dish_X8_dishOf : GoodIn wsX8_dish (wsV RX8 125 RX8 yX8_dishOf wsX8_dishOf) := goodIn_app (goodIn_of _ (by decide +kernel)) ggX8_dish_X8_dishOf
theorem dX8_dish_0 : decode cX8_dish 0 = .ok (.iload_n 1, 1) := by decide +kernel
theorem dX8_dish_1 : decode cX8_dish 1 = .ok (.invokestatic 75, 3) := by decide +kernel
theorem dX8_dish_4 : decode cX8_dish 4 = .ok (.ifCond .eq 19, 3) := by decide +kernel
theorem dX8_dish_7 : decode cX8_dish 7 = .ok (.iload_n 2, 1) := by decide +kernel
theorem dX8_dish_8 : decode cX8_dish 8 = .ok (.invokestatic 122, 3) := by decide +kernel
theorem dX8_dish_11 : decode cX8_dish 11 = .ok (.ifCond .eq 12, 3) := by decide +kernel
theorem dX8_dish_14 : decode cX8_dish 14 = .ok (.aload_n 0, 1) := by decide +kernel
theorem dX8_dish_15 : decode cX8_dish 15 = .ok (.iload_n 1, 1) := by decide +kernel
theorem dX8_dish_16 : decode cX8_dish 16 = .ok (.iload_n 2, 1) := by decide +kernel
theorem dX8_dish_17 : decode cX8_dish 17 = .ok (.invokevirtual 125, 3) := by decide +kernel
theorem dX8_dish_20 : decode cX8_dish 20 = .ok (.goto 5, 3) := by decide +kernel
theorem dX8_dish_23 : decode cX8_dish 23 = .ok (.bipush (-2), 2) := by decide +kernel
theorem dX8_dish_25 : decode cX8_dish 25 = .ok (.ireturn, 1) := by decide +kernel
set_option maxRecDepth 20000 in
theorem ggX8_levelOf_X8_laysAll : GoodIn wsX8_levelOf wsX8_laysAll := goodIn_r _ [6, 7, 8, 9, 5, 10, 11, 12, 13, 14, 1, 15, 16, 17, 18, 19, 20, 21, 22, 23, 24, 25, 26, 27, 28, 29, 30, 31, 32, 33, 34, 35, 36, 37, 38, 39, 40, 41, 42, 43, 44, 45, 46, 47, 48, 49, 50, 51, 52, 53, 54, 55, 56, 57, 58, 59, 60, 61, 62] (by decide +kernel) (by decide +kernel)
set_option maxRecDepth 20000 in
theorem gX8_levelOf_X8_laysAll : GoodIn wsX8_levelOf (wsV RX8 119 RX8 yX8_laysAll wsX8_laysAll) := goodIn_app (goodIn_of _ (by decide +kernel)) ggX8_levelOf_X8_laysAll
theorem dX8_levelOf_0 : decode cX8_levelOf 0 = .ok (.aload_n 0, 1) := by decide +kernel
theorem dX8_levelOf_1 : decode cX8_levelOf 1 = .ok (.invokevirtual 119, 3) := by decide +kernel
theorem dX8_levelOf_4 : decode cX8_levelOf 4 = .ok (.aload_n 0, 1) := by decide +kernel
theorem dX8_levelOf_5 : decode cX8_levelOf 5 = .ok (.getfield 28, 3) := by decide +kernel
theorem dX8_levelOf_8 : decode cX8_levelOf 8 = .ok (.bipush 24, 2) := by decide +kernel
theorem dX8_levelOf_10 : decode cX8_levelOf 10 = .ok (.iload_n 1, 1) := by decide +kernel
theorem dX8_levelOf_11 : decode cX8_levelOf 11 = .ok (.imul, 1) := by decide +kernel
theorem dX8_levelOf_12 : decode cX8_levelOf 12 = .ok (.iload_n 2, 1) := by decide +kernel
theorem dX8_levelOf_13 : decode cX8_levelOf 13 = .ok (.iadd, 1) := by decide +kernel
theorem dX8_levelOf_14 : decode cX8_levelOf 14 = .ok (.iaload, 1) := by decide +kernel
theorem dX8_levelOf_15 : decode cX8_levelOf 15 = .ok (.ireturn, 1) := by decide +kernel
set_option maxRecDepth 20000 in
theorem ggX8_level_X8_isGeneral : GoodIn wsX8_level wsX8_isGeneral := goodIn_r _ [4, 5, 6, 3, 7] (by decide +kernel) (by decide +kernel)
set_option maxRecDepth 20000 in
theorem gX8_level_X8_isGeneral : GoodIn wsX8_level (va_wsS RX8 75 yX8_isGeneral wsX8_isGeneral) := goodIn_app (goodIn_of _ (by decide +kernel)) ggX8_level_X8_isGeneral
set_option maxRecDepth 20000 in
theorem ggX8_level_X8_isHour : GoodIn wsX8_level wsX8_isHour := goodIn_r _ [10, 5, 6, 3, 7] (by decide +kernel) (by decide +kernel)
set_option maxRecDepth 20000 in
theorem gX8_level_X8_isHour : GoodIn wsX8_level (va_wsS RX8 122 yX8_isHour wsX8_isHour) := goodIn_app (goodIn_of _ (by decide +kernel)) ggX8_level_X8_isHour
set_option maxRecDepth 20000 in
theorem ggX8_level_X8_levelOf : GoodIn wsX8_level wsX8_levelOf := goodIn_r _ [14, 15, 16, 17, 18, 3, 19, 20, 21, 22, 23, 24, 25, 26, 27, 28, 29, 30, 31, 32, 33, 34, 35, 36, 37, 38, 39, 5, 6, 7, 40, 41, 42, 43, 44, 45, 46, 47, 48, 49, 50, 51, 52, 53, 54, 55, 56, 57, 58, 59, 60, 61, 62, 63, 64, 65, 66, 67, 68, 69, 70, 71, 72] (by decide +kernel) (by decide +kernel)
set_option maxRecDepth 20000 in
theorem gX8_level_X8_levelOf : GoodIn wsX8_level (wsV RX8 128 RX8 yX8_levelOf wsX8_levelOf) := goodIn_app (goodIn_of _ (by decide +kernel)) ggX8_level_X8_levelOf
theorem dX8_level_0 : decode cX8_level 0 = .ok (.iload_n 1, 1) := by decide +kernel
theorem dX8_level_1 : decode cX8_level 1 = .ok (.invokestatic 75, 3) := by decide +kernel
theorem dX8_level_4 : decode cX8_level 4 = .ok (.ifCond .eq 19, 3) := by decide +kernel
theorem dX8_level_7 : decode cX8_level 7 = .ok (.iload_n 2, 1) := by decide +kernel
theorem dX8_level_8 : decode cX8_level 8 = .ok (.invokestatic 122, 3) := by decide +kernel
theorem dX8_level_11 : decode cX8_level 11 = .ok (.ifCond .eq 12, 3) := by decide +kernel
theorem dX8_level_14 : decode cX8_level 14 = .ok (.aload_n 0, 1) := by decide +kernel
theorem dX8_level_15 : decode cX8_level 15 = .ok (.iload_n 1, 1) := by decide +kernel
theorem dX8_level_16 : decode cX8_level 16 = .ok (.iload_n 2, 1) := by decide +kernel
theorem dX8_level_17 : decode cX8_level 17 = .ok (.invokevirtual 128, 3) := by decide +kernel
theorem dX8_level_20 : decode cX8_level 20 = .ok (.goto 5, 3) := by decide +kernel
theorem dX8_level_23 : decode cX8_level 23 = .ok (.bipush (-2), 2) := by decide +kernel
theorem dX8_level_25 : decode cX8_level 25 = .ok (.ireturn, 1) := by decide +kernel
set_option maxRecDepth 20000 in
theorem ggX8_hiccupsOf_X8_laysAll : GoodIn wsX8_hiccupsOf wsX8_laysAll := goodIn_r _ [6, 7, 8, 9, 5, 10, 11, 1, 12, 13, 14, 15, 16, 17, 18, 19, 20, 21, 22, 23, 24, 25, 26, 27, 28, 29, 30, 31, 32, 33, 34, 35, 36, 37, 38, 39, 40, 41, 42, 43, 44, 45, 46, 47, 48, 49, 50, 51, 52, 53, 54, 55, 56, 57, 58, 59, 60, 61, 62] (by decide +kernel) (by decide +kernel)
set_option maxRecDepth 20000 in
theorem gX8_hiccupsOf_X8_laysAll : GoodIn wsX8_hiccupsOf (wsV RX8 119 RX8 yX8_laysAll wsX8_laysAll) := goodIn_app (goodIn_of _ (by decide +kernel)) ggX8_hiccupsOf_X8_laysAll
theorem dX8_hiccupsOf_0 : decode cX8_hiccupsOf 0 = .ok (.aload_n 0, 1) := by decide +kernel
theorem dX8_hiccupsOf_1 : decode cX8_hiccupsOf 1 = .ok (.invokevirtual 119, 3) := by decide +kernel
theorem dX8_hiccupsOf_4 : decode cX8_hiccupsOf 4 = .ok (.aload_n 0, 1) := by decide +kernel
theorem dX8_hiccupsOf_5 : decode cX8_hiccupsOf 5 = .ok (.getfield 31, 3) := by decide +kernel
theorem dX8_hiccupsOf_8 : decode cX8_hiccupsOf 8 = .ok (.iload_n 1, 1) := by decide +kernel
theorem dX8_hiccupsOf_9 : decode cX8_hiccupsOf 9 = .ok (.iaload, 1) := by decide +kernel
theorem dX8_hiccupsOf_10 : decode cX8_hiccupsOf 10 = .ok (.ireturn, 1) := by decide +kernel
set_option maxRecDepth 20000 in
theorem ggX8_hiccups_X8_isGeneral : GoodIn wsX8_hiccups wsX8_isGeneral := goodIn_r _ [4, 5, 6, 3, 7] (by decide +kernel) (by decide +kernel)
set_option maxRecDepth 20000 in
theorem gX8_hiccups_X8_isGeneral : GoodIn wsX8_hiccups (va_wsS RX8 75 yX8_isGeneral wsX8_isGeneral) := goodIn_app (goodIn_of _ (by decide +kernel)) ggX8_hiccups_X8_isGeneral
set_option maxRecDepth 20000 in
theorem ggX8_hiccups_X8_hiccupsOf : GoodIn wsX8_hiccups wsX8_hiccupsOf := goodIn_r _ [11, 12, 13, 14, 15, 3, 16, 17, 18, 19, 20, 21, 22, 23, 24, 25, 26, 27, 28, 29, 30, 31, 32, 33, 34, 35, 36, 5, 6, 7, 37, 38, 39, 40, 41, 42, 43, 44, 45, 46, 47, 48, 49, 50, 51, 52, 53, 54, 55, 56, 57, 58, 59, 60, 61, 62, 63, 64, 65, 66, 67, 68, 69] (by decide +kernel) (by decide +kernel)
set_option maxRecDepth 20000 in
theorem gX8_hiccups_X8_hiccupsOf : GoodIn wsX8_hiccups (wsV RX8 131 RX8 yX8_hiccupsOf wsX8_hiccupsOf) := goodIn_app (goodIn_of _ (by decide +kernel)) ggX8_hiccups_X8_hiccupsOf
theorem dX8_hiccups_0 : decode cX8_hiccups 0 = .ok (.iload_n 1, 1) := by decide +kernel
theorem dX8_hiccups_1 : decode cX8_hiccups 1 = .ok (.invokestatic 75, 3) := by decide +kernel
theorem dX8_hiccups_4 : decode cX8_hiccups 4 = .ok (.ifCond .eq 11, 3) := by decide +kernel
theorem dX8_hiccups_7 : decode cX8_hiccups 7 = .ok (.aload_n 0, 1) := by decide +kernel
theorem dX8_hiccups_8 : decode cX8_hiccups 8 = .ok (.iload_n 1, 1) := by decide +kernel
theorem dX8_hiccups_9 : decode cX8_hiccups 9 = .ok (.invokevirtual 131, 3) := by decide +kernel
theorem dX8_hiccups_12 : decode cX8_hiccups 12 = .ok (.goto 5, 3) := by decide +kernel
theorem dX8_hiccups_15 : decode cX8_hiccups 15 = .ok (.bipush (-2), 2) := by decide +kernel
theorem dX8_hiccups_17 : decode cX8_hiccups 17 = .ok (.ireturn, 1) := by decide +kernel
set_option maxRecDepth 20000 in
theorem ggX8_brokenBy_X8_laysAll : GoodIn wsX8_brokenBy wsX8_laysAll := goodIn_r _ [7, 8, 9, 10, 6, 11, 12, 1, 13, 14, 15, 16, 17, 18, 19, 20, 21, 22, 23, 24, 25, 26, 27, 28, 29, 30, 31, 32, 33, 34, 35, 36, 37, 38, 39, 40, 41, 42, 43, 44, 45, 46, 47, 48, 49, 50, 51, 52, 53, 54, 55, 56, 57, 58, 59, 60, 61, 62, 63] (by decide +kernel) (by decide +kernel)
set_option maxRecDepth 20000 in
theorem gX8_brokenBy_X8_laysAll : GoodIn wsX8_brokenBy (wsV RX8 119 RX8 yX8_laysAll wsX8_laysAll) := goodIn_app (goodIn_of _ (by decide +kernel)) ggX8_brokenBy_X8_laysAll
theorem dX8_brokenBy_0 : decode cX8_brokenBy 0 = .ok (.aload_n 0, 1) := by decide +kernel
theorem dX8_brokenBy_1 : decode cX8_brokenBy 1 = .ok (.invokevirtual 119, 3) := by decide +kernel
theorem dX8_brokenBy_4 : decode cX8_brokenBy 4 = .ok (.aload_n 0, 1) := by decide +kernel
theorem dX8_brokenBy_5 : decode cX8_brokenBy 5 = .ok (.getfield 31, 3) := by decide +kernel
theorem dX8_brokenBy_8 : decode cX8_brokenBy 8 = .ok (.iconst 0, 1) := by decide +kernel
theorem dX8_brokenBy_9 : decode cX8_brokenBy 9 = .ok (.iaload, 1) := by decide +kernel
theorem dX8_brokenBy_10 : decode cX8_brokenBy 10 = .ok (.istore_n 2, 1) := by decide +kernel
theorem dX8_brokenBy_11 : decode cX8_brokenBy 11 = .ok (.aload_n 0, 1) := by decide +kernel
theorem dX8_brokenBy_12 : decode cX8_brokenBy 12 = .ok (.getfield 31, 3) := by decide +kernel
theorem dX8_brokenBy_15 : decode cX8_brokenBy 15 = .ok (.iconst 1, 1) := by decide +kernel
theorem dX8_brokenBy_16 : decode cX8_brokenBy 16 = .ok (.iaload, 1) := by decide +kernel
theorem dX8_brokenBy_17 : decode cX8_brokenBy 17 = .ok (.istore_n 3, 1) := by decide +kernel
theorem dX8_brokenBy_18 : decode cX8_brokenBy 18 = .ok (.ldc 134, 2) := by decide +kernel
theorem dX8_brokenBy_20 : decode cX8_brokenBy 20 = .ok (.istore 4, 2) := by decide +kernel
theorem dX8_brokenBy_22 : decode cX8_brokenBy 22 = .ok (.iload_n 1, 1) := by decide +kernel
theorem dX8_brokenBy_23 : decode cX8_brokenBy 23 = .ok (.ifCond .ne 9, 3) := by decide +kernel
theorem dX8_brokenBy_26 : decode cX8_brokenBy 26 = .ok (.iload_n 2, 1) := by decide +kernel
theorem dX8_brokenBy_27 : decode cX8_brokenBy 27 = .ok (.iload_n 3, 1) := by decide +kernel
theorem dX8_brokenBy_28 : decode cX8_brokenBy 28 = .ok (.iand, 1) := by decide +kernel
theorem dX8_brokenBy_29 : decode cX8_brokenBy 29 = .ok (.goto 32, 3) := by decide +kernel
theorem dX8_brokenBy_32 : decode cX8_brokenBy 32 = .ok (.iload_n 1, 1) := by decide +kernel
theorem dX8_brokenBy_33 : decode cX8_brokenBy 33 = .ok (.iconst 1, 1) := by decide +kernel
theorem dX8_brokenBy_34 : decode cX8_brokenBy 34 = .ok (.if_icmp .ne 9, 3) := by decide +kernel
theorem dX8_brokenBy_37 : decode cX8_brokenBy 37 = .ok (.iload_n 2, 1) := by decide +kernel
theorem dX8_brokenBy_38 : decode cX8_brokenBy 38 = .ok (.iload_n 3, 1) := by decide +kernel
theorem dX8_brokenBy_39 : decode cX8_brokenBy 39 = .ok (.ior, 1) := by decide +kernel
theorem dX8_brokenBy_40 : decode cX8_brokenBy 40 = .ok (.goto 21, 3) := by decide +kernel
theorem dX8_brokenBy_43 : decode cX8_brokenBy 43 = .ok (.iload_n 2, 1) := by decide +kernel
theorem dX8_brokenBy_44 : decode cX8_brokenBy 44 = .ok (.iload_n 3, 1) := by decide +kernel
theorem dX8_brokenBy_45 : decode cX8_brokenBy 45 = .ok (.iand, 1) := by decide +kernel
theorem dX8_brokenBy_46 : decode cX8_brokenBy 46 = .ok (.iload_n 2, 1) := by decide +kernel
theorem dX8_brokenBy_47 : decode cX8_brokenBy 47 = .ok (.iload_n 3, 1) := by decide +kernel
theorem dX8_brokenBy_48 : decode cX8_brokenBy 48 = .ok (.iconst 1, 1) := by decide +kernel
theorem dX8_brokenBy_49 : decode cX8_brokenBy 49 = .ok (.ishl, 1) := by decide +kernel
theorem dX8_brokenBy_50 : decode cX8_brokenBy 50 = .ok (.iand, 1) := by decide +kernel
theorem dX8_brokenBy_51 : decode cX8_brokenBy 51 = .ok (.ior, 1) := by decide +kernel
theorem dX8_brokenBy_52 : decode cX8_brokenBy 52 = .ok (.iload_n 3, 1) := by decide +kernel
theorem dX8_brokenBy_53 : decode cX8_brokenBy 53 = .ok (.iload_n 2, 1) := by decide +kernel
theorem dX8_brokenBy_54 : decode cX8_brokenBy 54 = .ok (.iconst 1, 1) := by decide +kernel
theorem dX8_brokenBy_55 : decode cX8_brokenBy 55 = .ok (.ishl, 1) := by decide +kernel
theorem dX8_brokenBy_56 : decode cX8_brokenBy 56 = .ok (.iand, 1) := by decide +kernel
theorem dX8_brokenBy_57 : decode cX8_brokenBy 57 = .ok (.ior, 1) := by decide +kernel
theorem dX8_brokenBy_58 : decode cX8_brokenBy 58 = .ok (.iload 4, 2) := by decide +kernel
theorem dX8_brokenBy_60 : decode cX8_brokenBy 60 = .ok (.iand, 1) := by decide +kernel
theorem dX8_brokenBy_61 : decode cX8_brokenBy 61 = .ok (.ireturn, 1) := by decide +kernel
set_option maxRecDepth 20000 in
theorem ggX8_broken_X8_in : GoodIn wsX8_broken wsX8_in := goodIn_r _ [4] (by decide +kernel) (by decide +kernel)
set_option maxRecDepth 20000 in
theorem gX8_broken_X8_in : GoodIn wsX8_broken (va_wsS RX8 71 yX8_in wsX8_in) := goodIn_app (goodIn_of _ (by decide +kernel)) ggX8_broken_X8_in
set_option maxRecDepth 20000 in
theorem ggX8_broken_X8_brokenBy : GoodIn wsX8_broken wsX8_brokenBy := goodIn_r _ [8, 9, 10, 11, 12, 13, 3, 14, 15, 16, 17, 18, 19, 20, 21, 22, 23, 24, 25, 26, 27, 28, 29, 30, 31, 32, 33, 34, 1, 2, 4, 35, 36, 37, 38, 39, 40, 41, 42, 43, 44, 45, 46, 47, 48, 49, 50, 51, 52, 53, 54, 55, 56, 57, 58, 59, 60, 61, 62, 63, 64, 65, 66, 67] (by decide +kernel) (by decide +kernel)
set_option maxRecDepth 20000 in
theorem gX8_broken_X8_brokenBy : GoodIn wsX8_broken (wsV RX8 135 RX8 yX8_brokenBy wsX8_brokenBy) := goodIn_app (goodIn_of _ (by decide +kernel)) ggX8_broken_X8_brokenBy
theorem dX8_broken_0 : decode cX8_broken 0 = .ok (.iload_n 1, 1) := by decide +kernel
theorem dX8_broken_1 : decode cX8_broken 1 = .ok (.iconst 0, 1) := by decide +kernel
theorem dX8_broken_2 : decode cX8_broken 2 = .ok (.iconst 2, 1) := by decide +kernel
theorem dX8_broken_3 : decode cX8_broken 3 = .ok (.invokestatic 71, 3) := by decide +kernel
theorem dX8_broken_6 : decode cX8_broken 6 = .ok (.ifCond .eq 11, 3) := by decide +kernel
theorem dX8_broken_9 : decode cX8_broken 9 = .ok (.aload_n 0, 1) := by decide +kernel
theorem dX8_broken_10 : decode cX8_broken 10 = .ok (.iload_n 1, 1) := by decide +kernel
theorem dX8_broken_11 : decode cX8_broken 11 = .ok (.invokevirtual 135, 3) := by decide +kernel
theorem dX8_broken_14 : decode cX8_broken 14 = .ok (.goto 5, 3) := by decide +kernel
theorem dX8_broken_17 : decode cX8_broken 17 = .ok (.bipush (-2), 2) := by decide +kernel
theorem dX8_broken_19 : decode cX8_broken 19 = .ok (.ireturn, 1) := by decide +kernel
set_option maxRecDepth 20000 in
theorem ggX8_judgedNow_X8_brokenBy : GoodIn wsX8_judgedNow wsX8_brokenBy := goodIn_r _ [6, 7, 8, 9, 10, 11, 5, 12, 13, 14, 15, 16, 17, 18, 19, 20, 21, 22, 23, 24, 25, 26, 27, 28, 29, 30, 31, 32, 33, 34, 35, 36, 37, 38, 39, 40, 41, 42, 43, 44, 45, 49, 50, 51, 52, 53, 54, 55, 56, 57, 58, 59, 60, 61, 62, 63, 64, 65, 66, 67, 68, 69, 70, 71] (by decide +kernel) (by decide +kernel)
set_option maxRecDepth 20000 in
theorem gX8_judgedNow_X8_brokenBy : GoodIn wsX8_judgedNow (wsV RX8 135 RX8 yX8_brokenBy wsX8_brokenBy) := goodIn_app (goodIn_of _ (by decide +kernel)) ggX8_judgedNow_X8_brokenBy
set_option maxRecDepth 20000 in
theorem ggX8_judgedNow_X8_isIn : GoodIn wsX8_judgedNow wsX8_isIn := goodIn_r _ [48] (by decide +kernel) (by decide +kernel)
set_option maxRecDepth 20000 in
theorem gX8_judgedNow_X8_isIn : GoodIn wsX8_judgedNow (va_wsS RX8 138 yX8_isIn wsX8_isIn) := goodIn_app (goodIn_of _ (by decide +kernel)) ggX8_judgedNow_X8_isIn
theorem dX8_judgedNow_0 : decode cX8_judgedNow 0 = .ok (.aload_n 0, 1) := by decide +kernel
theorem dX8_judgedNow_1 : decode cX8_judgedNow 1 = .ok (.aload_n 0, 1) := by decide +kernel
theorem dX8_judgedNow_2 : decode cX8_judgedNow 2 = .ok (.getfield 89, 3) := by decide +kernel
theorem dX8_judgedNow_5 : decode cX8_judgedNow 5 = .ok (.invokevirtual 135, 3) := by decide +kernel
theorem dX8_judgedNow_8 : decode cX8_judgedNow 8 = .ok (.istore_n 1, 1) := by decide +kernel
theorem dX8_judgedNow_9 : decode cX8_judgedNow 9 = .ok (.iconst 0, 1) := by decide +kernel
theorem dX8_judgedNow_10 : decode cX8_judgedNow 10 = .ok (.istore_n 2, 1) := by decide +kernel
theorem dX8_judgedNow_11 : decode cX8_judgedNow 11 = .ok (.iload_n 2, 1) := by decide +kernel
theorem dX8_judgedNow_12 : decode cX8_judgedNow 12 = .ok (.bipush 24, 2) := by decide +kernel
theorem dX8_judgedNow_14 : decode cX8_judgedNow 14 = .ok (.if_icmp .ge 19, 3) := by decide +kernel
theorem dX8_judgedNow_17 : decode cX8_judgedNow 17 = .ok (.iload_n 1, 1) := by decide +kernel
theorem dX8_judgedNow_18 : decode cX8_judgedNow 18 = .ok (.iload_n 2, 1) := by decide +kernel
theorem dX8_judgedNow_19 : decode cX8_judgedNow 19 = .ok (.invokestatic 138, 3) := by decide +kernel
theorem dX8_judgedNow_22 : decode cX8_judgedNow 22 = .ok (.ifCond .eq 5, 3) := by decide +kernel
theorem dX8_judgedNow_25 : decode cX8_judgedNow 25 = .ok (.iload_n 2, 1) := by decide +kernel
theorem dX8_judgedNow_26 : decode cX8_judgedNow 26 = .ok (.ireturn, 1) := by decide +kernel
theorem dX8_judgedNow_27 : decode cX8_judgedNow 27 = .ok (.iinc 2 1, 3) := by decide +kernel
theorem dX8_judgedNow_30 : decode cX8_judgedNow 30 = .ok (.goto (-19), 3) := by decide +kernel
theorem dX8_judgedNow_33 : decode cX8_judgedNow 33 = .ok (.iconst (-1), 1) := by decide +kernel
theorem dX8_judgedNow_34 : decode cX8_judgedNow 34 = .ok (.ireturn, 1) := by decide +kernel
set_option maxRecDepth 20000 in
theorem ggX8_judged_X8_judgedNow : GoodIn wsX8_judged wsX8_judgedNow := goodIn_r _ [5, 6, 7, 8, 9, 4, 10, 11, 12, 13, 14, 15, 16, 17, 18, 19, 20, 21, 22, 23, 24, 25, 26, 27, 28, 29, 30, 31, 32, 33, 34, 35, 36, 37, 38, 39, 40, 41, 42, 43, 44, 45, 46, 47, 48, 49, 50, 51, 52, 53, 54, 55, 56, 57, 58, 59, 60, 61, 62, 63, 64, 65, 66, 67, 68, 69, 70, 71, 72, 73, 74, 75] (by decide +kernel) (by decide +kernel)
set_option maxRecDepth 20000 in
theorem gX8_judged_X8_judgedNow : GoodIn wsX8_judged (wsV RX8 141 RX8 yX8_judgedNow wsX8_judgedNow) := goodIn_app (goodIn_of _ (by decide +kernel)) ggX8_judged_X8_judgedNow
theorem dX8_judged_0 : decode cX8_judged 0 = .ok (.aload_n 0, 1) := by decide +kernel
theorem dX8_judged_1 : decode cX8_judged 1 = .ok (.invokevirtual 141, 3) := by decide +kernel
theorem dX8_judged_4 : decode cX8_judged 4 = .ok (.ireturn, 1) := by decide +kernel
set_option maxRecDepth 20000 in
theorem ggX8_armisticeOf_X8_brokenBy : GoodIn wsX8_armisticeOf wsX8_brokenBy := goodIn_r _ [6, 7, 8, 9, 10, 11, 5, 12, 13, 14, 15, 16, 17, 18, 19, 20, 21, 22, 23, 24, 25, 26, 27, 28, 29, 30, 31, 32, 33, 34, 35, 36, 37, 38, 39, 40, 41, 42, 43, 44, 45, 49, 50, 51, 52, 53, 54, 55, 56, 57, 58, 59, 60, 61, 62, 63, 64, 65, 66, 67, 68, 69, 70, 71] (by decide +kernel) (by decide +kernel)
set_option maxRecDepth 20000 in
theorem gX8_armisticeOf_X8_brokenBy : GoodIn wsX8_armisticeOf (wsV RX8 135 RX8 yX8_brokenBy wsX8_brokenBy) := goodIn_app (goodIn_of _ (by decide +kernel)) ggX8_armisticeOf_X8_brokenBy
set_option maxRecDepth 20000 in
theorem ggX8_armisticeOf_X8_isIn : GoodIn wsX8_armisticeOf wsX8_isIn := goodIn_r _ [48] (by decide +kernel) (by decide +kernel)
set_option maxRecDepth 20000 in
theorem gX8_armisticeOf_X8_isIn : GoodIn wsX8_armisticeOf (va_wsS RX8 138 yX8_isIn wsX8_isIn) := goodIn_app (goodIn_of _ (by decide +kernel)) ggX8_armisticeOf_X8_isIn
theorem dX8_armisticeOf_0 : decode cX8_armisticeOf 0 = .ok (.aload_n 0, 1) := by decide +kernel
theorem dX8_armisticeOf_1 : decode cX8_armisticeOf 1 = .ok (.aload_n 0, 1) := by decide +kernel
theorem dX8_armisticeOf_2 : decode cX8_armisticeOf 2 = .ok (.getfield 89, 3) := by decide +kernel
theorem dX8_armisticeOf_5 : decode cX8_armisticeOf 5 = .ok (.invokevirtual 135, 3) := by decide +kernel
theorem dX8_armisticeOf_8 : decode cX8_armisticeOf 8 = .ok (.istore_n 2, 1) := by decide +kernel
theorem dX8_armisticeOf_9 : decode cX8_armisticeOf 9 = .ok (.iconst (-1), 1) := by decide +kernel
theorem dX8_armisticeOf_10 : decode cX8_armisticeOf 10 = .ok (.istore_n 3, 1) := by decide +kernel
theorem dX8_armisticeOf_11 : decode cX8_armisticeOf 11 = .ok (.iconst 0, 1) := by decide +kernel
theorem dX8_armisticeOf_12 : decode cX8_armisticeOf 12 = .ok (.istore 4, 2) := by decide +kernel
theorem dX8_armisticeOf_14 : decode cX8_armisticeOf 14 = .ok (.iconst 0, 1) := by decide +kernel
theorem dX8_armisticeOf_15 : decode cX8_armisticeOf 15 = .ok (.istore 5, 2) := by decide +kernel
theorem dX8_armisticeOf_17 : decode cX8_armisticeOf 17 = .ok (.iload 5, 2) := by decide +kernel
theorem dX8_armisticeOf_19 : decode cX8_armisticeOf 19 = .ok (.bipush 24, 2) := by decide +kernel
theorem dX8_armisticeOf_21 : decode cX8_armisticeOf 21 = .ok (.if_icmp .ge 70, 3) := by decide +kernel
theorem dX8_armisticeOf_24 : decode cX8_armisticeOf 24 = .ok (.iconst 0, 1) := by decide +kernel
theorem dX8_armisticeOf_25 : decode cX8_armisticeOf 25 = .ok (.istore 6, 2) := by decide +kernel
theorem dX8_armisticeOf_27 : decode cX8_armisticeOf 27 = .ok (.iload 5, 2) := by decide +kernel
theorem dX8_armisticeOf_29 : decode cX8_armisticeOf 29 = .ok (.iload 6, 2) := by decide +kernel
theorem dX8_armisticeOf_31 : decode cX8_armisticeOf 31 = .ok (.iadd, 1) := by decide +kernel
theorem dX8_armisticeOf_32 : decode cX8_armisticeOf 32 = .ok (.bipush 24, 2) := by decide +kernel
theorem dX8_armisticeOf_34 : decode cX8_armisticeOf 34 = .ok (.if_icmp .ge 21, 3) := by decide +kernel
theorem dX8_armisticeOf_37 : decode cX8_armisticeOf 37 = .ok (.iload_n 2, 1) := by decide +kernel
theorem dX8_armisticeOf_38 : decode cX8_armisticeOf 38 = .ok (.iload 5, 2) := by decide +kernel
theorem dX8_armisticeOf_40 : decode cX8_armisticeOf 40 = .ok (.iload 6, 2) := by decide +kernel
theorem dX8_armisticeOf_42 : decode cX8_armisticeOf 42 = .ok (.iadd, 1) := by decide +kernel
theorem dX8_armisticeOf_43 : decode cX8_armisticeOf 43 = .ok (.invokestatic 138, 3) := by decide +kernel
theorem dX8_armisticeOf_46 : decode cX8_armisticeOf 46 = .ok (.ifCond .ne 9, 3) := by decide +kernel
theorem dX8_armisticeOf_49 : decode cX8_armisticeOf 49 = .ok (.iinc 6 1, 3) := by decide +kernel
theorem dX8_armisticeOf_52 : decode cX8_armisticeOf 52 = .ok (.goto (-25), 3) := by decide +kernel
theorem dX8_armisticeOf_55 : decode cX8_armisticeOf 55 = .ok (.iload 6, 2) := by decide +kernel
theorem dX8_armisticeOf_57 : decode cX8_armisticeOf 57 = .ok (.iload 4, 2) := by decide +kernel
theorem dX8_armisticeOf_59 : decode cX8_armisticeOf 59 = .ok (.if_icmp .le 8, 3) := by decide +kernel
theorem dX8_armisticeOf_62 : decode cX8_armisticeOf 62 = .ok (.iload 5, 2) := by decide +kernel
theorem dX8_armisticeOf_64 : decode cX8_armisticeOf 64 = .ok (.goto 4, 3) := by decide +kernel
theorem dX8_armisticeOf_67 : decode cX8_armisticeOf 67 = .ok (.iload_n 3, 1) := by decide +kernel
theorem dX8_armisticeOf_68 : decode cX8_armisticeOf 68 = .ok (.istore_n 3, 1) := by decide +kernel
theorem dX8_armisticeOf_69 : decode cX8_armisticeOf 69 = .ok (.iload 6, 2) := by decide +kernel
theorem dX8_armisticeOf_71 : decode cX8_armisticeOf 71 = .ok (.iload 4, 2) := by decide +kernel
theorem dX8_armisticeOf_73 : decode cX8_armisticeOf 73 = .ok (.if_icmp .le 8, 3) := by decide +kernel
theorem dX8_armisticeOf_76 : decode cX8_armisticeOf 76 = .ok (.iload 6, 2) := by decide +kernel
theorem dX8_armisticeOf_78 : decode cX8_armisticeOf 78 = .ok (.goto 5, 3) := by decide +kernel
theorem dX8_armisticeOf_81 : decode cX8_armisticeOf 81 = .ok (.iload 4, 2) := by decide +kernel
theorem dX8_armisticeOf_83 : decode cX8_armisticeOf 83 = .ok (.istore 4, 2) := by decide +kernel
theorem dX8_armisticeOf_85 : decode cX8_armisticeOf 85 = .ok (.iinc 5 1, 3) := by decide +kernel
theorem dX8_armisticeOf_88 : decode cX8_armisticeOf 88 = .ok (.goto (-71), 3) := by decide +kernel
theorem dX8_armisticeOf_91 : decode cX8_armisticeOf 91 = .ok (.iload_n 1, 1) := by decide +kernel
theorem dX8_armisticeOf_92 : decode cX8_armisticeOf 92 = .ok (.ifCond .ne 7, 3) := by decide +kernel
theorem dX8_armisticeOf_95 : decode cX8_armisticeOf 95 = .ok (.iload_n 3, 1) := by decide +kernel
theorem dX8_armisticeOf_96 : decode cX8_armisticeOf 96 = .ok (.goto 5, 3) := by decide +kernel
theorem dX8_armisticeOf_99 : decode cX8_armisticeOf 99 = .ok (.iload 4, 2) := by decide +kernel
theorem dX8_armisticeOf_101 : decode cX8_armisticeOf 101 = .ok (.ireturn, 1) := by decide +kernel
set_option maxRecDepth 20000 in
theorem ggX8_armistice_X8_in : GoodIn wsX8_armistice wsX8_in := goodIn_r _ [4] (by decide +kernel) (by decide +kernel)
set_option maxRecDepth 20000 in
theorem gX8_armistice_X8_in : GoodIn wsX8_armistice (va_wsS RX8 71 yX8_in wsX8_in) := goodIn_app (goodIn_of _ (by decide +kernel)) ggX8_armistice_X8_in
set_option maxRecDepth 20000 in
theorem ggX8_armistice_X8_armisticeOf : GoodIn wsX8_armistice wsX8_armisticeOf := goodIn_r _ [8, 9, 10, 11, 12, 3, 13, 14, 15, 16, 17, 18, 19, 20, 21, 22, 23, 24, 25, 26, 27, 28, 29, 30, 31, 32, 33, 34, 35, 36, 37, 38, 39, 1, 2, 4, 40, 41, 42, 43, 44, 45, 46, 47, 48, 49, 50, 51, 52, 53, 54, 55, 56, 57, 58, 59, 60, 61, 62, 63, 64, 65, 66, 67, 68, 69, 70, 71, 72, 73, 74, 75] (by decide +kernel) (by decide +kernel)
set_option maxRecDepth 20000 in
theorem gX8_armistice_X8_armisticeOf : GoodIn wsX8_armistice (wsV RX8 145 RX8 yX8_armisticeOf wsX8_armisticeOf) := goodIn_app (goodIn_of _ (by decide +kernel)) ggX8_armistice_X8_armisticeOf
theorem dX8_armistice_0 : decode cX8_armistice 0 = .ok (.iload_n 1, 1) := by decide +kernel
theorem dX8_armistice_1 : decode cX8_armistice 1 = .ok (.iconst 0, 1) := by decide +kernel
theorem dX8_armistice_2 : decode cX8_armistice 2 = .ok (.iconst 1, 1) := by decide +kernel
theorem dX8_armistice_3 : decode cX8_armistice 3 = .ok (.invokestatic 71, 3) := by decide +kernel
theorem dX8_armistice_6 : decode cX8_armistice 6 = .ok (.ifCond .eq 11, 3) := by decide +kernel
theorem dX8_armistice_9 : decode cX8_armistice 9 = .ok (.aload_n 0, 1) := by decide +kernel
theorem dX8_armistice_10 : decode cX8_armistice 10 = .ok (.iload_n 1, 1) := by decide +kernel
theorem dX8_armistice_11 : decode cX8_armistice 11 = .ok (.invokevirtual 145, 3) := by decide +kernel
theorem dX8_armistice_14 : decode cX8_armistice 14 = .ok (.goto 5, 3) := by decide +kernel
theorem dX8_armistice_17 : decode cX8_armistice 17 = .ok (.bipush (-2), 2) := by decide +kernel
theorem dX8_armistice_19 : decode cX8_armistice 19 = .ok (.ireturn, 1) := by decide +kernel
set_option maxRecDepth 20000 in
theorem ggX8_ledOf_X8_laysAll : GoodIn wsX8_ledOf wsX8_laysAll := goodIn_r _ [9, 10, 11, 12, 8, 13, 4, 1, 14, 15, 2, 16, 17, 18, 19, 20, 21, 22, 23, 24, 25, 26, 27, 28, 29, 30, 31, 32, 33, 34, 35, 36, 37, 38, 39, 3, 43, 44, 45, 46, 47, 48, 49, 50, 51, 52, 53, 54, 55, 56, 57, 58, 59, 60, 61, 62, 63, 64, 65] (by decide +kernel) (by decide +kernel)
set_option maxRecDepth 20000 in
theorem gX8_ledOf_X8_laysAll : GoodIn wsX8_ledOf (wsV RX8 119 RX8 yX8_laysAll wsX8_laysAll) := goodIn_app (goodIn_of _ (by decide +kernel)) ggX8_ledOf_X8_laysAll
set_option maxRecDepth 20000 in
theorem ggX8_ledOf_X8_isIn : GoodIn wsX8_ledOf wsX8_isIn := goodIn_r _ [42] (by decide +kernel) (by decide +kernel)
set_option maxRecDepth 20000 in
theorem gX8_ledOf_X8_isIn : GoodIn wsX8_ledOf (va_wsS RX8 138 yX8_isIn wsX8_isIn) := goodIn_app (goodIn_of _ (by decide +kernel)) ggX8_ledOf_X8_isIn
theorem dX8_ledOf_0 : decode cX8_ledOf 0 = .ok (.aload_n 0, 1) := by decide +kernel
theorem dX8_ledOf_1 : decode cX8_ledOf 1 = .ok (.invokevirtual 119, 3) := by decide +kernel
theorem dX8_ledOf_4 : decode cX8_ledOf 4 = .ok (.aload_n 0, 1) := by decide +kernel
theorem dX8_ledOf_5 : decode cX8_ledOf 5 = .ok (.getfield 31, 3) := by decide +kernel
theorem dX8_ledOf_8 : decode cX8_ledOf 8 = .ok (.iload_n 1, 1) := by decide +kernel
theorem dX8_ledOf_9 : decode cX8_ledOf 9 = .ok (.iaload, 1) := by decide +kernel
theorem dX8_ledOf_10 : decode cX8_ledOf 10 = .ok (.iload_n 2, 1) := by decide +kernel
theorem dX8_ledOf_11 : decode cX8_ledOf 11 = .ok (.invokestatic 138, 3) := by decide +kernel
theorem dX8_ledOf_14 : decode cX8_ledOf 14 = .ok (.ifCond .ne 6, 3) := by decide +kernel
theorem dX8_ledOf_17 : decode cX8_ledOf 17 = .ok (.bipush (-3), 2) := by decide +kernel
theorem dX8_ledOf_19 : decode cX8_ledOf 19 = .ok (.ireturn, 1) := by decide +kernel
theorem dX8_ledOf_20 : decode cX8_ledOf 20 = .ok (.iload_n 2, 1) := by decide +kernel
theorem dX8_ledOf_21 : decode cX8_ledOf 21 = .ok (.istore_n 3, 1) := by decide +kernel
theorem dX8_ledOf_22 : decode cX8_ledOf 22 = .ok (.iload_n 3, 1) := by decide +kernel
theorem dX8_ledOf_23 : decode cX8_ledOf 23 = .ok (.ifCond .le 29, 3) := by decide +kernel
theorem dX8_ledOf_26 : decode cX8_ledOf 26 = .ok (.aload_n 0, 1) := by decide +kernel
theorem dX8_ledOf_27 : decode cX8_ledOf 27 = .ok (.getfield 28, 3) := by decide +kernel
theorem dX8_ledOf_30 : decode cX8_ledOf 30 = .ok (.bipush 24, 2) := by decide +kernel
theorem dX8_ledOf_32 : decode cX8_ledOf 32 = .ok (.iload_n 1, 1) := by decide +kernel
theorem dX8_ledOf_33 : decode cX8_ledOf 33 = .ok (.imul, 1) := by decide +kernel
theorem dX8_ledOf_34 : decode cX8_ledOf 34 = .ok (.iload_n 3, 1) := by decide +kernel
theorem dX8_ledOf_35 : decode cX8_ledOf 35 = .ok (.iadd, 1) := by decide +kernel
theorem dX8_ledOf_36 : decode cX8_ledOf 36 = .ok (.iconst 1, 1) := by decide +kernel
theorem dX8_ledOf_37 : decode cX8_ledOf 37 = .ok (.isub, 1) := by decide +kernel
theorem dX8_ledOf_38 : decode cX8_ledOf 38 = .ok (.iaload, 1) := by decide +kernel
theorem dX8_ledOf_39 : decode cX8_ledOf 39 = .ok (.aload_n 0, 1) := by decide +kernel
theorem dX8_ledOf_40 : decode cX8_ledOf 40 = .ok (.getfield 65, 3) := by decide +kernel
theorem dX8_ledOf_43 : decode cX8_ledOf 43 = .ok (.if_icmp .lt 9, 3) := by decide +kernel
theorem dX8_ledOf_46 : decode cX8_ledOf 46 = .ok (.iinc 3 (-1), 3) := by decide +kernel
theorem dX8_ledOf_49 : decode cX8_ledOf 49 = .ok (.goto (-27), 3) := by decide +kernel
theorem dX8_ledOf_52 : decode cX8_ledOf 52 = .ok (.iload_n 3, 1) := by decide +kernel
theorem dX8_ledOf_53 : decode cX8_ledOf 53 = .ok (.ifCond .ne 20, 3) := by decide +kernel
theorem dX8_ledOf_56 : decode cX8_ledOf 56 = .ok (.aload_n 0, 1) := by decide +kernel
theorem dX8_ledOf_57 : decode cX8_ledOf 57 = .ok (.getfield 16, 3) := by decide +kernel
theorem dX8_ledOf_60 : decode cX8_ledOf 60 = .ok (.iload_n 1, 1) := by decide +kernel
theorem dX8_ledOf_61 : decode cX8_ledOf 61 = .ok (.iaload, 1) := by decide +kernel
theorem dX8_ledOf_62 : decode cX8_ledOf 62 = .ok (.aload_n 0, 1) := by decide +kernel
theorem dX8_ledOf_63 : decode cX8_ledOf 63 = .ok (.getfield 65, 3) := by decide +kernel
theorem dX8_ledOf_66 : decode cX8_ledOf 66 = .ok (.if_icmp .lt 7, 3) := by decide +kernel
theorem dX8_ledOf_69 : decode cX8_ledOf 69 = .ok (.iconst (-1), 1) := by decide +kernel
theorem dX8_ledOf_70 : decode cX8_ledOf 70 = .ok (.goto 4, 3) := by decide +kernel
theorem dX8_ledOf_73 : decode cX8_ledOf 73 = .ok (.iload_n 3, 1) := by decide +kernel
theorem dX8_ledOf_74 : decode cX8_ledOf 74 = .ok (.ireturn, 1) := by decide +kernel
set_option maxRecDepth 20000 in
theorem ggX8_led_X8_isGeneral : GoodIn wsX8_led wsX8_isGeneral := goodIn_r _ [4, 5, 6, 3, 7] (by decide +kernel) (by decide +kernel)
set_option maxRecDepth 20000 in
theorem gX8_led_X8_isGeneral : GoodIn wsX8_led (va_wsS RX8 75 yX8_isGeneral wsX8_isGeneral) := goodIn_app (goodIn_of _ (by decide +kernel)) ggX8_led_X8_isGeneral
set_option maxRecDepth 20000 in
theorem ggX8_led_X8_isHour : GoodIn wsX8_led wsX8_isHour := goodIn_r _ [10, 5, 6, 3, 7] (by decide +kernel) (by decide +kernel)
set_option maxRecDepth 20000 in
theorem gX8_led_X8_isHour : GoodIn wsX8_led (va_wsS RX8 122 yX8_isHour wsX8_isHour) := goodIn_app (goodIn_of _ (by decide +kernel)) ggX8_led_X8_isHour
set_option maxRecDepth 20000 in
theorem ggX8_led_X8_ledOf : GoodIn wsX8_led wsX8_ledOf := goodIn_r _ [14, 15, 16, 17, 18, 19, 20, 21, 3, 22, 23, 24, 25, 26, 27, 28, 29, 30, 31, 32, 33, 34, 35, 36, 37, 38, 39, 40, 5, 6, 7, 41, 42, 43, 44, 45, 46, 47, 48, 49, 50, 51, 52, 53, 54, 55, 56, 57, 58, 59, 60, 61, 62, 63, 64, 65, 66, 67, 68, 69, 70, 71, 72, 73, 74, 75] (by decide +kernel) (by decide +kernel)
set_option maxRecDepth 20000 in
theorem gX8_led_X8_ledOf : GoodIn wsX8_led (wsV RX8 148 RX8 yX8_ledOf wsX8_ledOf) := goodIn_app (goodIn_of _ (by decide +kernel)) ggX8_led_X8_ledOf
theorem dX8_led_0 : decode cX8_led 0 = .ok (.iload_n 1, 1) := by decide +kernel
theorem dX8_led_1 : decode cX8_led 1 = .ok (.invokestatic 75, 3) := by decide +kernel
theorem dX8_led_4 : decode cX8_led 4 = .ok (.ifCond .eq 19, 3) := by decide +kernel
theorem dX8_led_7 : decode cX8_led 7 = .ok (.iload_n 2, 1) := by decide +kernel
theorem dX8_led_8 : decode cX8_led 8 = .ok (.invokestatic 122, 3) := by decide +kernel
theorem dX8_led_11 : decode cX8_led 11 = .ok (.ifCond .eq 12, 3) := by decide +kernel
theorem dX8_led_14 : decode cX8_led 14 = .ok (.aload_n 0, 1) := by decide +kernel
theorem dX8_led_15 : decode cX8_led 15 = .ok (.iload_n 1, 1) := by decide +kernel
theorem dX8_led_16 : decode cX8_led 16 = .ok (.iload_n 2, 1) := by decide +kernel
theorem dX8_led_17 : decode cX8_led 17 = .ok (.invokevirtual 148, 3) := by decide +kernel
theorem dX8_led_20 : decode cX8_led 20 = .ok (.goto 5, 3) := by decide +kernel
theorem dX8_led_23 : decode cX8_led 23 = .ok (.bipush (-2), 2) := by decide +kernel
theorem dX8_led_25 : decode cX8_led 25 = .ok (.ireturn, 1) := by decide +kernel
theorem dX8_sixteenths_0 : decode cX8_sixteenths 0 = .ok (.aload_n 0, 1) := by decide +kernel
theorem dX8_sixteenths_1 : decode cX8_sixteenths 1 = .ok (.getfield 25, 3) := by decide +kernel
theorem dX8_sixteenths_4 : decode cX8_sixteenths 4 = .ok (.bipush 24, 2) := by decide +kernel
theorem dX8_sixteenths_6 : decode cX8_sixteenths 6 = .ok (.iload_n 1, 1) := by decide +kernel
theorem dX8_sixteenths_7 : decode cX8_sixteenths 7 = .ok (.imul, 1) := by decide +kernel
theorem dX8_sixteenths_8 : decode cX8_sixteenths 8 = .ok (.iload_n 2, 1) := by decide +kernel
theorem dX8_sixteenths_9 : decode cX8_sixteenths 9 = .ok (.iadd, 1) := by decide +kernel
theorem dX8_sixteenths_10 : decode cX8_sixteenths 10 = .ok (.iaload, 1) := by decide +kernel
theorem dX8_sixteenths_11 : decode cX8_sixteenths 11 = .ok (.iconst 5, 1) := by decide +kernel
theorem dX8_sixteenths_12 : decode cX8_sixteenths 12 = .ok (.if_icmp .ne 7, 3) := by decide +kernel
theorem dX8_sixteenths_15 : decode cX8_sixteenths 15 = .ok (.iconst 0, 1) := by decide +kernel
theorem dX8_sixteenths_16 : decode cX8_sixteenths 16 = .ok (.goto 14, 3) := by decide +kernel
theorem dX8_sixteenths_19 : decode cX8_sixteenths 19 = .ok (.aload_n 0, 1) := by decide +kernel
theorem dX8_sixteenths_20 : decode cX8_sixteenths 20 = .ok (.getfield 28, 3) := by decide +kernel
theorem dX8_sixteenths_23 : decode cX8_sixteenths 23 = .ok (.bipush 24, 2) := by decide +kernel
theorem dX8_sixteenths_25 : decode cX8_sixteenths 25 = .ok (.iload_n 1, 1) := by decide +kernel
theorem dX8_sixteenths_26 : decode cX8_sixteenths 26 = .ok (.imul, 1) := by decide +kernel
theorem dX8_sixteenths_27 : decode cX8_sixteenths 27 = .ok (.iload_n 2, 1) := by decide +kernel
theorem dX8_sixteenths_28 : decode cX8_sixteenths 28 = .ok (.iadd, 1) := by decide +kernel
theorem dX8_sixteenths_29 : decode cX8_sixteenths 29 = .ok (.iaload, 1) := by decide +kernel
theorem dX8_sixteenths_30 : decode cX8_sixteenths 30 = .ok (.ireturn, 1) := by decide +kernel
set_option maxRecDepth 20000 in
theorem ggX8_oddsOf_X8_laysAll : GoodIn wsX8_oddsOf wsX8_laysAll := goodIn_r _ [6, 7, 8, 9, 5, 10, 11, 12, 13, 14, 15, 16, 17, 18, 19, 20, 21, 22, 23, 24, 25, 26, 27, 28, 29, 30, 31, 32, 33, 34, 35, 36, 37, 38, 39, 40, 48, 49, 50, 51, 52, 53, 54, 55, 56, 57, 58, 59, 60, 61, 62, 63, 64, 65, 66, 67, 68, 69, 70] (by decide +kernel) (by decide +kernel)
set_option maxRecDepth 20000 in
theorem gX8_oddsOf_X8_laysAll : GoodIn wsX8_oddsOf (wsV RX8 119 RX8 yX8_laysAll wsX8_laysAll) := goodIn_app (goodIn_of _ (by decide +kernel)) ggX8_oddsOf_X8_laysAll
set_option maxRecDepth 20000 in
theorem ggX8_oddsOf_X8_sixteenths : GoodIn wsX8_oddsOf wsX8_sixteenths := goodIn_r _ [44, 14, 15, 48, 49, 50, 51, 52, 53, 54, 55, 56, 57, 58, 59, 60, 61, 62, 63, 64, 65, 66, 67, 68, 69, 70] (by decide +kernel) (by decide +kernel)
set_option maxRecDepth 20000 in
theorem gX8_oddsOf_X8_sixteenths : GoodIn wsX8_oddsOf (wsV RX8 151 RX8 yX8_sixteenths wsX8_sixteenths) := goodIn_app (goodIn_of _ (by decide +kernel)) ggX8_oddsOf_X8_sixteenths
set_option maxRecDepth 20000 in
theorem ggX8_oddsOf_X8_lowest : GoodIn wsX8_oddsOf wsX8_lowest := goodIn_r _ [47] (by decide +kernel) (by decide +kernel)
set_option maxRecDepth 20000 in
theorem gX8_oddsOf_X8_lowest : GoodIn wsX8_oddsOf (va_wsS RX8 156 yX8_lowest wsX8_lowest) := goodIn_app (goodIn_of _ (by decide +kernel)) ggX8_oddsOf_X8_lowest
theorem dX8_oddsOf_0 : decode cX8_oddsOf 0 = .ok (.aload_n 0, 1) := by decide +kernel
theorem dX8_oddsOf_1 : decode cX8_oddsOf 1 = .ok (.invokevirtual 119, 3) := by decide +kernel
theorem dX8_oddsOf_4 : decode cX8_oddsOf 4 = .ok (.lconst 1, 1) := by decide +kernel
theorem dX8_oddsOf_5 : decode cX8_oddsOf 5 = .ok (.lstore 4, 2) := by decide +kernel
theorem dX8_oddsOf_7 : decode cX8_oddsOf 7 = .ok (.lconst 1, 1) := by decide +kernel
theorem dX8_oddsOf_8 : decode cX8_oddsOf 8 = .ok (.lstore 6, 2) := by decide +kernel
theorem dX8_oddsOf_10 : decode cX8_oddsOf 10 = .ok (.iload_n 1, 1) := by decide +kernel
theorem dX8_oddsOf_11 : decode cX8_oddsOf 11 = .ok (.istore 8, 2) := by decide +kernel
theorem dX8_oddsOf_13 : decode cX8_oddsOf 13 = .ok (.iload 8, 2) := by decide +kernel
theorem dX8_oddsOf_15 : decode cX8_oddsOf 15 = .ok (.iload_n 1, 1) := by decide +kernel
theorem dX8_oddsOf_16 : decode cX8_oddsOf 16 = .ok (.iload_n 2, 1) := by decide +kernel
theorem dX8_oddsOf_17 : decode cX8_oddsOf 17 = .ok (.iadd, 1) := by decide +kernel
theorem dX8_oddsOf_18 : decode cX8_oddsOf 18 = .ok (.if_icmp .ge 42, 3) := by decide +kernel
theorem dX8_oddsOf_21 : decode cX8_oddsOf 21 = .ok (.lload 4, 2) := by decide +kernel
theorem dX8_oddsOf_23 : decode cX8_oddsOf 23 = .ok (.sipush 256, 3) := by decide +kernel
theorem dX8_oddsOf_26 : decode cX8_oddsOf 26 = .ok (.aload_n 0, 1) := by decide +kernel
theorem dX8_oddsOf_27 : decode cX8_oddsOf 27 = .ok (.iconst 0, 1) := by decide +kernel
theorem dX8_oddsOf_28 : decode cX8_oddsOf 28 = .ok (.iload 8, 2) := by decide +kernel
theorem dX8_oddsOf_30 : decode cX8_oddsOf 30 = .ok (.invokevirtual 151, 3) := by decide +kernel
theorem dX8_oddsOf_33 : decode cX8_oddsOf 33 = .ok (.aload_n 0, 1) := by decide +kernel
theorem dX8_oddsOf_34 : decode cX8_oddsOf 34 = .ok (.iconst 1, 1) := by decide +kernel
theorem dX8_oddsOf_35 : decode cX8_oddsOf 35 = .ok (.iload 8, 2) := by decide +kernel
theorem dX8_oddsOf_37 : decode cX8_oddsOf 37 = .ok (.invokevirtual 151, 3) := by decide +kernel
theorem dX8_oddsOf_40 : decode cX8_oddsOf 40 = .ok (.imul, 1) := by decide +kernel
theorem dX8_oddsOf_41 : decode cX8_oddsOf 41 = .ok (.isub, 1) := by decide +kernel
theorem dX8_oddsOf_42 : decode cX8_oddsOf 42 = .ok (.i2l, 1) := by decide +kernel
theorem dX8_oddsOf_43 : decode cX8_oddsOf 43 = .ok (.lmul, 1) := by decide +kernel
theorem dX8_oddsOf_44 : decode cX8_oddsOf 44 = .ok (.lstore 4, 2) := by decide +kernel
theorem dX8_oddsOf_46 : decode cX8_oddsOf 46 = .ok (.lload 6, 2) := by decide +kernel
theorem dX8_oddsOf_48 : decode cX8_oddsOf 48 = .ok (.ldc2_w 154, 3) := by decide +kernel
theorem dX8_oddsOf_51 : decode cX8_oddsOf 51 = .ok (.lmul, 1) := by decide +kernel
theorem dX8_oddsOf_52 : decode cX8_oddsOf 52 = .ok (.lstore 6, 2) := by decide +kernel
theorem dX8_oddsOf_54 : decode cX8_oddsOf 54 = .ok (.iinc 8 1, 3) := by decide +kernel
theorem dX8_oddsOf_57 : decode cX8_oddsOf 57 = .ok (.goto (-44), 3) := by decide +kernel
theorem dX8_oddsOf_60 : decode cX8_oddsOf 60 = .ok (.lload 4, 2) := by decide +kernel
theorem dX8_oddsOf_62 : decode cX8_oddsOf 62 = .ok (.lload 6, 2) := by decide +kernel
theorem dX8_oddsOf_64 : decode cX8_oddsOf 64 = .ok (.iload_n 3, 1) := by decide +kernel
theorem dX8_oddsOf_65 : decode cX8_oddsOf 65 = .ok (.invokestatic 156, 3) := by decide +kernel
theorem dX8_oddsOf_68 : decode cX8_oddsOf 68 = .ok (.lreturn, 1) := by decide +kernel
set_option maxRecDepth 20000 in
theorem ggX8_odds_X8_isHour : GoodIn wsX8_odds wsX8_isHour := goodIn_r _ [4, 5, 6, 3, 7] (by decide +kernel) (by decide +kernel)
set_option maxRecDepth 20000 in
theorem gX8_odds_X8_isHour : GoodIn wsX8_odds (va_wsS RX8 122 yX8_isHour wsX8_isHour) := goodIn_app (goodIn_of _ (by decide +kernel)) ggX8_odds_X8_isHour
set_option maxRecDepth 20000 in
theorem ggX8_odds_X8_in : GoodIn wsX8_odds wsX8_in := goodIn_r _ [7] (by decide +kernel) (by decide +kernel)
set_option maxRecDepth 20000 in
theorem gX8_odds_X8_in : GoodIn wsX8_odds (va_wsS RX8 71 yX8_in wsX8_in) := goodIn_app (goodIn_of _ (by decide +kernel)) ggX8_odds_X8_in
set_option maxRecDepth 20000 in
theorem ggX8_odds_X8_oddsOf : GoodIn wsX8_odds wsX8_oddsOf := goodIn_r _ [11, 12, 13, 14, 15, 3, 16, 17, 18, 19, 20, 21, 22, 23, 24, 25, 26, 27, 28, 29, 30, 31, 32, 33, 34, 35, 36, 37, 5, 6, 7, 38, 39, 40, 41, 42, 43, 44, 45, 46, 47, 48, 49, 50, 51, 52, 53, 54, 59, 60, 61, 62, 63, 64, 65, 66, 67, 68, 69, 70, 71, 72, 73, 74, 75, 76, 77, 78, 79, 80, 81] (by decide +kernel) (by decide +kernel)
set_option maxRecDepth 20000 in
theorem gX8_odds_X8_oddsOf : GoodIn wsX8_odds (wsV RX8 160 RX8 yX8_oddsOf wsX8_oddsOf) := goodIn_app (goodIn_of _ (by decide +kernel)) ggX8_odds_X8_oddsOf
set_option maxRecDepth 20000 in
theorem ggX8_odds_X8_no : GoodIn wsX8_odds wsX8_no := goodIn_r _ [57, 58] (by decide +kernel) (by decide +kernel)
set_option maxRecDepth 20000 in
theorem gX8_odds_X8_no : GoodIn wsX8_odds (va_wsS RX8 164 yX8_no wsX8_no) := goodIn_app (goodIn_of _ (by decide +kernel)) ggX8_odds_X8_no
theorem dX8_odds_0 : decode cX8_odds 0 = .ok (.iload_n 1, 1) := by decide +kernel
theorem dX8_odds_1 : decode cX8_odds 1 = .ok (.invokestatic 122, 3) := by decide +kernel
theorem dX8_odds_4 : decode cX8_odds 4 = .ok (.ifCond .eq 40, 3) := by decide +kernel
theorem dX8_odds_7 : decode cX8_odds 7 = .ok (.iload_n 2, 1) := by decide +kernel
theorem dX8_odds_8 : decode cX8_odds 8 = .ok (.iconst 0, 1) := by decide +kernel
theorem dX8_odds_9 : decode cX8_odds 9 = .ok (.bipush 7, 2) := by decide +kernel
theorem dX8_odds_11 : decode cX8_odds 11 = .ok (.invokestatic 71, 3) := by decide +kernel
theorem dX8_odds_14 : decode cX8_odds 14 = .ok (.ifCond .eq 30, 3) := by decide +kernel
theorem dX8_odds_17 : decode cX8_odds 17 = .ok (.iload_n 1, 1) := by decide +kernel
theorem dX8_odds_18 : decode cX8_odds 18 = .ok (.iload_n 2, 1) := by decide +kernel
theorem dX8_odds_19 : decode cX8_odds 19 = .ok (.iadd, 1) := by decide +kernel
theorem dX8_odds_20 : decode cX8_odds 20 = .ok (.bipush 24, 2) := by decide +kernel
theorem dX8_odds_22 : decode cX8_odds 22 = .ok (.if_icmp .gt 22, 3) := by decide +kernel
theorem dX8_odds_25 : decode cX8_odds 25 = .ok (.iload_n 3, 1) := by decide +kernel
theorem dX8_odds_26 : decode cX8_odds 26 = .ok (.iconst 0, 1) := by decide +kernel
theorem dX8_odds_27 : decode cX8_odds 27 = .ok (.iconst 1, 1) := by decide +kernel
theorem dX8_odds_28 : decode cX8_odds 28 = .ok (.invokestatic 71, 3) := by decide +kernel
theorem dX8_odds_31 : decode cX8_odds 31 = .ok (.ifCond .eq 13, 3) := by decide +kernel
theorem dX8_odds_34 : decode cX8_odds 34 = .ok (.aload_n 0, 1) := by decide +kernel
theorem dX8_odds_35 : decode cX8_odds 35 = .ok (.iload_n 1, 1) := by decide +kernel
theorem dX8_odds_36 : decode cX8_odds 36 = .ok (.iload_n 2, 1) := by decide +kernel
theorem dX8_odds_37 : decode cX8_odds 37 = .ok (.iload_n 3, 1) := by decide +kernel
theorem dX8_odds_38 : decode cX8_odds 38 = .ok (.invokevirtual 160, 3) := by decide +kernel
theorem dX8_odds_41 : decode cX8_odds 41 = .ok (.goto 8, 3) := by decide +kernel
theorem dX8_odds_44 : decode cX8_odds 44 = .ok (.bipush (-2), 2) := by decide +kernel
theorem dX8_odds_46 : decode cX8_odds 46 = .ok (.invokestatic 164, 3) := by decide +kernel
theorem dX8_odds_49 : decode cX8_odds 49 = .ok (.lreturn, 1) := by decide +kernel
set_option maxRecDepth 20000 in
theorem ggX8_heardOf_X8_laysAll : GoodIn wsX8_heardOf wsX8_laysAll := goodIn_r _ [6, 7, 8, 9, 5, 10, 11, 12, 13, 14, 15, 16, 17, 18, 19, 20, 21, 22, 23, 24, 25, 26, 27, 28, 29, 30, 31, 32, 33, 34, 35, 36, 37, 38, 39, 40, 45, 46, 47, 48, 49, 50, 51, 52, 53, 54, 55, 56, 57, 58, 59, 60, 61, 62, 63, 64, 65, 66, 67] (by decide +kernel) (by decide +kernel)
set_option maxRecDepth 20000 in
theorem gX8_heardOf_X8_laysAll : GoodIn wsX8_heardOf (wsV RX8 119 RX8 yX8_laysAll wsX8_laysAll) := goodIn_app (goodIn_of _ (by decide +kernel)) ggX8_heardOf_X8_laysAll
set_option maxRecDepth 20000 in
theorem ggX8_heardOf_X8_sixteenths : GoodIn wsX8_heardOf wsX8_sixteenths := goodIn_r _ [44, 14, 15, 45, 46, 47, 48, 49, 50, 51, 52, 53, 54, 55, 56, 57, 58, 59, 60, 61, 62, 63, 64, 65, 66, 67] (by decide +kernel) (by decide +kernel)
set_option maxRecDepth 20000 in
theorem gX8_heardOf_X8_sixteenths : GoodIn wsX8_heardOf (wsV RX8 151 RX8 yX8_sixteenths wsX8_sixteenths) := goodIn_app (goodIn_of _ (by decide +kernel)) ggX8_heardOf_X8_sixteenths
theorem dX8_heardOf_0 : decode cX8_heardOf 0 = .ok (.aload_n 0, 1) := by decide +kernel
theorem dX8_heardOf_1 : decode cX8_heardOf 1 = .ok (.invokevirtual 119, 3) := by decide +kernel
theorem dX8_heardOf_4 : decode cX8_heardOf 4 = .ok (.iload_n 2, 1) := by decide +kernel
theorem dX8_heardOf_5 : decode cX8_heardOf 5 = .ok (.istore_n 3, 1) := by decide +kernel
theorem dX8_heardOf_6 : decode cX8_heardOf 6 = .ok (.iconst 0, 1) := by decide +kernel
theorem dX8_heardOf_7 : decode cX8_heardOf 7 = .ok (.istore 4, 2) := by decide +kernel
theorem dX8_heardOf_9 : decode cX8_heardOf 9 = .ok (.iconst 0, 1) := by decide +kernel
theorem dX8_heardOf_10 : decode cX8_heardOf 10 = .ok (.istore 5, 2) := by decide +kernel
theorem dX8_heardOf_12 : decode cX8_heardOf 12 = .ok (.iload 5, 2) := by decide +kernel
theorem dX8_heardOf_14 : decode cX8_heardOf 14 = .ok (.bipush 24, 2) := by decide +kernel
theorem dX8_heardOf_16 : decode cX8_heardOf 16 = .ok (.if_icmp .ge 70, 3) := by decide +kernel
theorem dX8_heardOf_19 : decode cX8_heardOf 19 = .ok (.iconst 0, 1) := by decide +kernel
theorem dX8_heardOf_20 : decode cX8_heardOf 20 = .ok (.istore 6, 2) := by decide +kernel
theorem dX8_heardOf_22 : decode cX8_heardOf 22 = .ok (.iload 6, 2) := by decide +kernel
theorem dX8_heardOf_24 : decode cX8_heardOf 24 = .ok (.iconst 3, 1) := by decide +kernel
theorem dX8_heardOf_25 : decode cX8_heardOf 25 = .ok (.if_icmp .ge 55, 3) := by decide +kernel
theorem dX8_heardOf_28 : decode cX8_heardOf 28 = .ok (.ldc 168, 2) := by decide +kernel
theorem dX8_heardOf_30 : decode cX8_heardOf 30 = .ok (.iload_n 3, 1) := by decide +kernel
theorem dX8_heardOf_31 : decode cX8_heardOf 31 = .ok (.imul, 1) := by decide +kernel
theorem dX8_heardOf_32 : decode cX8_heardOf 32 = .ok (.sipush 12345, 3) := by decide +kernel
theorem dX8_heardOf_35 : decode cX8_heardOf 35 = .ok (.iadd, 1) := by decide +kernel
theorem dX8_heardOf_36 : decode cX8_heardOf 36 = .ok (.istore_n 3, 1) := by decide +kernel
theorem dX8_heardOf_37 : decode cX8_heardOf 37 = .ok (.iload 4, 2) := by decide +kernel
theorem dX8_heardOf_39 : decode cX8_heardOf 39 = .ok (.iload 6, 2) := by decide +kernel
theorem dX8_heardOf_41 : decode cX8_heardOf 41 = .ok (.iload_n 1, 1) := by decide +kernel
theorem dX8_heardOf_42 : decode cX8_heardOf 42 = .ok (.if_icmp .ne 28, 3) := by decide +kernel
theorem dX8_heardOf_45 : decode cX8_heardOf 45 = .ok (.iload_n 3, 1) := by decide +kernel
theorem dX8_heardOf_46 : decode cX8_heardOf 46 = .ok (.bipush 16, 2) := by decide +kernel
theorem dX8_heardOf_48 : decode cX8_heardOf 48 = .ok (.iushr, 1) := by decide +kernel
theorem dX8_heardOf_49 : decode cX8_heardOf 49 = .ok (.bipush 16, 2) := by decide +kernel
theorem dX8_heardOf_51 : decode cX8_heardOf 51 = .ok (.irem, 1) := by decide +kernel
theorem dX8_heardOf_52 : decode cX8_heardOf 52 = .ok (.aload_n 0, 1) := by decide +kernel
theorem dX8_heardOf_53 : decode cX8_heardOf 53 = .ok (.iload 6, 2) := by decide +kernel
theorem dX8_heardOf_55 : decode cX8_heardOf 55 = .ok (.iload 5, 2) := by decide +kernel
theorem dX8_heardOf_57 : decode cX8_heardOf 57 = .ok (.invokevirtual 151, 3) := by decide +kernel
theorem dX8_heardOf_60 : decode cX8_heardOf 60 = .ok (.if_icmp .ge 10, 3) := by decide +kernel
theorem dX8_heardOf_63 : decode cX8_heardOf 63 = .ok (.iconst 1, 1) := by decide +kernel
theorem dX8_heardOf_64 : decode cX8_heardOf 64 = .ok (.iload 5, 2) := by decide +kernel
theorem dX8_heardOf_66 : decode cX8_heardOf 66 = .ok (.ishl, 1) := by decide +kernel
theorem dX8_heardOf_67 : decode cX8_heardOf 67 = .ok (.goto 4, 3) := by decide +kernel
theorem dX8_heardOf_70 : decode cX8_heardOf 70 = .ok (.iconst 0, 1) := by decide +kernel
theorem dX8_heardOf_71 : decode cX8_heardOf 71 = .ok (.ior, 1) := by decide +kernel
theorem dX8_heardOf_72 : decode cX8_heardOf 72 = .ok (.istore 4, 2) := by decide +kernel
theorem dX8_heardOf_74 : decode cX8_heardOf 74 = .ok (.iinc 6 1, 3) := by decide +kernel
theorem dX8_heardOf_77 : decode cX8_heardOf 77 = .ok (.goto (-55), 3) := by decide +kernel
theorem dX8_heardOf_80 : decode cX8_heardOf 80 = .ok (.iinc 5 1, 3) := by decide +kernel
theorem dX8_heardOf_83 : decode cX8_heardOf 83 = .ok (.goto (-71), 3) := by decide +kernel
theorem dX8_heardOf_86 : decode cX8_heardOf 86 = .ok (.iload 4, 2) := by decide +kernel
theorem dX8_heardOf_88 : decode cX8_heardOf 88 = .ok (.ireturn, 1) := by decide +kernel
set_option maxRecDepth 20000 in
theorem ggX8_heard_X8_isGeneral : GoodIn wsX8_heard wsX8_isGeneral := goodIn_r _ [4, 5, 6, 3, 7] (by decide +kernel) (by decide +kernel)
set_option maxRecDepth 20000 in
theorem gX8_heard_X8_isGeneral : GoodIn wsX8_heard (va_wsS RX8 75 yX8_isGeneral wsX8_isGeneral) := goodIn_app (goodIn_of _ (by decide +kernel)) ggX8_heard_X8_isGeneral
set_option maxRecDepth 20000 in
theorem ggX8_heard_X8_heardOf : GoodIn wsX8_heard wsX8_heardOf := goodIn_r _ [11, 12, 13, 14, 15, 3, 16, 17, 18, 19, 20, 21, 22, 23, 24, 25, 26, 27, 28, 29, 30, 31, 32, 33, 34, 35, 36, 37, 5, 6, 7, 38, 39, 40, 41, 42, 43, 44, 45, 46, 47, 48, 49, 50, 51, 52, 53, 54, 55, 56, 57, 58, 59, 60, 61, 62, 63, 64, 65, 66, 67, 68, 69, 70, 71, 72, 73, 74] (by decide +kernel) (by decide +kernel)
set_option maxRecDepth 20000 in
theorem gX8_heard_X8_heardOf : GoodIn wsX8_heard (wsV RX8 169 RX8 yX8_heardOf wsX8_heardOf) := goodIn_app (goodIn_of _ (by decide +kernel)) ggX8_heard_X8_heardOf
theorem dX8_heard_0 : decode cX8_heard 0 = .ok (.iload_n 1, 1) := by decide +kernel
theorem dX8_heard_1 : decode cX8_heard 1 = .ok (.invokestatic 75, 3) := by decide +kernel
theorem dX8_heard_4 : decode cX8_heard 4 = .ok (.ifCond .eq 12, 3) := by decide +kernel
theorem dX8_heard_7 : decode cX8_heard 7 = .ok (.aload_n 0, 1) := by decide +kernel
theorem dX8_heard_8 : decode cX8_heard 8 = .ok (.iload_n 1, 1) := by decide +kernel
theorem dX8_heard_9 : decode cX8_heard 9 = .ok (.iload_n 2, 1) := by decide +kernel
theorem dX8_heard_10 : decode cX8_heard 10 = .ok (.invokevirtual 169, 3) := by decide +kernel
theorem dX8_heard_13 : decode cX8_heard 13 = .ok (.goto 5, 3) := by decide +kernel
theorem dX8_heard_16 : decode cX8_heard 16 = .ok (.bipush (-2), 2) := by decide +kernel
theorem dX8_heard_18 : decode cX8_heard 18 = .ok (.ireturn, 1) := by decide +kernel
set_option maxRecDepth 20000 in
theorem ggX8_quietOf_X8_laysAll : GoodIn wsX8_quietOf wsX8_laysAll := goodIn_r _ [11, 12, 13, 14, 10, 15, 5, 1, 16, 17, 6, 18, 19, 20, 21, 22, 23, 24, 25, 26, 27, 28, 29, 30, 31, 32, 33, 34, 35, 36, 37, 38, 39, 40, 41, 42, 52, 53, 54, 55, 56, 57, 58, 59, 60, 61, 62, 63, 64, 65, 66, 67, 68, 69, 70, 71, 72, 73, 74] (by decide +kernel) (by decide +kernel)
set_option maxRecDepth 20000 in
theorem gX8_quietOf_X8_laysAll : GoodIn wsX8_quietOf (wsV RX8 119 RX8 yX8_laysAll wsX8_laysAll) := goodIn_app (goodIn_of _ (by decide +kernel)) ggX8_quietOf_X8_laysAll
set_option maxRecDepth 20000 in
theorem ggX8_quietOf_X8_next : GoodIn wsX8_quietOf wsX8_next := goodIn_r _ [36, 37, 52, 53, 54, 55, 56, 57, 58, 59, 60, 61, 62, 63, 64, 65, 66, 67, 68, 69, 70, 71, 72, 73, 74] (by decide +kernel) (by decide +kernel)
set_option maxRecDepth 20000 in
theorem gX8_quietOf_X8_next : GoodIn wsX8_quietOf (wsV RX8 107 RX8 yX8_next wsX8_next) := goodIn_app (goodIn_of _ (by decide +kernel)) ggX8_quietOf_X8_next
set_option maxRecDepth 20000 in
theorem ggX8_quietOf_X8_isIn : GoodIn wsX8_quietOf wsX8_isIn := goodIn_r _ [45] (by decide +kernel) (by decide +kernel)
set_option maxRecDepth 20000 in
theorem gX8_quietOf_X8_isIn : GoodIn wsX8_quietOf (va_wsS RX8 138 yX8_isIn wsX8_isIn) := goodIn_app (goodIn_of _ (by decide +kernel)) ggX8_quietOf_X8_isIn
set_option maxRecDepth 20000 in
theorem ggX8_quietOf_X8_mayServe : GoodIn wsX8_quietOf wsX8_mayServe := goodIn_r _ [49, 50, 51, 33, 34, 35, 10, 36, 37, 38, 39, 40, 41, 42, 43, 44, 45, 52, 53, 54, 55, 56, 57, 58, 59, 60, 61, 62, 63, 64, 65, 66, 67, 68, 69, 70, 71, 72, 73, 74] (by decide +kernel) (by decide +kernel)
set_option maxRecDepth 20000 in
theorem gX8_quietOf_X8_mayServe : GoodIn wsX8_quietOf (wsV RX8 173 RX8 yX8_mayServe wsX8_mayServe) := goodIn_app (goodIn_of _ (by decide +kernel)) ggX8_quietOf_X8_mayServe
theorem dX8_quietOf_0 : decode cX8_quietOf 0 = .ok (.aload_n 0, 1) := by decide +kernel
theorem dX8_quietOf_1 : decode cX8_quietOf 1 = .ok (.invokevirtual 119, 3) := by decide +kernel
theorem dX8_quietOf_4 : decode cX8_quietOf 4 = .ok (.aload_n 0, 1) := by decide +kernel
theorem dX8_quietOf_5 : decode cX8_quietOf 5 = .ok (.getfield 31, 3) := by decide +kernel
theorem dX8_quietOf_8 : decode cX8_quietOf 8 = .ok (.iconst 1, 1) := by decide +kernel
theorem dX8_quietOf_9 : decode cX8_quietOf 9 = .ok (.iload_n 1, 1) := by decide +kernel
theorem dX8_quietOf_10 : decode cX8_quietOf 10 = .ok (.isub, 1) := by decide +kernel
theorem dX8_quietOf_11 : decode cX8_quietOf 11 = .ok (.iaload, 1) := by decide +kernel
theorem dX8_quietOf_12 : decode cX8_quietOf 12 = .ok (.istore 5, 2) := by decide +kernel
theorem dX8_quietOf_14 : decode cX8_quietOf 14 = .ok (.iconst 0, 1) := by decide +kernel
theorem dX8_quietOf_15 : decode cX8_quietOf 15 = .ok (.istore 6, 2) := by decide +kernel
theorem dX8_quietOf_17 : decode cX8_quietOf 17 = .ok (.iload 6, 2) := by decide +kernel
theorem dX8_quietOf_19 : decode cX8_quietOf 19 = .ok (.bipush 10, 2) := by decide +kernel
theorem dX8_quietOf_21 : decode cX8_quietOf 21 = .ok (.if_icmp .ge 24, 3) := by decide +kernel
theorem dX8_quietOf_24 : decode cX8_quietOf 24 = .ok (.aload_n 0, 1) := by decide +kernel
theorem dX8_quietOf_25 : decode cX8_quietOf 25 = .ok (.getfield 34, 3) := by decide +kernel
theorem dX8_quietOf_28 : decode cX8_quietOf 28 = .ok (.bipush 10, 2) := by decide +kernel
theorem dX8_quietOf_30 : decode cX8_quietOf 30 = .ok (.iload_n 3, 1) := by decide +kernel
theorem dX8_quietOf_31 : decode cX8_quietOf 31 = .ok (.iconst 1, 1) := by decide +kernel
theorem dX8_quietOf_32 : decode cX8_quietOf 32 = .ok (.iadd, 1) := by decide +kernel
theorem dX8_quietOf_33 : decode cX8_quietOf 33 = .ok (.imul, 1) := by decide +kernel
theorem dX8_quietOf_34 : decode cX8_quietOf 34 = .ok (.iload 6, 2) := by decide +kernel
theorem dX8_quietOf_36 : decode cX8_quietOf 36 = .ok (.iadd, 1) := by decide +kernel
theorem dX8_quietOf_37 : decode cX8_quietOf 37 = .ok (.iconst 0, 1) := by decide +kernel
theorem dX8_quietOf_38 : decode cX8_quietOf 38 = .ok (.iastore, 1) := by decide +kernel
theorem dX8_quietOf_39 : decode cX8_quietOf 39 = .ok (.iinc 6 1, 3) := by decide +kernel
theorem dX8_quietOf_42 : decode cX8_quietOf 42 = .ok (.goto (-25), 3) := by decide +kernel
theorem dX8_quietOf_45 : decode cX8_quietOf 45 = .ok (.iload_n 3, 1) := by decide +kernel
theorem dX8_quietOf_46 : decode cX8_quietOf 46 = .ok (.istore 6, 2) := by decide +kernel
theorem dX8_quietOf_48 : decode cX8_quietOf 48 = .ok (.iload 6, 2) := by decide +kernel
theorem dX8_quietOf_50 : decode cX8_quietOf 50 = .ok (.iload_n 2, 1) := by decide +kernel
theorem dX8_quietOf_51 : decode cX8_quietOf 51 = .ok (.if_icmp .lt 125, 3) := by decide +kernel
theorem dX8_quietOf_54 : decode cX8_quietOf 54 = .ok (.iconst 0, 1) := by decide +kernel
theorem dX8_quietOf_55 : decode cX8_quietOf 55 = .ok (.istore 7, 2) := by decide +kernel
theorem dX8_quietOf_57 : decode cX8_quietOf 57 = .ok (.iload 7, 2) := by decide +kernel
theorem dX8_quietOf_59 : decode cX8_quietOf 59 = .ok (.bipush 10, 2) := by decide +kernel
theorem dX8_quietOf_61 : decode cX8_quietOf 61 = .ok (.if_icmp .ge 109, 3) := by decide +kernel
theorem dX8_quietOf_64 : decode cX8_quietOf 64 = .ok (.ldc 172, 2) := by decide +kernel
theorem dX8_quietOf_66 : decode cX8_quietOf 66 = .ok (.istore 8, 2) := by decide +kernel
theorem dX8_quietOf_68 : decode cX8_quietOf 68 = .ok (.iconst 0, 1) := by decide +kernel
theorem dX8_quietOf_69 : decode cX8_quietOf 69 = .ok (.istore 9, 2) := by decide +kernel
theorem dX8_quietOf_71 : decode cX8_quietOf 71 = .ok (.iload 9, 2) := by decide +kernel
theorem dX8_quietOf_73 : decode cX8_quietOf 73 = .ok (.bipush 7, 2) := by decide +kernel
theorem dX8_quietOf_75 : decode cX8_quietOf 75 = .ok (.if_icmp .ge 74, 3) := by decide +kernel
theorem dX8_quietOf_78 : decode cX8_quietOf 78 = .ok (.aload_n 0, 1) := by decide +kernel
theorem dX8_quietOf_79 : decode cX8_quietOf 79 = .ok (.getfield 22, 3) := by decide +kernel
theorem dX8_quietOf_82 : decode cX8_quietOf 82 = .ok (.iload 9, 2) := by decide +kernel
theorem dX8_quietOf_84 : decode cX8_quietOf 84 = .ok (.iaload, 1) := by decide +kernel
theorem dX8_quietOf_85 : decode cX8_quietOf 85 = .ok (.aload_n 0, 1) := by decide +kernel
theorem dX8_quietOf_86 : decode cX8_quietOf 86 = .ok (.getfield 34, 3) := by decide +kernel
theorem dX8_quietOf_89 : decode cX8_quietOf 89 = .ok (.bipush 10, 2) := by decide +kernel
theorem dX8_quietOf_91 : decode cX8_quietOf 91 = .ok (.iload 6, 2) := by decide +kernel
theorem dX8_quietOf_93 : decode cX8_quietOf 93 = .ok (.iconst 1, 1) := by decide +kernel
theorem dX8_quietOf_94 : decode cX8_quietOf 94 = .ok (.iadd, 1) := by decide +kernel
theorem dX8_quietOf_95 : decode cX8_quietOf 95 = .ok (.imul, 1) := by decide +kernel
theorem dX8_quietOf_96 : decode cX8_quietOf 96 = .ok (.aload_n 0, 1) := by decide +kernel
theorem dX8_quietOf_97 : decode cX8_quietOf 97 = .ok (.iload 7, 2) := by decide +kernel
theorem dX8_quietOf_99 : decode cX8_quietOf 99 = .ok (.iload 9, 2) := by decide +kernel
theorem dX8_quietOf_101 : decode cX8_quietOf 101 = .ok (.invokevirtual 107, 3) := by decide +kernel
theorem dX8_quietOf_104 : decode cX8_quietOf 104 = .ok (.iadd, 1) := by decide +kernel
theorem dX8_quietOf_105 : decode cX8_quietOf 105 = .ok (.iaload, 1) := by decide +kernel
theorem dX8_quietOf_106 : decode cX8_quietOf 106 = .ok (.iadd, 1) := by decide +kernel
theorem dX8_quietOf_107 : decode cX8_quietOf 107 = .ok (.istore 10, 2) := by decide +kernel
theorem dX8_quietOf_109 : decode cX8_quietOf 109 = .ok (.aload_n 0, 1) := by decide +kernel
theorem dX8_quietOf_110 : decode cX8_quietOf 110 = .ok (.iload 7, 2) := by decide +kernel
theorem dX8_quietOf_112 : decode cX8_quietOf 112 = .ok (.iload 9, 2) := by decide +kernel
theorem dX8_quietOf_114 : decode cX8_quietOf 114 = .ok (.iload 5, 2) := by decide +kernel
theorem dX8_quietOf_116 : decode cX8_quietOf 116 = .ok (.iload 6, 2) := by decide +kernel
theorem dX8_quietOf_118 : decode cX8_quietOf 118 = .ok (.invokestatic 138, 3) := by decide +kernel
theorem dX8_quietOf_121 : decode cX8_quietOf 121 = .ok (.invokevirtual 173, 3) := by decide +kernel
theorem dX8_quietOf_124 : decode cX8_quietOf 124 = .ok (.ifCond .eq 15, 3) := by decide +kernel
theorem dX8_quietOf_127 : decode cX8_quietOf 127 = .ok (.iload 10, 2) := by decide +kernel
theorem dX8_quietOf_129 : decode cX8_quietOf 129 = .ok (.iload 8, 2) := by decide +kernel
theorem dX8_quietOf_131 : decode cX8_quietOf 131 = .ok (.if_icmp .ge 8, 3) := by decide +kernel
theorem dX8_quietOf_134 : decode cX8_quietOf 134 = .ok (.iload 10, 2) := by decide +kernel
theorem dX8_quietOf_136 : decode cX8_quietOf 136 = .ok (.goto 5, 3) := by decide +kernel
theorem dX8_quietOf_139 : decode cX8_quietOf 139 = .ok (.iload 8, 2) := by decide +kernel
theorem dX8_quietOf_141 : decode cX8_quietOf 141 = .ok (.istore 8, 2) := by decide +kernel
theorem dX8_quietOf_143 : decode cX8_quietOf 143 = .ok (.iinc 9 1, 3) := by decide +kernel
theorem dX8_quietOf_146 : decode cX8_quietOf 146 = .ok (.goto (-75), 3) := by decide +kernel
theorem dX8_quietOf_149 : decode cX8_quietOf 149 = .ok (.aload_n 0, 1) := by decide +kernel
theorem dX8_quietOf_150 : decode cX8_quietOf 150 = .ok (.getfield 34, 3) := by decide +kernel
theorem dX8_quietOf_153 : decode cX8_quietOf 153 = .ok (.bipush 10, 2) := by decide +kernel
theorem dX8_quietOf_155 : decode cX8_quietOf 155 = .ok (.iload 6, 2) := by decide +kernel
theorem dX8_quietOf_157 : decode cX8_quietOf 157 = .ok (.imul, 1) := by decide +kernel
theorem dX8_quietOf_158 : decode cX8_quietOf 158 = .ok (.iload 7, 2) := by decide +kernel
theorem dX8_quietOf_160 : decode cX8_quietOf 160 = .ok (.iadd, 1) := by decide +kernel
theorem dX8_quietOf_161 : decode cX8_quietOf 161 = .ok (.iload 8, 2) := by decide +kernel
theorem dX8_quietOf_163 : decode cX8_quietOf 163 = .ok (.iastore, 1) := by decide +kernel
theorem dX8_quietOf_164 : decode cX8_quietOf 164 = .ok (.iinc 7 1, 3) := by decide +kernel
theorem dX8_quietOf_167 : decode cX8_quietOf 167 = .ok (.goto (-110), 3) := by decide +kernel
theorem dX8_quietOf_170 : decode cX8_quietOf 170 = .ok (.iinc 6 (-1), 3) := by decide +kernel
theorem dX8_quietOf_173 : decode cX8_quietOf 173 = .ok (.goto (-125), 3) := by decide +kernel
theorem dX8_quietOf_176 : decode cX8_quietOf 176 = .ok (.iload_n 2, 1) := by decide +kernel
theorem dX8_quietOf_177 : decode cX8_quietOf 177 = .ok (.ifCond .ne 12, 3) := by decide +kernel
theorem dX8_quietOf_180 : decode cX8_quietOf 180 = .ok (.aload_n 0, 1) := by decide +kernel
theorem dX8_quietOf_181 : decode cX8_quietOf 181 = .ok (.getfield 16, 3) := by decide +kernel
theorem dX8_quietOf_184 : decode cX8_quietOf 184 = .ok (.iload_n 1, 1) := by decide +kernel
theorem dX8_quietOf_185 : decode cX8_quietOf 185 = .ok (.iaload, 1) := by decide +kernel
theorem dX8_quietOf_186 : decode cX8_quietOf 186 = .ok (.goto 16, 3) := by decide +kernel
theorem dX8_quietOf_189 : decode cX8_quietOf 189 = .ok (.aload_n 0, 1) := by decide +kernel
theorem dX8_quietOf_190 : decode cX8_quietOf 190 = .ok (.getfield 28, 3) := by decide +kernel
theorem dX8_quietOf_193 : decode cX8_quietOf 193 = .ok (.bipush 24, 2) := by decide +kernel
theorem dX8_quietOf_195 : decode cX8_quietOf 195 = .ok (.iload_n 1, 1) := by decide +kernel
theorem dX8_quietOf_196 : decode cX8_quietOf 196 = .ok (.imul, 1) := by decide +kernel
theorem dX8_quietOf_197 : decode cX8_quietOf 197 = .ok (.iload_n 2, 1) := by decide +kernel
theorem dX8_quietOf_198 : decode cX8_quietOf 198 = .ok (.iadd, 1) := by decide +kernel
theorem dX8_quietOf_199 : decode cX8_quietOf 199 = .ok (.iconst 1, 1) := by decide +kernel
theorem dX8_quietOf_200 : decode cX8_quietOf 200 = .ok (.isub, 1) := by decide +kernel
theorem dX8_quietOf_201 : decode cX8_quietOf 201 = .ok (.iaload, 1) := by decide +kernel
theorem dX8_quietOf_202 : decode cX8_quietOf 202 = .ok (.istore 6, 2) := by decide +kernel
theorem dX8_quietOf_204 : decode cX8_quietOf 204 = .ok (.aload_n 0, 1) := by decide +kernel
theorem dX8_quietOf_205 : decode cX8_quietOf 205 = .ok (.getfield 34, 3) := by decide +kernel
theorem dX8_quietOf_208 : decode cX8_quietOf 208 = .ok (.bipush 10, 2) := by decide +kernel
theorem dX8_quietOf_210 : decode cX8_quietOf 210 = .ok (.iload_n 2, 1) := by decide +kernel
theorem dX8_quietOf_211 : decode cX8_quietOf 211 = .ok (.imul, 1) := by decide +kernel
theorem dX8_quietOf_212 : decode cX8_quietOf 212 = .ok (.iload 6, 2) := by decide +kernel
theorem dX8_quietOf_214 : decode cX8_quietOf 214 = .ok (.iadd, 1) := by decide +kernel
theorem dX8_quietOf_215 : decode cX8_quietOf 215 = .ok (.iaload, 1) := by decide +kernel
theorem dX8_quietOf_216 : decode cX8_quietOf 216 = .ok (.istore 7, 2) := by decide +kernel
theorem dX8_quietOf_218 : decode cX8_quietOf 218 = .ok (.iload 4, 2) := by decide +kernel
theorem dX8_quietOf_220 : decode cX8_quietOf 220 = .ok (.iconst (-1), 1) := by decide +kernel
theorem dX8_quietOf_221 : decode cX8_quietOf 221 = .ok (.if_icmp .eq 10, 3) := by decide +kernel
theorem dX8_quietOf_224 : decode cX8_quietOf 224 = .ok (.iload 7, 2) := by decide +kernel
theorem dX8_quietOf_226 : decode cX8_quietOf 226 = .ok (.ldc 172, 2) := by decide +kernel
theorem dX8_quietOf_228 : decode cX8_quietOf 228 = .ok (.if_icmp .lt 17, 3) := by decide +kernel
theorem dX8_quietOf_231 : decode cX8_quietOf 231 = .ok (.iload 7, 2) := by decide +kernel
theorem dX8_quietOf_233 : decode cX8_quietOf 233 = .ok (.ldc 172, 2) := by decide +kernel
theorem dX8_quietOf_235 : decode cX8_quietOf 235 = .ok (.if_icmp .lt 7, 3) := by decide +kernel
theorem dX8_quietOf_238 : decode cX8_quietOf 238 = .ok (.iconst (-1), 1) := by decide +kernel
theorem dX8_quietOf_239 : decode cX8_quietOf 239 = .ok (.goto 5, 3) := by decide +kernel
theorem dX8_quietOf_242 : decode cX8_quietOf 242 = .ok (.iload 7, 2) := by decide +kernel
theorem dX8_quietOf_244 : decode cX8_quietOf 244 = .ok (.ireturn, 1) := by decide +kernel
theorem dX8_quietOf_245 : decode cX8_quietOf 245 = .ok (.iconst (-1), 1) := by decide +kernel
theorem dX8_quietOf_246 : decode cX8_quietOf 246 = .ok (.istore 8, 2) := by decide +kernel
theorem dX8_quietOf_248 : decode cX8_quietOf 248 = .ok (.iload_n 2, 1) := by decide +kernel
theorem dX8_quietOf_249 : decode cX8_quietOf 249 = .ok (.istore 9, 2) := by decide +kernel
theorem dX8_quietOf_251 : decode cX8_quietOf 251 = .ok (.iload 9, 2) := by decide +kernel
theorem dX8_quietOf_253 : decode cX8_quietOf 253 = .ok (.iload_n 2, 1) := by decide +kernel
theorem dX8_quietOf_254 : decode cX8_quietOf 254 = .ok (.iload 4, 2) := by decide +kernel
theorem dX8_quietOf_256 : decode cX8_quietOf 256 = .ok (.iadd, 1) := by decide +kernel
theorem dX8_quietOf_257 : decode cX8_quietOf 257 = .ok (.if_icmp .gt 121, 3) := by decide +kernel
theorem dX8_quietOf_260 : decode cX8_quietOf 260 = .ok (.iconst (-1), 1) := by decide +kernel
theorem dX8_quietOf_261 : decode cX8_quietOf 261 = .ok (.istore 8, 2) := by decide +kernel
theorem dX8_quietOf_263 : decode cX8_quietOf 263 = .ok (.bipush 6, 2) := by decide +kernel
theorem dX8_quietOf_265 : decode cX8_quietOf 265 = .ok (.istore 10, 2) := by decide +kernel
theorem dX8_quietOf_267 : decode cX8_quietOf 267 = .ok (.iload 10, 2) := by decide +kernel
theorem dX8_quietOf_269 : decode cX8_quietOf 269 = .ok (.ifCond .lt 93, 3) := by decide +kernel
theorem dX8_quietOf_272 : decode cX8_quietOf 272 = .ok (.aload_n 0, 1) := by decide +kernel
theorem dX8_quietOf_273 : decode cX8_quietOf 273 = .ok (.iload 6, 2) := by decide +kernel
theorem dX8_quietOf_275 : decode cX8_quietOf 275 = .ok (.iload 10, 2) := by decide +kernel
theorem dX8_quietOf_277 : decode cX8_quietOf 277 = .ok (.iload 5, 2) := by decide +kernel
theorem dX8_quietOf_279 : decode cX8_quietOf 279 = .ok (.iload 9, 2) := by decide +kernel
theorem dX8_quietOf_281 : decode cX8_quietOf 281 = .ok (.invokestatic 138, 3) := by decide +kernel
theorem dX8_quietOf_284 : decode cX8_quietOf 284 = .ok (.invokevirtual 173, 3) := by decide +kernel
theorem dX8_quietOf_287 : decode cX8_quietOf 287 = .ok (.ifCond .eq 52, 3) := by decide +kernel
theorem dX8_quietOf_290 : decode cX8_quietOf 290 = .ok (.aload_n 0, 1) := by decide +kernel
theorem dX8_quietOf_291 : decode cX8_quietOf 291 = .ok (.getfield 22, 3) := by decide +kernel
theorem dX8_quietOf_294 : decode cX8_quietOf 294 = .ok (.iload 10, 2) := by decide +kernel
theorem dX8_quietOf_296 : decode cX8_quietOf 296 = .ok (.iaload, 1) := by decide +kernel
theorem dX8_quietOf_297 : decode cX8_quietOf 297 = .ok (.aload_n 0, 1) := by decide +kernel
theorem dX8_quietOf_298 : decode cX8_quietOf 298 = .ok (.getfield 34, 3) := by decide +kernel
theorem dX8_quietOf_301 : decode cX8_quietOf 301 = .ok (.bipush 10, 2) := by decide +kernel
theorem dX8_quietOf_303 : decode cX8_quietOf 303 = .ok (.iload 9, 2) := by decide +kernel
theorem dX8_quietOf_305 : decode cX8_quietOf 305 = .ok (.iconst 1, 1) := by decide +kernel
theorem dX8_quietOf_306 : decode cX8_quietOf 306 = .ok (.iadd, 1) := by decide +kernel
theorem dX8_quietOf_307 : decode cX8_quietOf 307 = .ok (.imul, 1) := by decide +kernel
theorem dX8_quietOf_308 : decode cX8_quietOf 308 = .ok (.aload_n 0, 1) := by decide +kernel
theorem dX8_quietOf_309 : decode cX8_quietOf 309 = .ok (.iload 6, 2) := by decide +kernel
theorem dX8_quietOf_311 : decode cX8_quietOf 311 = .ok (.iload 10, 2) := by decide +kernel
theorem dX8_quietOf_313 : decode cX8_quietOf 313 = .ok (.invokevirtual 107, 3) := by decide +kernel
theorem dX8_quietOf_316 : decode cX8_quietOf 316 = .ok (.iadd, 1) := by decide +kernel
theorem dX8_quietOf_317 : decode cX8_quietOf 317 = .ok (.iaload, 1) := by decide +kernel
theorem dX8_quietOf_318 : decode cX8_quietOf 318 = .ok (.iadd, 1) := by decide +kernel
theorem dX8_quietOf_319 : decode cX8_quietOf 319 = .ok (.aload_n 0, 1) := by decide +kernel
theorem dX8_quietOf_320 : decode cX8_quietOf 320 = .ok (.getfield 34, 3) := by decide +kernel
theorem dX8_quietOf_323 : decode cX8_quietOf 323 = .ok (.bipush 10, 2) := by decide +kernel
theorem dX8_quietOf_325 : decode cX8_quietOf 325 = .ok (.iload 9, 2) := by decide +kernel
theorem dX8_quietOf_327 : decode cX8_quietOf 327 = .ok (.imul, 1) := by decide +kernel
theorem dX8_quietOf_328 : decode cX8_quietOf 328 = .ok (.iload 6, 2) := by decide +kernel
theorem dX8_quietOf_330 : decode cX8_quietOf 330 = .ok (.iadd, 1) := by decide +kernel
theorem dX8_quietOf_331 : decode cX8_quietOf 331 = .ok (.iaload, 1) := by decide +kernel
theorem dX8_quietOf_332 : decode cX8_quietOf 332 = .ok (.if_icmp .ne 7, 3) := by decide +kernel
theorem dX8_quietOf_335 : decode cX8_quietOf 335 = .ok (.iconst 1, 1) := by decide +kernel
theorem dX8_quietOf_336 : decode cX8_quietOf 336 = .ok (.goto 4, 3) := by decide +kernel
theorem dX8_quietOf_339 : decode cX8_quietOf 339 = .ok (.iconst 0, 1) := by decide +kernel
theorem dX8_quietOf_340 : decode cX8_quietOf 340 = .ok (.istore 11, 2) := by decide +kernel
theorem dX8_quietOf_342 : decode cX8_quietOf 342 = .ok (.iload 11, 2) := by decide +kernel
theorem dX8_quietOf_344 : decode cX8_quietOf 344 = .ok (.ifCond .eq 8, 3) := by decide +kernel
theorem dX8_quietOf_347 : decode cX8_quietOf 347 = .ok (.iload 10, 2) := by decide +kernel
theorem dX8_quietOf_349 : decode cX8_quietOf 349 = .ok (.goto 5, 3) := by decide +kernel
theorem dX8_quietOf_352 : decode cX8_quietOf 352 = .ok (.iload 8, 2) := by decide +kernel
theorem dX8_quietOf_354 : decode cX8_quietOf 354 = .ok (.istore 8, 2) := by decide +kernel
theorem dX8_quietOf_356 : decode cX8_quietOf 356 = .ok (.iinc 10 (-1), 3) := by decide +kernel
theorem dX8_quietOf_359 : decode cX8_quietOf 359 = .ok (.goto (-92), 3) := by decide +kernel
theorem dX8_quietOf_362 : decode cX8_quietOf 362 = .ok (.aload_n 0, 1) := by decide +kernel
theorem dX8_quietOf_363 : decode cX8_quietOf 363 = .ok (.iload 6, 2) := by decide +kernel
theorem dX8_quietOf_365 : decode cX8_quietOf 365 = .ok (.iload 8, 2) := by decide +kernel
theorem dX8_quietOf_367 : decode cX8_quietOf 367 = .ok (.invokevirtual 107, 3) := by decide +kernel
theorem dX8_quietOf_370 : decode cX8_quietOf 370 = .ok (.istore 6, 2) := by decide +kernel
theorem dX8_quietOf_372 : decode cX8_quietOf 372 = .ok (.iinc 9 1, 3) := by decide +kernel
theorem dX8_quietOf_375 : decode cX8_quietOf 375 = .ok (.goto (-124), 3) := by decide +kernel
theorem dX8_quietOf_378 : decode cX8_quietOf 378 = .ok (.iload 8, 2) := by decide +kernel
theorem dX8_quietOf_380 : decode cX8_quietOf 380 = .ok (.ireturn, 1) := by decide +kernel
set_option maxRecDepth 20000 in
theorem ggX8_mayServe_X8_next : GoodIn wsX8_mayServe wsX8_next := goodIn_r _ [7, 8, 17, 18, 19, 20, 21, 22, 23, 24, 25, 26, 27, 28, 29, 30, 31, 32, 33, 34, 35, 36, 37, 38, 39] (by decide +kernel) (by decide +kernel)
set_option maxRecDepth 20000 in
theorem gX8_mayServe_X8_next : GoodIn wsX8_mayServe (wsV RX8 107 RX8 yX8_next wsX8_next) := goodIn_app (goodIn_of _ (by decide +kernel)) ggX8_mayServe_X8_next
set_option maxRecDepth 20000 in
theorem ggX8_mayServe_X8_doesHiccup : GoodIn wsX8_mayServe wsX8_doesHiccup := goodIn_r _ [12, 13, 17, 18, 19, 20, 21, 22, 23, 24, 25, 26, 27, 28, 29, 30, 31, 32, 33, 34, 35, 36, 37, 38, 39] (by decide +kernel) (by decide +kernel)
set_option maxRecDepth 20000 in
theorem gX8_mayServe_X8_doesHiccup : GoodIn wsX8_mayServe (wsV RX8 111 RX8 yX8_doesHiccup wsX8_doesHiccup) := goodIn_app (goodIn_of _ (by decide +kernel)) ggX8_mayServe_X8_doesHiccup
set_option maxRecDepth 20000 in
theorem ggX8_mayServe_X8_isIn : GoodIn wsX8_mayServe wsX8_isIn := goodIn_r _ [16] (by decide +kernel) (by decide +kernel)
set_option maxRecDepth 20000 in
theorem gX8_mayServe_X8_isIn : GoodIn wsX8_mayServe (va_wsS RX8 138 yX8_isIn wsX8_isIn) := goodIn_app (goodIn_of _ (by decide +kernel)) ggX8_mayServe_X8_isIn
theorem dX8_mayServe_0 : decode cX8_mayServe 0 = .ok (.aload_n 0, 1) := by decide +kernel
theorem dX8_mayServe_1 : decode cX8_mayServe 1 = .ok (.aload_n 0, 1) := by decide +kernel
theorem dX8_mayServe_2 : decode cX8_mayServe 2 = .ok (.iload_n 1, 1) := by decide +kernel
theorem dX8_mayServe_3 : decode cX8_mayServe 3 = .ok (.iload_n 2, 1) := by decide +kernel
theorem dX8_mayServe_4 : decode cX8_mayServe 4 = .ok (.invokevirtual 107, 3) := by decide +kernel
theorem dX8_mayServe_7 : decode cX8_mayServe 7 = .ok (.iload_n 2, 1) := by decide +kernel
theorem dX8_mayServe_8 : decode cX8_mayServe 8 = .ok (.invokevirtual 111, 3) := by decide +kernel
theorem dX8_mayServe_11 : decode cX8_mayServe 11 = .ok (.istore 4, 2) := by decide +kernel
theorem dX8_mayServe_13 : decode cX8_mayServe 13 = .ok (.aload_n 0, 1) := by decide +kernel
theorem dX8_mayServe_14 : decode cX8_mayServe 14 = .ok (.getfield 89, 3) := by decide +kernel
theorem dX8_mayServe_17 : decode cX8_mayServe 17 = .ok (.iconst 1, 1) := by decide +kernel
theorem dX8_mayServe_18 : decode cX8_mayServe 18 = .ok (.if_icmp .ne 20, 3) := by decide +kernel
theorem dX8_mayServe_21 : decode cX8_mayServe 21 = .ok (.iload 4, 2) := by decide +kernel
theorem dX8_mayServe_23 : decode cX8_mayServe 23 = .ok (.ifCond .ne 7, 3) := by decide +kernel
theorem dX8_mayServe_26 : decode cX8_mayServe 26 = .ok (.iload_n 3, 1) := by decide +kernel
theorem dX8_mayServe_27 : decode cX8_mayServe 27 = .ok (.ifCond .eq 7, 3) := by decide +kernel
theorem dX8_mayServe_30 : decode cX8_mayServe 30 = .ok (.iconst 1, 1) := by decide +kernel
theorem dX8_mayServe_31 : decode cX8_mayServe 31 = .ok (.goto 21, 3) := by decide +kernel
theorem dX8_mayServe_34 : decode cX8_mayServe 34 = .ok (.iconst 0, 1) := by decide +kernel
theorem dX8_mayServe_35 : decode cX8_mayServe 35 = .ok (.goto 17, 3) := by decide +kernel
theorem dX8_mayServe_38 : decode cX8_mayServe 38 = .ok (.iload 4, 2) := by decide +kernel
theorem dX8_mayServe_40 : decode cX8_mayServe 40 = .ok (.ifCond .eq 11, 3) := by decide +kernel
theorem dX8_mayServe_43 : decode cX8_mayServe 43 = .ok (.iload_n 3, 1) := by decide +kernel
theorem dX8_mayServe_44 : decode cX8_mayServe 44 = .ok (.ifCond .eq 7, 3) := by decide +kernel
theorem dX8_mayServe_47 : decode cX8_mayServe 47 = .ok (.iconst 1, 1) := by decide +kernel
theorem dX8_mayServe_48 : decode cX8_mayServe 48 = .ok (.goto 4, 3) := by decide +kernel
theorem dX8_mayServe_51 : decode cX8_mayServe 51 = .ok (.iconst 0, 1) := by decide +kernel
theorem dX8_mayServe_52 : decode cX8_mayServe 52 = .ok (.istore 5, 2) := by decide +kernel
theorem dX8_mayServe_54 : decode cX8_mayServe 54 = .ok (.aload_n 0, 1) := by decide +kernel
theorem dX8_mayServe_55 : decode cX8_mayServe 55 = .ok (.getfield 92, 3) := by decide +kernel
theorem dX8_mayServe_58 : decode cX8_mayServe 58 = .ok (.iload_n 2, 1) := by decide +kernel
theorem dX8_mayServe_59 : decode cX8_mayServe 59 = .ok (.invokestatic 138, 3) := by decide +kernel
theorem dX8_mayServe_62 : decode cX8_mayServe 62 = .ok (.ifCond .ne 12, 3) := by decide +kernel
theorem dX8_mayServe_65 : decode cX8_mayServe 65 = .ok (.iload 5, 2) := by decide +kernel
theorem dX8_mayServe_67 : decode cX8_mayServe 67 = .ok (.ifCond .ne 7, 3) := by decide +kernel
theorem dX8_mayServe_70 : decode cX8_mayServe 70 = .ok (.iconst 1, 1) := by decide +kernel
theorem dX8_mayServe_71 : decode cX8_mayServe 71 = .ok (.goto 4, 3) := by decide +kernel
theorem dX8_mayServe_74 : decode cX8_mayServe 74 = .ok (.iconst 0, 1) := by decide +kernel
theorem dX8_mayServe_75 : decode cX8_mayServe 75 = .ok (.ireturn, 1) := by decide +kernel
set_option maxRecDepth 20000 in
theorem ggX8_quiet_X8_in : GoodIn wsX8_quiet wsX8_in := goodIn_r _ [4] (by decide +kernel) (by decide +kernel)
set_option maxRecDepth 20000 in
theorem gX8_quiet_X8_in : GoodIn wsX8_quiet (va_wsS RX8 71 yX8_in wsX8_in) := goodIn_app (goodIn_of _ (by decide +kernel)) ggX8_quiet_X8_in
set_option maxRecDepth 20000 in
theorem ggX8_quiet_X8_isHour : GoodIn wsX8_quiet wsX8_isHour := goodIn_r _ [7, 1, 2, 3, 4] (by decide +kernel) (by decide +kernel)
set_option maxRecDepth 20000 in
theorem gX8_quiet_X8_isHour : GoodIn wsX8_quiet (va_wsS RX8 122 yX8_isHour wsX8_isHour) := goodIn_app (goodIn_of _ (by decide +kernel)) ggX8_quiet_X8_isHour
set_option maxRecDepth 20000 in
theorem ggX8_quiet_X8_quietOf : GoodIn wsX8_quiet wsX8_quietOf := goodIn_r _ [11, 12, 13, 14, 15, 16, 17, 18, 19, 20, 3, 21, 22, 23, 24, 25, 26, 27, 28, 29, 30, 31, 32, 33, 34, 35, 36, 37, 38, 39, 1, 2, 4, 40, 41, 42, 43, 44, 45, 46, 47, 48, 49, 50, 51, 52, 53, 54, 55, 56, 57, 58, 59, 60, 61, 62, 63, 64, 65, 66, 67, 68, 69, 70, 71, 72, 73, 74, 75, 76, 77, 78, 79, 80, 81] (by decide +kernel) (by decide +kernel)
set_option maxRecDepth 20000 in
theorem gX8_quiet_X8_quietOf : GoodIn wsX8_quiet (wsV RX8 177 RX8 yX8_quietOf wsX8_quietOf) := goodIn_app (goodIn_of _ (by decide +kernel)) ggX8_quiet_X8_quietOf
theorem dX8_quiet_0 : decode cX8_quiet 0 = .ok (.iload_n 1, 1) := by decide +kernel
theorem dX8_quiet_1 : decode cX8_quiet 1 = .ok (.iconst 0, 1) := by decide +kernel
theorem dX8_quiet_2 : decode cX8_quiet 2 = .ok (.iconst 1, 1) := by decide +kernel
theorem dX8_quiet_3 : decode cX8_quiet 3 = .ok (.invokestatic 71, 3) := by decide +kernel
theorem dX8_quiet_6 : decode cX8_quiet 6 = .ok (.ifCond .eq 44, 3) := by decide +kernel
theorem dX8_quiet_9 : decode cX8_quiet 9 = .ok (.iload_n 2, 1) := by decide +kernel
theorem dX8_quiet_10 : decode cX8_quiet 10 = .ok (.invokestatic 122, 3) := by decide +kernel
theorem dX8_quiet_13 : decode cX8_quiet 13 = .ok (.ifCond .eq 37, 3) := by decide +kernel
theorem dX8_quiet_16 : decode cX8_quiet 16 = .ok (.iload_n 3, 1) := by decide +kernel
theorem dX8_quiet_17 : decode cX8_quiet 17 = .ok (.iload_n 2, 1) := by decide +kernel
theorem dX8_quiet_18 : decode cX8_quiet 18 = .ok (.bipush 23, 2) := by decide +kernel
theorem dX8_quiet_20 : decode cX8_quiet 20 = .ok (.invokestatic 71, 3) := by decide +kernel
theorem dX8_quiet_23 : decode cX8_quiet 23 = .ok (.ifCond .eq 27, 3) := by decide +kernel
theorem dX8_quiet_26 : decode cX8_quiet 26 = .ok (.iload 4, 2) := by decide +kernel
theorem dX8_quiet_28 : decode cX8_quiet 28 = .ok (.iconst (-1), 1) := by decide +kernel
theorem dX8_quiet_29 : decode cX8_quiet 29 = .ok (.iload_n 3, 1) := by decide +kernel
theorem dX8_quiet_30 : decode cX8_quiet 30 = .ok (.iload_n 2, 1) := by decide +kernel
theorem dX8_quiet_31 : decode cX8_quiet 31 = .ok (.isub, 1) := by decide +kernel
theorem dX8_quiet_32 : decode cX8_quiet 32 = .ok (.invokestatic 71, 3) := by decide +kernel
theorem dX8_quiet_35 : decode cX8_quiet 35 = .ok (.ifCond .eq 15, 3) := by decide +kernel
theorem dX8_quiet_38 : decode cX8_quiet 38 = .ok (.aload_n 0, 1) := by decide +kernel
theorem dX8_quiet_39 : decode cX8_quiet 39 = .ok (.iload_n 1, 1) := by decide +kernel
theorem dX8_quiet_40 : decode cX8_quiet 40 = .ok (.iload_n 2, 1) := by decide +kernel
theorem dX8_quiet_41 : decode cX8_quiet 41 = .ok (.iload_n 3, 1) := by decide +kernel
theorem dX8_quiet_42 : decode cX8_quiet 42 = .ok (.iload 4, 2) := by decide +kernel
theorem dX8_quiet_44 : decode cX8_quiet 44 = .ok (.invokevirtual 177, 3) := by decide +kernel
