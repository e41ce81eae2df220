theorem dX7_seen_14 : decode cX7_seen 14 = .ok (.iload_n 3, 1) := by decide +kernel
theorem dX7_seen_15 : decode cX7_seen 15 = .ok (.iconst 0, 1) := by decide +kernel
theorem dX7_seen_16 : decode cX7_seen 16 = .ok (.iconst 1, 1) := by decide +kernel
theorem dX7_seen_17 : decode cX7_seen 17 = .ok (.invokestatic 70, 3) := by decide +kernel
theorem dX7_seen_20 : decode cX7_seen 20 = .ok (.ifCond .ne 6, 3) := by decide +kernel
theorem dX7_seen_23 : decode cX7_seen 23 = .ok (.bipush (-2), 2) := by decide +kernel
theorem dX7_seen_25 : decode cX7_seen 25 = .ok (.ireturn, 1) := by decide +kernel
theorem dX7_seen_26 : decode cX7_seen 26 = .ok (.aload_n 0, 1) := by decide +kernel
theorem dX7_seen_27 : decode cX7_seen 27 = .ok (.getfield 37, 3) := by decide +kernel
theorem dX7_seen_30 : decode cX7_seen 30 = .ok (.iload_n 1, 1) := by decide +kernel
theorem dX7_seen_31 : decode cX7_seen 31 = .ok (.iload_n 2, 1) := by decide +kernel
theorem dX7_seen_32 : decode cX7_seen 32 = .ok (.iload_n 3, 1) := by decide +kernel
theorem dX7_seen_33 : decode cX7_seen 33 = .ok (.invokevirtual 195, 3) := by decide +kernel
theorem dX7_seen_36 : decode cX7_seen 36 = .ok (.ireturn, 1) := by decide +kernel
theorem dX7_forget_0 : decode cX7_forget 0 = .ok (.aload_n 0, 1) := by decide +kernel
theorem dX7_forget_1 : decode cX7_forget 1 = .ok (.getfield 37, 3) := by decide +kernel
theorem dX7_forget_4 : decode cX7_forget 4 = .ok (.getfield 199, 3) := by decide +kernel
theorem dX7_forget_7 : decode cX7_forget 7 = .ok (.istore_n 1, 1) := by decide +kernel
theorem dX7_forget_8 : decode cX7_forget 8 = .ok (.aload_n 0, 1) := by decide +kernel
theorem dX7_forget_9 : decode cX7_forget 9 = .ok (.getfield 37, 3) := by decide +kernel
theorem dX7_forget_12 : decode cX7_forget 12 = .ok (.iconst 0, 1) := by decide +kernel
theorem dX7_forget_13 : decode cX7_forget 13 = .ok (.putfield 199, 3) := by decide +kernel
theorem dX7_forget_16 : decode cX7_forget 16 = .ok (.iload_n 1, 1) := by decide +kernel
theorem dX7_forget_17 : decode cX7_forget 17 = .ok (.ireturn, 1) := by decide +kernel
set_option maxRecDepth 20000 in
theorem ggX7_fright_X7_isGeneral : GoodIn wsX7_fright wsX7_isGeneral := goodIn_r _ [9, 10, 11, 8, 12] (by decide +kernel) (by decide +kernel)
set_option maxRecDepth 20000 in
theorem gX7_fright_X7_isGeneral : GoodIn wsX7_fright (va_wsS RX7 66 yX7_isGeneral wsX7_isGeneral) := goodIn_app (goodIn_of _ (by decide +kernel)) ggX7_fright_X7_isGeneral
set_option maxRecDepth 20000 in
theorem ggX7_fright_X0_lay : GoodIn wsX7_fright wsX0_lay := goodIn_r _ [17, 18, 19, 20, 21, 22, 23, 24, 25, 26, 27, 28, 29, 30, 31, 32, 73, 74, 75, 76, 77, 78, 79] (by decide +kernel) (by decide +kernel)
set_option maxRecDepth 20000 in
theorem gX7_fright_X0_lay : GoodIn wsX7_fright (wsV RX7 202 RX0 yX0_lay wsX0_lay) := goodIn_app (goodIn_of _ (by decide +kernel)) ggX7_fright_X0_lay
set_option maxRecDepth 20000 in
theorem ggX7_fright_X0_live : GoodIn wsX7_fright wsX0_live := goodIn_r _ [36, 20, 18, 37, 38, 39, 40, 41, 42, 43, 73, 74, 75, 80, 81, 82, 83, 84] (by decide +kernel) (by decide +kernel)
set_option maxRecDepth 20000 in
theorem gX7_fright_X0_live : GoodIn wsX7_fright (wsV RX7 206 RX0 yX0_live wsX0_live) := goodIn_app (goodIn_of _ (by decide +kernel)) ggX7_fright_X0_live
set_option maxRecDepth 20000 in
theorem ggX7_fright_X0_hiccupHours : GoodIn wsX7_fright wsX0_hiccupHours := goodIn_r _ [47, 37, 18, 48, 49, 50, 41, 51, 52, 73, 74, 75, 80, 81, 82, 83, 84] (by decide +kernel) (by decide +kernel)
set_option maxRecDepth 20000 in
theorem gX7_fright_X0_hiccupHours : GoodIn wsX7_fright (wsV RX7 210 RX0 yX0_hiccupHours wsX0_hiccupHours) := goodIn_app (goodIn_of _ (by decide +kernel)) ggX7_fright_X0_hiccupHours
set_option maxRecDepth 20000 in
theorem ggX7_fright_X5_unlikeOf : GoodIn wsX7_fright wsX5_unlikeOf := goodIn_r _ [57, 58, 59, 60, 61, 62, 8, 63, 85, 86, 87, 88] (by decide +kernel) (by decide +kernel)
set_option maxRecDepth 20000 in
theorem gX7_fright_X5_unlikeOf : GoodIn wsX7_fright (wsV RX7 214 RX5 yX5_unlikeOf wsX5_unlikeOf) := goodIn_app (goodIn_of _ (by decide +kernel)) ggX7_fright_X5_unlikeOf
theorem dX7_fright_0 : decode cX7_fright 0 = .ok (.iload_n 1, 1) := by decide +kernel
theorem dX7_fright_1 : decode cX7_fright 1 = .ok (.invokestatic 66, 3) := by decide +kernel
theorem dX7_fright_4 : decode cX7_fright 4 = .ok (.ifCond .ne 6, 3) := by decide +kernel
theorem dX7_fright_7 : decode cX7_fright 7 = .ok (.bipush (-2), 2) := by decide +kernel
theorem dX7_fright_9 : decode cX7_fright 9 = .ok (.ireturn, 1) := by decide +kernel
theorem dX7_fright_10 : decode cX7_fright 10 = .ok (.aload_n 0, 1) := by decide +kernel
theorem dX7_fright_11 : decode cX7_fright 11 = .ok (.getfield 42, 3) := by decide +kernel
theorem dX7_fright_14 : decode cX7_fright 14 = .ok (.aload_n 0, 1) := by decide +kernel
theorem dX7_fright_15 : decode cX7_fright 15 = .ok (.getfield 11, 3) := by decide +kernel
theorem dX7_fright_18 : decode cX7_fright 18 = .ok (.iload_n 1, 1) := by decide +kernel
theorem dX7_fright_19 : decode cX7_fright 19 = .ok (.aaload, 1) := by decide +kernel
theorem dX7_fright_20 : decode cX7_fright 20 = .ok (.iconst 0, 1) := by decide +kernel
theorem dX7_fright_21 : decode cX7_fright 21 = .ok (.invokevirtual 202, 3) := by decide +kernel
theorem dX7_fright_24 : decode cX7_fright 24 = .ok (.iconst 0, 1) := by decide +kernel
theorem dX7_fright_25 : decode cX7_fright 25 = .ok (.istore_n 2, 1) := by decide +kernel
theorem dX7_fright_26 : decode cX7_fright 26 = .ok (.iconst 0, 1) := by decide +kernel
theorem dX7_fright_27 : decode cX7_fright 27 = .ok (.istore_n 3, 1) := by decide +kernel
theorem dX7_fright_28 : decode cX7_fright 28 = .ok (.iload_n 3, 1) := by decide +kernel
theorem dX7_fright_29 : decode cX7_fright 29 = .ok (.bipush 24, 2) := by decide +kernel
theorem dX7_fright_31 : decode cX7_fright 31 = .ok (.if_icmp .ge 84, 3) := by decide +kernel
theorem dX7_fright_34 : decode cX7_fright 34 = .ok (.aload_n 0, 1) := by decide +kernel
theorem dX7_fright_35 : decode cX7_fright 35 = .ok (.getfield 42, 3) := by decide +kernel
theorem dX7_fright_38 : decode cX7_fright 38 = .ok (.getfield 134, 3) := by decide +kernel
theorem dX7_fright_41 : decode cX7_fright 41 = .ok (.iload_n 3, 1) := by decide +kernel
theorem dX7_fright_42 : decode cX7_fright 42 = .ok (.iaload, 1) := by decide +kernel
theorem dX7_fright_43 : decode cX7_fright 43 = .ok (.istore 4, 2) := by decide +kernel
theorem dX7_fright_45 : decode cX7_fright 45 = .ok (.aload_n 0, 1) := by decide +kernel
theorem dX7_fright_46 : decode cX7_fright 46 = .ok (.getfield 42, 3) := by decide +kernel
theorem dX7_fright_49 : decode cX7_fright 49 = .ok (.getfield 134, 3) := by decide +kernel
theorem dX7_fright_52 : decode cX7_fright 52 = .ok (.iload_n 3, 1) := by decide +kernel
theorem dX7_fright_53 : decode cX7_fright 53 = .ok (.iconst 4, 1) := by decide +kernel
theorem dX7_fright_54 : decode cX7_fright 54 = .ok (.iastore, 1) := by decide +kernel
theorem dX7_fright_55 : decode cX7_fright 55 = .ok (.aload_n 0, 1) := by decide +kernel
theorem dX7_fright_56 : decode cX7_fright 56 = .ok (.getfield 42, 3) := by decide +kernel
theorem dX7_fright_59 : decode cX7_fright 59 = .ok (.aload_n 0, 1) := by decide +kernel
theorem dX7_fright_60 : decode cX7_fright 60 = .ok (.getfield 30, 3) := by decide +kernel
theorem dX7_fright_63 : decode cX7_fright 63 = .ok (.invokevirtual 206, 3) := by decide +kernel
theorem dX7_fright_66 : decode cX7_fright 66 = .ok (.aload_n 0, 1) := by decide +kernel
theorem dX7_fright_67 : decode cX7_fright 67 = .ok (.getfield 42, 3) := by decide +kernel
theorem dX7_fright_70 : decode cX7_fright 70 = .ok (.aload_n 0, 1) := by decide +kernel
theorem dX7_fright_71 : decode cX7_fright 71 = .ok (.getfield 30, 3) := by decide +kernel
theorem dX7_fright_74 : decode cX7_fright 74 = .ok (.invokevirtual 210, 3) := by decide +kernel
theorem dX7_fright_77 : decode cX7_fright 77 = .ok (.istore 5, 2) := by decide +kernel
theorem dX7_fright_79 : decode cX7_fright 79 = .ok (.aload_n 0, 1) := by decide +kernel
theorem dX7_fright_80 : decode cX7_fright 80 = .ok (.getfield 42, 3) := by decide +kernel
theorem dX7_fright_83 : decode cX7_fright 83 = .ok (.getfield 134, 3) := by decide +kernel
theorem dX7_fright_86 : decode cX7_fright 86 = .ok (.iload_n 3, 1) := by decide +kernel
theorem dX7_fright_87 : decode cX7_fright 87 = .ok (.iload 4, 2) := by decide +kernel
theorem dX7_fright_89 : decode cX7_fright 89 = .ok (.iastore, 1) := by decide +kernel
theorem dX7_fright_90 : decode cX7_fright 90 = .ok (.aload_n 0, 1) := by decide +kernel
theorem dX7_fright_91 : decode cX7_fright 91 = .ok (.getfield 37, 3) := by decide +kernel
theorem dX7_fright_94 : decode cX7_fright 94 = .ok (.iload_n 1, 1) := by decide +kernel
theorem dX7_fright_95 : decode cX7_fright 95 = .ok (.iload 5, 2) := by decide +kernel
theorem dX7_fright_97 : decode cX7_fright 97 = .ok (.invokevirtual 214, 3) := by decide +kernel
theorem dX7_fright_100 : decode cX7_fright 100 = .ok (.ifCond .ne 9, 3) := by decide +kernel
theorem dX7_fright_103 : decode cX7_fright 103 = .ok (.iload_n 2, 1) := by decide +kernel
theorem dX7_fright_104 : decode cX7_fright 104 = .ok (.iconst 1, 1) := by decide +kernel
theorem dX7_fright_105 : decode cX7_fright 105 = .ok (.iload_n 3, 1) := by decide +kernel
theorem dX7_fright_106 : decode cX7_fright 106 = .ok (.ishl, 1) := by decide +kernel
theorem dX7_fright_107 : decode cX7_fright 107 = .ok (.ior, 1) := by decide +kernel
theorem dX7_fright_108 : decode cX7_fright 108 = .ok (.istore_n 2, 1) := by decide +kernel
theorem dX7_fright_109 : decode cX7_fright 109 = .ok (.iinc 3 1, 3) := by decide +kernel
theorem dX7_fright_112 : decode cX7_fright 112 = .ok (.goto (-84), 3) := by decide +kernel
theorem dX7_fright_115 : decode cX7_fright 115 = .ok (.iload_n 2, 1) := by decide +kernel
theorem dX7_fright_116 : decode cX7_fright 116 = .ok (.ireturn, 1) := by decide +kernel
set_option maxRecDepth 20000 in
theorem ggX7_unlike_X7_hoursOf : GoodIn wsX7_unlike wsX7_hoursOf := goodIn_r _ [6, 7, 8, 9, 10, 5, 11, 12, 13, 14, 15, 16, 17, 18, 19, 20, 21, 22, 23, 24, 25, 26, 27, 28, 29, 30, 31, 32, 33, 34, 35, 36, 37, 38, 39, 40, 41, 42, 43, 44, 45, 46, 47, 48, 49, 50, 51, 52, 53, 65, 66, 67, 68, 69, 70, 71, 72, 73, 74, 75, 76, 77, 78, 79, 80, 81, 82, 83, 84, 85] (by decide +kernel) (by decide +kernel)
set_option maxRecDepth 20000 in
theorem gX7_unlike_X7_hoursOf : GoodIn wsX7_unlike (wsV RX7 140 RX7 yX7_hoursOf wsX7_hoursOf) := goodIn_app (goodIn_of _ (by decide +kernel)) ggX7_unlike_X7_hoursOf
set_option maxRecDepth 20000 in
theorem ggX7_unlike_X5_unlikeOf : GoodIn wsX7_unlike wsX5_unlikeOf := goodIn_r _ [58, 59, 60, 61, 62, 63, 5, 64, 86, 87, 88, 89] (by decide +kernel) (by decide +kernel)
set_option maxRecDepth 20000 in
theorem gX7_unlike_X5_unlikeOf : GoodIn wsX7_unlike (wsV RX7 214 RX5 yX5_unlikeOf wsX5_unlikeOf) := goodIn_app (goodIn_of _ (by decide +kernel)) ggX7_unlike_X5_unlikeOf
theorem dX7_unlike_0 : decode cX7_unlike 0 = .ok (.iconst 0, 1) := by decide +kernel
theorem dX7_unlike_1 : decode cX7_unlike 1 = .ok (.istore_n 1, 1) := by decide +kernel
theorem dX7_unlike_2 : decode cX7_unlike 2 = .ok (.iconst 0, 1) := by decide +kernel
theorem dX7_unlike_3 : decode cX7_unlike 3 = .ok (.istore_n 2, 1) := by decide +kernel
theorem dX7_unlike_4 : decode cX7_unlike 4 = .ok (.iload_n 2, 1) := by decide +kernel
theorem dX7_unlike_5 : decode cX7_unlike 5 = .ok (.iconst 3, 1) := by decide +kernel
theorem dX7_unlike_6 : decode cX7_unlike 6 = .ok (.if_icmp .ge 25, 3) := by decide +kernel
theorem dX7_unlike_9 : decode cX7_unlike 9 = .ok (.iload_n 1, 1) := by decide +kernel
theorem dX7_unlike_10 : decode cX7_unlike 10 = .ok (.aload_n 0, 1) := by decide +kernel
theorem dX7_unlike_11 : decode cX7_unlike 11 = .ok (.getfield 37, 3) := by decide +kernel
theorem dX7_unlike_14 : decode cX7_unlike 14 = .ok (.iload_n 2, 1) := by decide +kernel
theorem dX7_unlike_15 : decode cX7_unlike 15 = .ok (.aload_n 0, 1) := by decide +kernel
theorem dX7_unlike_16 : decode cX7_unlike 16 = .ok (.iload_n 2, 1) := by decide +kernel
theorem dX7_unlike_17 : decode cX7_unlike 17 = .ok (.invokevirtual 140, 3) := by decide +kernel
theorem dX7_unlike_20 : decode cX7_unlike 20 = .ok (.invokevirtual 214, 3) := by decide +kernel
theorem dX7_unlike_23 : decode cX7_unlike 23 = .ok (.iadd, 1) := by decide +kernel
theorem dX7_unlike_24 : decode cX7_unlike 24 = .ok (.istore_n 1, 1) := by decide +kernel
theorem dX7_unlike_25 : decode cX7_unlike 25 = .ok (.iinc 2 1, 3) := by decide +kernel
theorem dX7_unlike_28 : decode cX7_unlike 28 = .ok (.goto (-24), 3) := by decide +kernel
theorem dX7_unlike_31 : decode cX7_unlike 31 = .ok (.iload_n 1, 1) := by decide +kernel
theorem dX7_unlike_32 : decode cX7_unlike 32 = .ok (.ireturn, 1) := by decide +kernel
set_option maxRecDepth 20000 in
theorem ggX7_parrot_X7_isSide : GoodIn wsX7_parrot wsX7_isSide := goodIn_r _ [4, 5, 6, 3, 7] (by decide +kernel) (by decide +kernel)
set_option maxRecDepth 20000 in
theorem gX7_parrot_X7_isSide : GoodIn wsX7_parrot (va_wsS RX7 172 yX7_isSide wsX7_isSide) := goodIn_app (goodIn_of _ (by decide +kernel)) ggX7_parrot_X7_isSide
set_option maxRecDepth 20000 in
theorem ggX7_parrot_X7_hoursOf : GoodIn wsX7_parrot wsX7_hoursOf := goodIn_r _ [11, 12, 13, 14, 15, 3, 16, 17, 18, 19, 20, 21, 22, 23, 24, 25, 26, 27, 28, 29, 30, 31, 32, 33, 34, 35, 36, 37, 38, 39, 40, 41, 42, 43, 44, 45, 46, 47, 48, 49, 50, 51, 52, 53, 54, 55, 56, 57, 58, 59, 60, 61, 62, 63, 64, 65, 66, 67, 68, 69, 70, 71, 72, 73, 74, 75, 76, 77, 78, 79] (by decide +kernel) (by decide +kernel)
set_option maxRecDepth 20000 in
theorem gX7_parrot_X7_hoursOf : GoodIn wsX7_parrot (wsV RX7 140 RX7 yX7_hoursOf wsX7_hoursOf) := goodIn_app (goodIn_of _ (by decide +kernel)) ggX7_parrot_X7_hoursOf
theorem dX7_parrot_0 : decode cX7_parrot 0 = .ok (.iload_n 1, 1) := by decide +kernel
theorem dX7_parrot_1 : decode cX7_parrot 1 = .ok (.invokestatic 172, 3) := by decide +kernel
theorem dX7_parrot_4 : decode cX7_parrot 4 = .ok (.ifCond .ne 6, 3) := by decide +kernel
theorem dX7_parrot_7 : decode cX7_parrot 7 = .ok (.bipush (-2), 2) := by decide +kernel
theorem dX7_parrot_9 : decode cX7_parrot 9 = .ok (.ireturn, 1) := by decide +kernel
theorem dX7_parrot_10 : decode cX7_parrot 10 = .ok (.aload_n 0, 1) := by decide +kernel
theorem dX7_parrot_11 : decode cX7_parrot 11 = .ok (.iload_n 1, 1) := by decide +kernel
theorem dX7_parrot_12 : decode cX7_parrot 12 = .ok (.invokevirtual 140, 3) := by decide +kernel
theorem dX7_parrot_15 : decode cX7_parrot 15 = .ok (.istore_n 2, 1) := by decide +kernel
theorem dX7_parrot_16 : decode cX7_parrot 16 = .ok (.iload_n 2, 1) := by decide +kernel
theorem dX7_parrot_17 : decode cX7_parrot 17 = .ok (.iconst 1, 1) := by decide +kernel
theorem dX7_parrot_18 : decode cX7_parrot 18 = .ok (.ishl, 1) := by decide +kernel
theorem dX7_parrot_19 : decode cX7_parrot 19 = .ok (.aload_n 0, 1) := by decide +kernel
theorem dX7_parrot_20 : decode cX7_parrot 20 = .ok (.iconst 1, 1) := by decide +kernel
theorem dX7_parrot_21 : decode cX7_parrot 21 = .ok (.iload_n 1, 1) := by decide +kernel
theorem dX7_parrot_22 : decode cX7_parrot 22 = .ok (.isub, 1) := by decide +kernel
theorem dX7_parrot_23 : decode cX7_parrot 23 = .ok (.invokevirtual 140, 3) := by decide +kernel
theorem dX7_parrot_26 : decode cX7_parrot 26 = .ok (.iand, 1) := by decide +kernel
theorem dX7_parrot_27 : decode cX7_parrot 27 = .ok (.iload_n 2, 1) := by decide +kernel
theorem dX7_parrot_28 : decode cX7_parrot 28 = .ok (.iconst (-1), 1) := by decide +kernel
theorem dX7_parrot_29 : decode cX7_parrot 29 = .ok (.ixor, 1) := by decide +kernel
theorem dX7_parrot_30 : decode cX7_parrot 30 = .ok (.iand, 1) := by decide +kernel
theorem dX7_parrot_31 : decode cX7_parrot 31 = .ok (.ireturn, 1) := by decide +kernel
set_option maxRecDepth 20000 in
theorem ggX7_trained_X7_isSide : GoodIn wsX7_trained wsX7_isSide := goodIn_r _ [4, 5, 6, 3, 7] (by decide +kernel) (by decide +kernel)
set_option maxRecDepth 20000 in
theorem gX7_trained_X7_isSide : GoodIn wsX7_trained (va_wsS RX7 172 yX7_isSide wsX7_isSide) := goodIn_app (goodIn_of _ (by decide +kernel)) ggX7_trained_X7_isSide
set_option maxRecDepth 20000 in
theorem ggX7_trained_X7_within : GoodIn wsX7_trained wsX7_within := goodIn_r _ [7] (by decide +kernel) (by decide +kernel)
set_option maxRecDepth 20000 in
theorem gX7_trained_X7_within : GoodIn wsX7_trained (va_wsS RX7 70 yX7_within wsX7_within) := goodIn_app (goodIn_of _ (by decide +kernel)) ggX7_trained_X7_within
set_option maxRecDepth 20000 in
theorem ggX7_trained_X7_hoursOf : GoodIn wsX7_trained wsX7_hoursOf := goodIn_r _ [11, 12, 13, 14, 15, 3, 16, 17, 18, 19, 20, 21, 22, 23, 24, 25, 26, 27, 28, 29, 30, 31, 32, 33, 34, 35, 36, 37, 38, 39, 40, 41, 42, 43, 44, 45, 46, 47, 48, 49, 50, 51, 52, 53, 54, 55, 56, 57, 58, 71, 72, 73, 74, 75, 76, 77, 78, 79, 80, 81, 82, 83, 84, 85, 86, 87, 88, 89, 90, 91] (by decide +kernel) (by decide +kernel)
set_option maxRecDepth 20000 in
theorem gX7_trained_X7_hoursOf : GoodIn wsX7_trained (wsV RX7 140 RX7 yX7_hoursOf wsX7_hoursOf) := goodIn_app (goodIn_of _ (by decide +kernel)) ggX7_trained_X7_hoursOf
set_option maxRecDepth 20000 in
theorem ggX7_trained_X7_likeHours : GoodIn wsX7_trained wsX7_likeHours := goodIn_r _ [62, 63, 18, 12, 19, 20, 21, 22, 23, 24, 25, 26, 27, 28, 29, 30, 31, 32, 33, 34, 35, 36, 37, 38, 39, 40, 41, 42, 43, 44, 45, 46, 47, 48, 49, 50, 51, 52, 53, 54, 55, 56, 57, 58, 64, 65, 66, 67, 68, 69, 70, 71, 72, 73, 74, 75, 76, 77, 78, 79, 80, 81, 82, 83, 84, 85, 86, 87, 88, 89, 90, 91] (by decide +kernel) (by decide +kernel)
set_option maxRecDepth 20000 in
theorem gX7_trained_X7_likeHours : GoodIn wsX7_trained (wsV RX7 217 RX7 yX7_likeHours wsX7_likeHours) := goodIn_app (goodIn_of _ (by decide +kernel)) ggX7_trained_X7_likeHours
theorem dX7_trained_0 : decode cX7_trained 0 = .ok (.iload_n 1, 1) := by decide +kernel
theorem dX7_trained_1 : decode cX7_trained 1 = .ok (.invokestatic 172, 3) := by decide +kernel
theorem dX7_trained_4 : decode cX7_trained 4 = .ok (.ifCond .eq 12, 3) := by decide +kernel
theorem dX7_trained_7 : decode cX7_trained 7 = .ok (.iload_n 2, 1) := by decide +kernel
theorem dX7_trained_8 : decode cX7_trained 8 = .ok (.iconst 0, 1) := by decide +kernel
theorem dX7_trained_9 : decode cX7_trained 9 = .ok (.iconst 2, 1) := by decide +kernel
theorem dX7_trained_10 : decode cX7_trained 10 = .ok (.invokestatic 70, 3) := by decide +kernel
theorem dX7_trained_13 : decode cX7_trained 13 = .ok (.ifCond .ne 6, 3) := by decide +kernel
theorem dX7_trained_16 : decode cX7_trained 16 = .ok (.bipush (-2), 2) := by decide +kernel
theorem dX7_trained_18 : decode cX7_trained 18 = .ok (.ireturn, 1) := by decide +kernel
theorem dX7_trained_19 : decode cX7_trained 19 = .ok (.aload_n 0, 1) := by decide +kernel
theorem dX7_trained_20 : decode cX7_trained 20 = .ok (.iload_n 1, 1) := by decide +kernel
theorem dX7_trained_21 : decode cX7_trained 21 = .ok (.invokevirtual 140, 3) := by decide +kernel
theorem dX7_trained_24 : decode cX7_trained 24 = .ok (.istore_n 3, 1) := by decide +kernel
theorem dX7_trained_25 : decode cX7_trained 25 = .ok (.iload_n 2, 1) := by decide +kernel
theorem dX7_trained_26 : decode cX7_trained 26 = .ok (.ifCond .ne 10, 3) := by decide +kernel
theorem dX7_trained_29 : decode cX7_trained 29 = .ok (.aload_n 0, 1) := by decide +kernel
theorem dX7_trained_30 : decode cX7_trained 30 = .ok (.iload_n 3, 1) := by decide +kernel
theorem dX7_trained_31 : decode cX7_trained 31 = .ok (.iconst 0, 1) := by decide +kernel
theorem dX7_trained_32 : decode cX7_trained 32 = .ok (.invokevirtual 217, 3) := by decide +kernel
theorem dX7_trained_35 : decode cX7_trained 35 = .ok (.ireturn, 1) := by decide +kernel
theorem dX7_trained_36 : decode cX7_trained 36 = .ok (.iconst (-1), 1) := by decide +kernel
theorem dX7_trained_37 : decode cX7_trained 37 = .ok (.istore 4, 2) := by decide +kernel
theorem dX7_trained_39 : decode cX7_trained 39 = .ok (.iconst 0, 1) := by decide +kernel
theorem dX7_trained_40 : decode cX7_trained 40 = .ok (.istore 5, 2) := by decide +kernel
theorem dX7_trained_42 : decode cX7_trained 42 = .ok (.iconst 0, 1) := by decide +kernel
theorem dX7_trained_43 : decode cX7_trained 43 = .ok (.istore 6, 2) := by decide +kernel
theorem dX7_trained_45 : decode cX7_trained 45 = .ok (.iload 6, 2) := by decide +kernel
theorem dX7_trained_47 : decode cX7_trained 47 = .ok (.bipush 24, 2) := by decide +kernel
theorem dX7_trained_49 : decode cX7_trained 49 = .ok (.if_icmp .ge 33, 3) := by decide +kernel
theorem dX7_trained_52 : decode cX7_trained 52 = .ok (.aload_n 0, 1) := by decide +kernel
theorem dX7_trained_53 : decode cX7_trained 53 = .ok (.iload_n 3, 1) := by decide +kernel
theorem dX7_trained_54 : decode cX7_trained 54 = .ok (.iload 6, 2) := by decide +kernel
theorem dX7_trained_56 : decode cX7_trained 56 = .ok (.invokevirtual 217, 3) := by decide +kernel
theorem dX7_trained_59 : decode cX7_trained 59 = .ok (.istore 7, 2) := by decide +kernel
theorem dX7_trained_61 : decode cX7_trained 61 = .ok (.iload 7, 2) := by decide +kernel
theorem dX7_trained_63 : decode cX7_trained 63 = .ok (.iload 4, 2) := by decide +kernel
theorem dX7_trained_65 : decode cX7_trained 65 = .ok (.if_icmp .le 11, 3) := by decide +kernel
theorem dX7_trained_68 : decode cX7_trained 68 = .ok (.iload 7, 2) := by decide +kernel
theorem dX7_trained_70 : decode cX7_trained 70 = .ok (.istore 4, 2) := by decide +kernel
theorem dX7_trained_72 : decode cX7_trained 72 = .ok (.iload 6, 2) := by decide +kernel
theorem dX7_trained_74 : decode cX7_trained 74 = .ok (.istore 5, 2) := by decide +kernel
theorem dX7_trained_76 : decode cX7_trained 76 = .ok (.iinc 6 1, 3) := by decide +kernel
theorem dX7_trained_79 : decode cX7_trained 79 = .ok (.goto (-34), 3) := by decide +kernel
theorem dX7_trained_82 : decode cX7_trained 82 = .ok (.iload_n 2, 1) := by decide +kernel
theorem dX7_trained_83 : decode cX7_trained 83 = .ok (.iconst 1, 1) := by decide +kernel
theorem dX7_trained_84 : decode cX7_trained 84 = .ok (.if_icmp .ne 8, 3) := by decide +kernel
theorem dX7_trained_87 : decode cX7_trained 87 = .ok (.iload 4, 2) := by decide +kernel
theorem dX7_trained_89 : decode cX7_trained 89 = .ok (.goto 5, 3) := by decide +kernel
theorem dX7_trained_92 : decode cX7_trained 92 = .ok (.iload 5, 2) := by decide +kernel
theorem dX7_trained_94 : decode cX7_trained 94 = .ok (.ireturn, 1) := by decide +kernel
set_option maxRecDepth 20000 in
theorem ggX7_sheet_X7_isSheet : GoodIn wsX7_sheet wsX7_isSheet := goodIn_r _ [5, 6, 7, 4, 8] (by decide +kernel) (by decide +kernel)
set_option maxRecDepth 20000 in
theorem gX7_sheet_X7_isSheet : GoodIn wsX7_sheet (va_wsS RX7 113 yX7_isSheet wsX7_isSheet) := goodIn_app (goodIn_of _ (by decide +kernel)) ggX7_sheet_X7_isSheet
set_option maxRecDepth 20000 in
theorem ggX7_sheet_X7_isForm : GoodIn wsX7_sheet wsX7_isForm := goodIn_r _ [11, 6, 7, 4, 8] (by decide +kernel) (by decide +kernel)
set_option maxRecDepth 20000 in
theorem gX7_sheet_X7_isForm : GoodIn wsX7_sheet (va_wsS RX7 220 yX7_isForm wsX7_isForm) := goodIn_app (goodIn_of _ (by decide +kernel)) ggX7_sheet_X7_isForm
set_option maxRecDepth 20000 in
theorem ggX7_sheet_X7_finding : GoodIn wsX7_sheet wsX7_finding := goodIn_r _ [15, 16, 26, 27, 28, 29, 30, 31, 32, 33, 34] (by decide +kernel) (by decide +kernel)
set_option maxRecDepth 20000 in
theorem gX7_sheet_X7_finding : GoodIn wsX7_sheet (wsV RX7 120 RX7 yX7_finding wsX7_finding) := goodIn_app (goodIn_of _ (by decide +kernel)) ggX7_sheet_X7_finding
set_option maxRecDepth 20000 in
theorem ggX7_sheet_X4_renew : GoodIn wsX7_sheet wsX4_renew := goodIn_r _ [21, 22, 23, 24, 25, 35, 36, 37, 38] (by decide +kernel) (by decide +kernel)
set_option maxRecDepth 20000 in
theorem gX7_sheet_X4_renew : GoodIn wsX7_sheet (wsV RX7 223 RX4 yX4_renew wsX4_renew) := goodIn_app (goodIn_of _ (by decide +kernel)) ggX7_sheet_X4_renew
theorem dX7_sheet_0 : decode cX7_sheet 0 = .ok (.iload_n 1, 1) := by decide +kernel
theorem dX7_sheet_1 : decode cX7_sheet 1 = .ok (.invokestatic 113, 3) := by decide +kernel
theorem dX7_sheet_4 : decode cX7_sheet 4 = .ok (.ifCond .eq 16, 3) := by decide +kernel
theorem dX7_sheet_7 : decode cX7_sheet 7 = .ok (.iload_n 2, 1) := by decide +kernel
theorem dX7_sheet_8 : decode cX7_sheet 8 = .ok (.invokestatic 220, 3) := by decide +kernel
theorem dX7_sheet_11 : decode cX7_sheet 11 = .ok (.ifCond .eq 9, 3) := by decide +kernel
theorem dX7_sheet_14 : decode cX7_sheet 14 = .ok (.iload_n 3, 1) := by decide +kernel
theorem dX7_sheet_15 : decode cX7_sheet 15 = .ok (.bipush 48, 2) := by decide +kernel
theorem dX7_sheet_17 : decode cX7_sheet 17 = .ok (.if_icmp .le 6, 3) := by decide +kernel
theorem dX7_sheet_20 : decode cX7_sheet 20 = .ok (.bipush (-2), 2) := by decide +kernel
theorem dX7_sheet_22 : decode cX7_sheet 22 = .ok (.ireturn, 1) := by decide +kernel
theorem dX7_sheet_23 : decode cX7_sheet 23 = .ok (.iload_n 3, 1) := by decide +kernel
theorem dX7_sheet_24 : decode cX7_sheet 24 = .ok (.ifCond .ge 9, 3) := by decide +kernel
theorem dX7_sheet_27 : decode cX7_sheet 27 = .ok (.aload_n 0, 1) := by decide +kernel
theorem dX7_sheet_28 : decode cX7_sheet 28 = .ok (.iconst 5, 1) := by decide +kernel
theorem dX7_sheet_29 : decode cX7_sheet 29 = .ok (.invokevirtual 120, 3) := by decide +kernel
theorem dX7_sheet_32 : decode cX7_sheet 32 = .ok (.ireturn, 1) := by decide +kernel
theorem dX7_sheet_33 : decode cX7_sheet 33 = .ok (.aload_n 0, 1) := by decide +kernel
theorem dX7_sheet_34 : decode cX7_sheet 34 = .ok (.getfield 23, 3) := by decide +kernel
theorem dX7_sheet_37 : decode cX7_sheet 37 = .ok (.iload_n 1, 1) := by decide +kernel
theorem dX7_sheet_38 : decode cX7_sheet 38 = .ok (.aaload, 1) := by decide +kernel
theorem dX7_sheet_39 : decode cX7_sheet 39 = .ok (.iload_n 2, 1) := by decide +kernel
theorem dX7_sheet_40 : decode cX7_sheet 40 = .ok (.iload_n 3, 1) := by decide +kernel
theorem dX7_sheet_41 : decode cX7_sheet 41 = .ok (.invokevirtual 223, 3) := by decide +kernel
theorem dX7_sheet_44 : decode cX7_sheet 44 = .ok (.iload_n 3, 1) := by decide +kernel
theorem dX7_sheet_45 : decode cX7_sheet 45 = .ok (.ireturn, 1) := by decide +kernel
set_option maxRecDepth 20000 in
theorem ggX7_lose_X7_isSheet : GoodIn wsX7_lose wsX7_isSheet := goodIn_r _ [7, 8, 9, 6, 10] (by decide +kernel) (by decide +kernel)
set_option maxRecDepth 20000 in
theorem gX7_lose_X7_isSheet : GoodIn wsX7_lose (va_wsS RX7 113 yX7_isSheet wsX7_isSheet) := goodIn_app (goodIn_of _ (by decide +kernel)) ggX7_lose_X7_isSheet
set_option maxRecDepth 20000 in
theorem ggX7_lose_X7_finding : GoodIn wsX7_lose wsX7_finding := goodIn_r _ [14, 15, 16, 17, 18, 19, 20, 21, 22, 23, 24] (by decide +kernel) (by decide +kernel)
set_option maxRecDepth 20000 in
theorem gX7_lose_X7_finding : GoodIn wsX7_lose (wsV RX7 120 RX7 yX7_finding wsX7_finding) := goodIn_app (goodIn_of _ (by decide +kernel)) ggX7_lose_X7_finding
theorem dX7_lose_0 : decode cX7_lose 0 = .ok (.iload_n 1, 1) := by decide +kernel
theorem dX7_lose_1 : decode cX7_lose 1 = .ok (.invokestatic 113, 3) := by decide +kernel
theorem dX7_lose_4 : decode cX7_lose 4 = .ok (.ifCond .ne 6, 3) := by decide +kernel
theorem dX7_lose_7 : decode cX7_lose 7 = .ok (.bipush (-2), 2) := by decide +kernel
theorem dX7_lose_9 : decode cX7_lose 9 = .ok (.ireturn, 1) := by decide +kernel
theorem dX7_lose_10 : decode cX7_lose 10 = .ok (.aload_n 0, 1) := by decide +kernel
theorem dX7_lose_11 : decode cX7_lose 11 = .ok (.getfield 23, 3) := by decide +kernel
theorem dX7_lose_14 : decode cX7_lose 14 = .ok (.iload_n 1, 1) := by decide +kernel
theorem dX7_lose_15 : decode cX7_lose 15 = .ok (.aaload, 1) := by decide +kernel
theorem dX7_lose_16 : decode cX7_lose 16 = .ok (.getfield 116, 3) := by decide +kernel
theorem dX7_lose_19 : decode cX7_lose 19 = .ok (.ifCond .eq 9, 3) := by decide +kernel
theorem dX7_lose_22 : decode cX7_lose 22 = .ok (.aload_n 0, 1) := by decide +kernel
theorem dX7_lose_23 : decode cX7_lose 23 = .ok (.iconst 1, 1) := by decide +kernel
theorem dX7_lose_24 : decode cX7_lose 24 = .ok (.invokevirtual 120, 3) := by decide +kernel
theorem dX7_lose_27 : decode cX7_lose 27 = .ok (.ireturn, 1) := by decide +kernel
theorem dX7_lose_28 : decode cX7_lose 28 = .ok (.aload_n 0, 1) := by decide +kernel
theorem dX7_lose_29 : decode cX7_lose 29 = .ok (.getfield 23, 3) := by decide +kernel
theorem dX7_lose_32 : decode cX7_lose 32 = .ok (.iload_n 1, 1) := by decide +kernel
theorem dX7_lose_33 : decode cX7_lose 33 = .ok (.aaload, 1) := by decide +kernel
theorem dX7_lose_34 : decode cX7_lose 34 = .ok (.iconst 1, 1) := by decide +kernel
theorem dX7_lose_35 : decode cX7_lose 35 = .ok (.putfield 116, 3) := by decide +kernel
theorem dX7_lose_38 : decode cX7_lose 38 = .ok (.aload_n 0, 1) := by decide +kernel
theorem dX7_lose_39 : decode cX7_lose 39 = .ok (.getfield 23, 3) := by decide +kernel
theorem dX7_lose_42 : decode cX7_lose 42 = .ok (.iload_n 1, 1) := by decide +kernel
theorem dX7_lose_43 : decode cX7_lose 43 = .ok (.aaload, 1) := by decide +kernel
theorem dX7_lose_44 : decode cX7_lose 44 = .ok (.getfield 227, 3) := by decide +kernel
theorem dX7_lose_47 : decode cX7_lose 47 = .ok (.ireturn, 1) := by decide +kernel
set_option maxRecDepth 20000 in
theorem ggX7_put_X7_isSheet : GoodIn wsX7_put wsX7_isSheet := goodIn_r _ [5, 6, 7, 4, 8] (by decide +kernel) (by decide +kernel)
set_option maxRecDepth 20000 in
theorem gX7_put_X7_isSheet : GoodIn wsX7_put (va_wsS RX7 113 yX7_isSheet wsX7_isSheet) := goodIn_app (goodIn_of _ (by decide +kernel)) ggX7_put_X7_isSheet
set_option maxRecDepth 20000 in
theorem ggX7_put_X7_isForm : GoodIn wsX7_put wsX7_isForm := goodIn_r _ [11, 6, 7, 4, 8] (by decide +kernel) (by decide +kernel)
set_option maxRecDepth 20000 in
theorem gX7_put_X7_isForm : GoodIn wsX7_put (va_wsS RX7 220 yX7_isForm wsX7_isForm) := goodIn_app (goodIn_of _ (by decide +kernel)) ggX7_put_X7_isForm
set_option maxRecDepth 20000 in
theorem ggX7_put_X4_findingAt : GoodIn wsX7_put wsX4_findingAt := goodIn_r _ [16, 17, 18, 19, 20, 21, 15, 22, 23, 43, 44, 45, 46] (by decide +kernel) (by decide +kernel)
set_option maxRecDepth 20000 in
theorem gX7_put_X4_findingAt : GoodIn wsX7_put (wsV RX7 228 RX4 yX4_findingAt wsX4_findingAt) := goodIn_app (goodIn_of _ (by decide +kernel)) ggX7_put_X4_findingAt
set_option maxRecDepth 20000 in
theorem ggX7_put_X7_finding : GoodIn wsX7_put wsX7_finding := goodIn_r _ [27, 28, 34, 35, 36, 37, 38, 39, 40, 41, 42] (by decide +kernel) (by decide +kernel)
set_option maxRecDepth 20000 in
theorem gX7_put_X7_finding : GoodIn wsX7_put (wsV RX7 120 RX7 yX7_finding wsX7_finding) := goodIn_app (goodIn_of _ (by decide +kernel)) ggX7_put_X7_finding
set_option maxRecDepth 20000 in
theorem ggX7_put_X4_store : GoodIn wsX7_put wsX4_store := goodIn_r _ [32, 18, 33, 19, 20, 21, 15, 22, 23, 43, 44, 45, 46] (by decide +kernel) (by decide +kernel)
set_option maxRecDepth 20000 in
theorem gX7_put_X4_store : GoodIn wsX7_put (wsV RX7 231 RX4 yX4_store wsX4_store) := goodIn_app (goodIn_of _ (by decide +kernel)) ggX7_put_X4_store
theorem dX7_put_0 : decode cX7_put 0 = .ok (.iload_n 1, 1) := by decide +kernel
theorem dX7_put_1 : decode cX7_put 1 = .ok (.invokestatic 113, 3) := by decide +kernel
theorem dX7_put_4 : decode cX7_put 4 = .ok (.ifCond .eq 10, 3) := by decide +kernel
theorem dX7_put_7 : decode cX7_put 7 = .ok (.iload_n 2, 1) := by decide +kernel
theorem dX7_put_8 : decode cX7_put 8 = .ok (.invokestatic 220, 3) := by decide +kernel
theorem dX7_put_11 : decode cX7_put 11 = .ok (.ifCond .ne 6, 3) := by decide +kernel
theorem dX7_put_14 : decode cX7_put 14 = .ok (.bipush (-2), 2) := by decide +kernel
theorem dX7_put_16 : decode cX7_put 16 = .ok (.ireturn, 1) := by decide +kernel
theorem dX7_put_17 : decode cX7_put 17 = .ok (.aload_n 0, 1) := by decide +kernel
theorem dX7_put_18 : decode cX7_put 18 = .ok (.getfield 23, 3) := by decide +kernel
theorem dX7_put_21 : decode cX7_put 21 = .ok (.iload_n 1, 1) := by decide +kernel
theorem dX7_put_22 : decode cX7_put 22 = .ok (.aaload, 1) := by decide +kernel
theorem dX7_put_23 : decode cX7_put 23 = .ok (.iload_n 2, 1) := by decide +kernel
theorem dX7_put_24 : decode cX7_put 24 = .ok (.iload_n 3, 1) := by decide +kernel
theorem dX7_put_25 : decode cX7_put 25 = .ok (.invokevirtual 228, 3) := by decide +kernel
theorem dX7_put_28 : decode cX7_put 28 = .ok (.istore 5, 2) := by decide +kernel
theorem dX7_put_30 : decode cX7_put 30 = .ok (.iload 5, 2) := by decide +kernel
theorem dX7_put_32 : decode cX7_put 32 = .ok (.ifCond .eq 10, 3) := by decide +kernel
theorem dX7_put_35 : decode cX7_put 35 = .ok (.aload_n 0, 1) := by decide +kernel
theorem dX7_put_36 : decode cX7_put 36 = .ok (.iload 5, 2) := by decide +kernel
theorem dX7_put_38 : decode cX7_put 38 = .ok (.invokevirtual 120, 3) := by decide +kernel
theorem dX7_put_41 : decode cX7_put 41 = .ok (.ireturn, 1) := by decide +kernel
theorem dX7_put_42 : decode cX7_put 42 = .ok (.aload_n 0, 1) := by decide +kernel
theorem dX7_put_43 : decode cX7_put 43 = .ok (.getfield 23, 3) := by decide +kernel
theorem dX7_put_46 : decode cX7_put 46 = .ok (.iload_n 1, 1) := by decide +kernel
theorem dX7_put_47 : decode cX7_put 47 = .ok (.aaload, 1) := by decide +kernel
theorem dX7_put_48 : decode cX7_put 48 = .ok (.iload_n 3, 1) := by decide +kernel
theorem dX7_put_49 : decode cX7_put 49 = .ok (.iload 4, 2) := by decide +kernel
theorem dX7_put_51 : decode cX7_put 51 = .ok (.invokevirtual 231, 3) := by decide +kernel
theorem dX7_put_54 : decode cX7_put 54 = .ok (.iconst 1, 1) := by decide +kernel
theorem dX7_put_55 : decode cX7_put 55 = .ok (.ireturn, 1) := by decide +kernel
set_option maxRecDepth 20000 in
theorem ggX7_get_X7_isSheet : GoodIn wsX7_get wsX7_isSheet := goodIn_r _ [8, 9, 10, 7, 11] (by decide +kernel) (by decide +kernel)
set_option maxRecDepth 20000 in
theorem gX7_get_X7_isSheet : GoodIn wsX7_get (va_wsS RX7 113 yX7_isSheet wsX7_isSheet) := goodIn_app (goodIn_of _ (by decide +kernel)) ggX7_get_X7_isSheet
set_option maxRecDepth 20000 in
theorem ggX7_get_X7_isForm : GoodIn wsX7_get wsX7_isForm := goodIn_r _ [14, 9, 10, 7, 11] (by decide +kernel) (by decide +kernel)
set_option maxRecDepth 20000 in
theorem gX7_get_X7_isForm : GoodIn wsX7_get (va_wsS RX7 220 yX7_isForm wsX7_isForm) := goodIn_app (goodIn_of _ (by decide +kernel)) ggX7_get_X7_isForm
set_option maxRecDepth 20000 in
theorem ggX7_get_X4_findingAt : GoodIn wsX7_get wsX4_findingAt := goodIn_r _ [19, 20, 21, 22, 23, 24, 18, 25, 26, 36, 37, 38, 39] (by decide +kernel) (by decide +kernel)
set_option maxRecDepth 20000 in
theorem gX7_get_X4_findingAt : GoodIn wsX7_get (wsV RX7 228 RX4 yX4_findingAt wsX4_findingAt) := goodIn_app (goodIn_of _ (by decide +kernel)) ggX7_get_X4_findingAt
theorem dX7_get_0 : decode cX7_get 0 = .ok (.iload_n 1, 1) := by decide +kernel
theorem dX7_get_1 : decode cX7_get 1 = .ok (.invokestatic 113, 3) := by decide +kernel
theorem dX7_get_4 : decode cX7_get 4 = .ok (.ifCond .eq 10, 3) := by decide +kernel
theorem dX7_get_7 : decode cX7_get 7 = .ok (.iload_n 2, 1) := by decide +kernel
theorem dX7_get_8 : decode cX7_get 8 = .ok (.invokestatic 220, 3) := by decide +kernel
theorem dX7_get_11 : decode cX7_get 11 = .ok (.ifCond .ne 6, 3) := by decide +kernel
theorem dX7_get_14 : decode cX7_get 14 = .ok (.ldc 234, 2) := by decide +kernel
theorem dX7_get_16 : decode cX7_get 16 = .ok (.ireturn, 1) := by decide +kernel
theorem dX7_get_17 : decode cX7_get 17 = .ok (.aload_n 0, 1) := by decide +kernel
theorem dX7_get_18 : decode cX7_get 18 = .ok (.getfield 23, 3) := by decide +kernel
theorem dX7_get_21 : decode cX7_get 21 = .ok (.iload_n 1, 1) := by decide +kernel
theorem dX7_get_22 : decode cX7_get 22 = .ok (.aaload, 1) := by decide +kernel
theorem dX7_get_23 : decode cX7_get 23 = .ok (.iload_n 2, 1) := by decide +kernel
theorem dX7_get_24 : decode cX7_get 24 = .ok (.iload_n 3, 1) := by decide +kernel
theorem dX7_get_25 : decode cX7_get 25 = .ok (.invokevirtual 228, 3) := by decide +kernel
theorem dX7_get_28 : decode cX7_get 28 = .ok (.istore 4, 2) := by decide +kernel
theorem dX7_get_30 : decode cX7_get 30 = .ok (.iload 4, 2) := by decide +kernel
theorem dX7_get_32 : decode cX7_get 32 = .ok (.ifCond .eq 12, 3) := by decide +kernel
theorem dX7_get_35 : decode cX7_get 35 = .ok (.aload_n 0, 1) := by decide +kernel
theorem dX7_get_36 : decode cX7_get 36 = .ok (.iload 4, 2) := by decide +kernel
theorem dX7_get_38 : decode cX7_get 38 = .ok (.putfield 60, 3) := by decide +kernel
theorem dX7_get_41 : decode cX7_get 41 = .ok (.ldc 234, 2) := by decide +kernel
theorem dX7_get_43 : decode cX7_get 43 = .ok (.ireturn, 1) := by decide +kernel
theorem dX7_get_44 : decode cX7_get 44 = .ok (.aload_n 0, 1) := by decide +kernel
theorem dX7_get_45 : decode cX7_get 45 = .ok (.getfield 23, 3) := by decide +kernel
theorem dX7_get_48 : decode cX7_get 48 = .ok (.iload_n 1, 1) := by decide +kernel
theorem dX7_get_49 : decode cX7_get 49 = .ok (.aaload, 1) := by decide +kernel
theorem dX7_get_50 : decode cX7_get 50 = .ok (.getfield 235, 3) := by decide +kernel
theorem dX7_get_53 : decode cX7_get 53 = .ok (.iload_n 3, 1) := by decide +kernel
theorem dX7_get_54 : decode cX7_get 54 = .ok (.iaload, 1) := by decide +kernel
theorem dX7_get_55 : decode cX7_get 55 = .ok (.ireturn, 1) := by decide +kernel
set_option maxRecDepth 20000 in
theorem ggX7_copy_X7_isSheet : GoodIn wsX7_copy wsX7_isSheet := goodIn_r _ [12, 13, 14, 11, 15] (by decide +kernel) (by decide +kernel)
set_option maxRecDepth 20000 in
theorem gX7_copy_X7_isSheet : GoodIn wsX7_copy (va_wsS RX7 113 yX7_isSheet wsX7_isSheet) := goodIn_app (goodIn_of _ (by decide +kernel)) ggX7_copy_X7_isSheet
set_option maxRecDepth 20000 in
theorem ggX7_copy_X7_finding : GoodIn wsX7_copy wsX7_finding := goodIn_r _ [19, 20, 27, 28, 29, 30, 31, 32, 33, 34, 35] (by decide +kernel) (by decide +kernel)
set_option maxRecDepth 20000 in
theorem gX7_copy_X7_finding : GoodIn wsX7_copy (wsV RX7 120 RX7 yX7_finding wsX7_finding) := goodIn_app (goodIn_of _ (by decide +kernel)) ggX7_copy_X7_finding
set_option maxRecDepth 20000 in
theorem ggX7_copy_X4_hasItems : GoodIn wsX7_copy wsX4_hasItems := goodIn_r _ [25, 26, 36, 37, 38, 39] (by decide +kernel) (by decide +kernel)
set_option maxRecDepth 20000 in
theorem gX7_copy_X4_hasItems : GoodIn wsX7_copy (wsV RX7 241 RX4 yX4_hasItems wsX4_hasItems) := goodIn_app (goodIn_of _ (by decide +kernel)) ggX7_copy_X4_hasItems
theorem dX7_copy_0 : decode cX7_copy 0 = .ok (.iload_n 1, 1) := by decide +kernel
theorem dX7_copy_1 : decode cX7_copy 1 = .ok (.invokestatic 113, 3) := by decide +kernel
theorem dX7_copy_4 : decode cX7_copy 4 = .ok (.ifCond .eq 10, 3) := by decide +kernel
theorem dX7_copy_7 : decode cX7_copy 7 = .ok (.iload_n 3, 1) := by decide +kernel
theorem dX7_copy_8 : decode cX7_copy 8 = .ok (.invokestatic 113, 3) := by decide +kernel
theorem dX7_copy_11 : decode cX7_copy 11 = .ok (.ifCond .ne 6, 3) := by decide +kernel
theorem dX7_copy_14 : decode cX7_copy 14 = .ok (.bipush (-2), 2) := by decide +kernel
theorem dX7_copy_16 : decode cX7_copy 16 = .ok (.ireturn, 1) := by decide +kernel
theorem dX7_copy_17 : decode cX7_copy 17 = .ok (.aload_n 0, 1) := by decide +kernel
theorem dX7_copy_18 : decode cX7_copy 18 = .ok (.getfield 23, 3) := by decide +kernel
theorem dX7_copy_21 : decode cX7_copy 21 = .ok (.iload_n 1, 1) := by decide +kernel
theorem dX7_copy_22 : decode cX7_copy 22 = .ok (.aaload, 1) := by decide +kernel
theorem dX7_copy_23 : decode cX7_copy 23 = .ok (.astore 6, 2) := by decide +kernel
theorem dX7_copy_25 : decode cX7_copy 25 = .ok (.aload_n 0, 1) := by decide +kernel
theorem dX7_copy_26 : decode cX7_copy 26 = .ok (.getfield 23, 3) := by decide +kernel
theorem dX7_copy_29 : decode cX7_copy 29 = .ok (.iload_n 3, 1) := by decide +kernel
theorem dX7_copy_30 : decode cX7_copy 30 = .ok (.aaload, 1) := by decide +kernel
theorem dX7_copy_31 : decode cX7_copy 31 = .ok (.astore 7, 2) := by decide +kernel
theorem dX7_copy_33 : decode cX7_copy 33 = .ok (.aload 6, 2) := by decide +kernel
theorem dX7_copy_35 : decode cX7_copy 35 = .ok (.getfield 116, 3) := by decide +kernel
theorem dX7_copy_38 : decode cX7_copy 38 = .ok (.ifCond .ne 11, 3) := by decide +kernel
theorem dX7_copy_41 : decode cX7_copy 41 = .ok (.aload 7, 2) := by decide +kernel
theorem dX7_copy_43 : decode cX7_copy 43 = .ok (.getfield 116, 3) := by decide +kernel
theorem dX7_copy_46 : decode cX7_copy 46 = .ok (.ifCond .eq 9, 3) := by decide +kernel
theorem dX7_copy_49 : decode cX7_copy 49 = .ok (.aload_n 0, 1) := by decide +kernel
theorem dX7_copy_50 : decode cX7_copy 50 = .ok (.iconst 1, 1) := by decide +kernel
theorem dX7_copy_51 : decode cX7_copy 51 = .ok (.invokevirtual 120, 3) := by decide +kernel
theorem dX7_copy_54 : decode cX7_copy 54 = .ok (.ireturn, 1) := by decide +kernel
theorem dX7_copy_55 : decode cX7_copy 55 = .ok (.aload 6, 2) := by decide +kernel
theorem dX7_copy_57 : decode cX7_copy 57 = .ok (.getfield 238, 3) := by decide +kernel
theorem dX7_copy_60 : decode cX7_copy 60 = .ok (.aload 7, 2) := by decide +kernel
theorem dX7_copy_62 : decode cX7_copy 62 = .ok (.getfield 238, 3) := by decide +kernel
theorem dX7_copy_65 : decode cX7_copy 65 = .ok (.if_icmp .eq 9, 3) := by decide +kernel
theorem dX7_copy_68 : decode cX7_copy 68 = .ok (.aload_n 0, 1) := by decide +kernel
theorem dX7_copy_69 : decode cX7_copy 69 = .ok (.iconst 4, 1) := by decide +kernel
theorem dX7_copy_70 : decode cX7_copy 70 = .ok (.invokevirtual 120, 3) := by decide +kernel
theorem dX7_copy_73 : decode cX7_copy 73 = .ok (.ireturn, 1) := by decide +kernel
theorem dX7_copy_74 : decode cX7_copy 74 = .ok (.aload 6, 2) := by decide +kernel
theorem dX7_copy_76 : decode cX7_copy 76 = .ok (.iload_n 2, 1) := by decide +kernel
theorem dX7_copy_77 : decode cX7_copy 77 = .ok (.iload 5, 2) := by decide +kernel
theorem dX7_copy_79 : decode cX7_copy 79 = .ok (.invokevirtual 241, 3) := by decide +kernel
theorem dX7_copy_82 : decode cX7_copy 82 = .ok (.ifCond .eq 15, 3) := by decide +kernel
theorem dX7_copy_85 : decode cX7_copy 85 = .ok (.aload 7, 2) := by decide +kernel
theorem dX7_copy_87 : decode cX7_copy 87 = .ok (.iload 4, 2) := by decide +kernel
theorem dX7_copy_89 : decode cX7_copy 89 = .ok (.iload 5, 2) := by decide +kernel
theorem dX7_copy_91 : decode cX7_copy 91 = .ok (.invokevirtual 241, 3) := by decide +kernel
theorem dX7_copy_94 : decode cX7_copy 94 = .ok (.ifCond .ne 9, 3) := by decide +kernel
theorem dX7_copy_97 : decode cX7_copy 97 = .ok (.aload_n 0, 1) := by decide +kernel
theorem dX7_copy_98 : decode cX7_copy 98 = .ok (.iconst 2, 1) := by decide +kernel
theorem dX7_copy_99 : decode cX7_copy 99 = .ok (.invokevirtual 120, 3) := by decide +kernel
theorem dX7_copy_102 : decode cX7_copy 102 = .ok (.ireturn, 1) := by decide +kernel
theorem dX7_copy_103 : decode cX7_copy 103 = .ok (.aload 6, 2) := by decide +kernel
theorem dX7_copy_105 : decode cX7_copy 105 = .ok (.getfield 235, 3) := by decide +kernel
theorem dX7_copy_108 : decode cX7_copy 108 = .ok (.iload_n 2, 1) := by decide +kernel
theorem dX7_copy_109 : decode cX7_copy 109 = .ok (.aload 7, 2) := by decide +kernel
theorem dX7_copy_111 : decode cX7_copy 111 = .ok (.getfield 235, 3) := by decide +kernel
theorem dX7_copy_114 : decode cX7_copy 114 = .ok (.iload 4, 2) := by decide +kernel
theorem dX7_copy_116 : decode cX7_copy 116 = .ok (.iload 5, 2) := by decide +kernel
theorem dX7_copy_118 : decode cX7_copy 118 = .ok (.invokestatic 244, 3) := by decide +kernel
theorem dX7_copy_121 : decode cX7_copy 121 = .ok (.iconst 1, 1) := by decide +kernel
theorem dX7_copy_122 : decode cX7_copy 122 = .ok (.ireturn, 1) := by decide +kernel
set_option maxRecDepth 20000 in
theorem ggX7_write_X7_isGeneral : GoodIn wsX7_write wsX7_isGeneral := goodIn_r _ [12, 13, 14, 11, 15] (by decide +kernel) (by decide +kernel)
set_option maxRecDepth 20000 in
theorem gX7_write_X7_isGeneral : GoodIn wsX7_write (va_wsS RX7 66 yX7_isGeneral wsX7_isGeneral) := goodIn_app (goodIn_of _ (by decide +kernel)) ggX7_write_X7_isGeneral
set_option maxRecDepth 20000 in
theorem ggX7_write_X7_isSheet : GoodIn wsX7_write wsX7_isSheet := goodIn_r _ [18, 13, 14, 11, 15] (by decide +kernel) (by decide +kernel)
set_option maxRecDepth 20000 in
theorem gX7_write_X7_isSheet : GoodIn wsX7_write (va_wsS RX7 113 yX7_isSheet wsX7_isSheet) := goodIn_app (goodIn_of _ (by decide +kernel)) ggX7_write_X7_isSheet
set_option maxRecDepth 20000 in
theorem ggX7_write_X7_finding : GoodIn wsX7_write wsX7_finding := goodIn_r _ [22, 23, 74, 75, 76, 77, 78, 79, 80, 81, 82] (by decide +kernel) (by decide +kernel)
set_option maxRecDepth 20000 in
theorem gX7_write_X7_finding : GoodIn wsX7_write (wsV RX7 120 RX7 yX7_finding wsX7_finding) := goodIn_app (goodIn_of _ (by decide +kernel)) ggX7_write_X7_finding
set_option maxRecDepth 20000 in
theorem ggX7_write_X7_dayOf : GoodIn wsX7_write wsX7_dayOf := goodIn_r _ [27, 28, 29, 30, 31, 32, 33, 34, 35, 36, 37, 38, 39, 40, 41, 42, 43, 44, 45, 46, 47, 48, 49, 50, 51, 52, 53, 54, 55, 56, 57, 58, 59, 60, 61, 74, 75, 76, 77, 78, 79, 80, 81, 82, 87, 88, 89, 90, 91, 92, 93, 94, 95, 96, 97, 98] (by decide +kernel) (by decide +kernel)
set_option maxRecDepth 20000 in
theorem gX7_write_X7_dayOf : GoodIn wsX7_write (wsV RX7 130 RX7 yX7_dayOf wsX7_dayOf) := goodIn_app (goodIn_of _ (by decide +kernel)) ggX7_write_X7_dayOf
set_option maxRecDepth 20000 in
theorem ggX7_write_X4_store : GoodIn wsX7_write wsX4_store := goodIn_r _ [66, 67, 68, 69, 70, 71, 65, 72, 73, 83, 84, 85, 86] (by decide +kernel) (by decide +kernel)
set_option maxRecDepth 20000 in
theorem gX7_write_X4_store : GoodIn wsX7_write (wsV RX7 231 RX4 yX4_store wsX4_store) := goodIn_app (goodIn_of _ (by decide +kernel)) ggX7_write_X4_store
theorem dX7_write_0 : decode cX7_write 0 = .ok (.iload_n 1, 1) := by decide +kernel
theorem dX7_write_1 : decode cX7_write 1 = .ok (.invokestatic 66, 3) := by decide +kernel
theorem dX7_write_4 : decode cX7_write 4 = .ok (.ifCond .eq 10, 3) := by decide +kernel
theorem dX7_write_7 : decode cX7_write 7 = .ok (.iload_n 2, 1) := by decide +kernel
theorem dX7_write_8 : decode cX7_write 8 = .ok (.invokestatic 113, 3) := by decide +kernel
theorem dX7_write_11 : decode cX7_write 11 = .ok (.ifCond .ne 6, 3) := by decide +kernel
theorem dX7_write_14 : decode cX7_write 14 = .ok (.bipush (-2), 2) := by decide +kernel
theorem dX7_write_16 : decode cX7_write 16 = .ok (.ireturn, 1) := by decide +kernel
theorem dX7_write_17 : decode cX7_write 17 = .ok (.aload_n 0, 1) := by decide +kernel
theorem dX7_write_18 : decode cX7_write 18 = .ok (.getfield 23, 3) := by decide +kernel
theorem dX7_write_21 : decode cX7_write 21 = .ok (.iload_n 2, 1) := by decide +kernel
theorem dX7_write_22 : decode cX7_write 22 = .ok (.aaload, 1) := by decide +kernel
theorem dX7_write_23 : decode cX7_write 23 = .ok (.astore_n 3, 1) := by decide +kernel
theorem dX7_write_24 : decode cX7_write 24 = .ok (.aload_n 3, 1) := by decide +kernel
theorem dX7_write_25 : decode cX7_write 25 = .ok (.getfield 116, 3) := by decide +kernel
theorem dX7_write_28 : decode cX7_write 28 = .ok (.ifCond .eq 9, 3) := by decide +kernel
theorem dX7_write_31 : decode cX7_write 31 = .ok (.aload_n 0, 1) := by decide +kernel
theorem dX7_write_32 : decode cX7_write 32 = .ok (.iconst 1, 1) := by decide +kernel
theorem dX7_write_33 : decode cX7_write 33 = .ok (.invokevirtual 120, 3) := by decide +kernel
theorem dX7_write_36 : decode cX7_write 36 = .ok (.ireturn, 1) := by decide +kernel
theorem dX7_write_37 : decode cX7_write 37 = .ok (.aload_n 0, 1) := by decide +kernel
theorem dX7_write_38 : decode cX7_write 38 = .ok (.iload_n 1, 1) := by decide +kernel
theorem dX7_write_39 : decode cX7_write 39 = .ok (.invokevirtual 130, 3) := by decide +kernel
theorem dX7_write_42 : decode cX7_write 42 = .ok (.astore 4, 2) := by decide +kernel
theorem dX7_write_44 : decode cX7_write 44 = .ok (.aload_n 3, 1) := by decide +kernel
theorem dX7_write_45 : decode cX7_write 45 = .ok (.getfield 227, 3) := by decide +kernel
theorem dX7_write_48 : decode cX7_write 48 = .ok (.bipush 24, 2) := by decide +kernel
theorem dX7_write_50 : decode cX7_write 50 = .ok (.invokestatic 250, 3) := by decide +kernel
theorem dX7_write_53 : decode cX7_write 53 = .ok (.istore 5, 2) := by decide +kernel
theorem dX7_write_55 : decode cX7_write 55 = .ok (.iconst 0, 1) := by decide +kernel
theorem dX7_write_56 : decode cX7_write 56 = .ok (.istore 6, 2) := by decide +kernel
theorem dX7_write_58 : decode cX7_write 58 = .ok (.iload 6, 2) := by decide +kernel
theorem dX7_write_60 : decode cX7_write 60 = .ok (.iload 5, 2) := by decide +kernel
theorem dX7_write_62 : decode cX7_write 62 = .ok (.if_icmp .ge 23, 3) := by decide +kernel
theorem dX7_write_65 : decode cX7_write 65 = .ok (.aload_n 3, 1) := by decide +kernel
theorem dX7_write_66 : decode cX7_write 66 = .ok (.iload 6, 2) := by decide +kernel
theorem dX7_write_68 : decode cX7_write 68 = .ok (.aload 4, 2) := by decide +kernel
theorem dX7_write_70 : decode cX7_write 70 = .ok (.getfield 137, 3) := by decide +kernel
theorem dX7_write_73 : decode cX7_write 73 = .ok (.iload 6, 2) := by decide +kernel
theorem dX7_write_75 : decode cX7_write 75 = .ok (.iaload, 1) := by decide +kernel
theorem dX7_write_76 : decode cX7_write 76 = .ok (.invokevirtual 231, 3) := by decide +kernel
theorem dX7_write_79 : decode cX7_write 79 = .ok (.iinc 6 1, 3) := by decide +kernel
theorem dX7_write_82 : decode cX7_write 82 = .ok (.goto (-24), 3) := by decide +kernel
theorem dX7_write_85 : decode cX7_write 85 = .ok (.iload 5, 2) := by decide +kernel
theorem dX7_write_87 : decode cX7_write 87 = .ok (.ireturn, 1) := by decide +kernel
set_option maxRecDepth 20000 in
theorem ggX7_count_X1_dishesTold : GoodIn wsX7_count wsX1_dishesTold := goodIn_r _ [13, 14, 15, 62, 63, 64, 65] (by decide +kernel) (by decide +kernel)
set_option maxRecDepth 20000 in
theorem gX7_count_X1_dishesTold : GoodIn wsX7_count (wsV RX7 255 RX1 yX1_dishesTold wsX1_dishesTold) := goodIn_app (goodIn_of _ (by decide +kernel)) ggX7_count_X1_dishesTold
set_option maxRecDepth 20000 in
theorem ggX7_count_X7_pricesTold : GoodIn wsX7_count wsX7_pricesTold := goodIn_r _ [20, 1, 2, 9, 10, 11, 12, 13, 14, 15, 21, 22, 23, 24, 25, 26, 27, 28, 29, 30, 31, 32, 19, 33, 34, 35, 36, 44, 45, 46, 47, 48, 49, 50, 51, 52, 62, 63, 64, 65, 53, 54, 55, 56, 57] (by decide +kernel) (by decide +kernel)
set_option maxRecDepth 20000 in
theorem gX7_count_X7_pricesTold : GoodIn wsX7_count (wsV RX7 258 RX7 yX7_pricesTold wsX7_pricesTold) := goodIn_app (goodIn_of _ (by decide +kernel)) ggX7_count_X7_pricesTold
set_option maxRecDepth 20000 in
theorem ggX7_count_J6_bitCount_0f7a4 : GoodIn wsX7_count wsJ6_bitCount_0f7a4 := goodIn_r _ [40, 41, 42, 43] (by decide +kernel) (by decide +kernel)
set_option maxRecDepth 20000 in
theorem gX7_count_J6_bitCount_0f7a4 : GoodIn wsX7_count (va_wsS RX7 264 yJ6_bitCount_0f7a4 wsJ6_bitCount_0f7a4) := goodIn_app (goodIn_of _ (by decide +kernel)) ggX7_count_J6_bitCount_0f7a4
theorem dX7_count_0 : decode cX7_count 0 = .ok (.iload_n 1, 1) := by decide +kernel
theorem dX7_count_1 : decode cX7_count 1 = .ok (.tableswitch 113 0 8 #[51, 51, 51, 61, 69, 77, 85, 97, 108], 51) := by decide +kernel
theorem dX7_count_52 : decode cX7_count 52 = .ok (.aload_n 0, 1) := by decide +kernel
theorem dX7_count_53 : decode cX7_count 53 = .ok (.getfield 11, 3) := by decide +kernel
theorem dX7_count_56 : decode cX7_count 56 = .ok (.iload_n 1, 1) := by decide +kernel
theorem dX7_count_57 : decode cX7_count 57 = .ok (.aaload, 1) := by decide +kernel
theorem dX7_count_58 : decode cX7_count 58 = .ok (.invokevirtual 255, 3) := by decide +kernel
theorem dX7_count_61 : decode cX7_count 61 = .ok (.ireturn, 1) := by decide +kernel
theorem dX7_count_62 : decode cX7_count 62 = .ok (.aload_n 0, 1) := by decide +kernel
theorem dX7_count_63 : decode cX7_count 63 = .ok (.getfield 30, 3) := by decide +kernel
theorem dX7_count_66 : decode cX7_count 66 = .ok (.getfield 159, 3) := by decide +kernel
theorem dX7_count_69 : decode cX7_count 69 = .ok (.ireturn, 1) := by decide +kernel
theorem dX7_count_70 : decode cX7_count 70 = .ok (.aload_n 0, 1) := by decide +kernel
theorem dX7_count_71 : decode cX7_count 71 = .ok (.getfield 30, 3) := by decide +kernel
theorem dX7_count_74 : decode cX7_count 74 = .ok (.getfield 146, 3) := by decide +kernel
theorem dX7_count_77 : decode cX7_count 77 = .ok (.ireturn, 1) := by decide +kernel
theorem dX7_count_78 : decode cX7_count 78 = .ok (.aload_n 0, 1) := by decide +kernel
theorem dX7_count_79 : decode cX7_count 79 = .ok (.getfield 37, 3) := by decide +kernel
theorem dX7_count_82 : decode cX7_count 82 = .ok (.getfield 199, 3) := by decide +kernel
theorem dX7_count_85 : decode cX7_count 85 = .ok (.ireturn, 1) := by decide +kernel
theorem dX7_count_86 : decode cX7_count 86 = .ok (.aload_n 0, 1) := by decide +kernel
theorem dX7_count_87 : decode cX7_count 87 = .ok (.iconst 0, 1) := by decide +kernel
theorem dX7_count_88 : decode cX7_count 88 = .ok (.invokevirtual 258, 3) := by decide +kernel
theorem dX7_count_91 : decode cX7_count 91 = .ok (.aload_n 0, 1) := by decide +kernel
theorem dX7_count_92 : decode cX7_count 92 = .ok (.iconst 1, 1) := by decide +kernel
theorem dX7_count_93 : decode cX7_count 93 = .ok (.invokevirtual 258, 3) := by decide +kernel
theorem dX7_count_96 : decode cX7_count 96 = .ok (.iadd, 1) := by decide +kernel
theorem dX7_count_97 : decode cX7_count 97 = .ok (.ireturn, 1) := by decide +kernel
theorem dX7_count_98 : decode cX7_count 98 = .ok (.aload_n 0, 1) := by decide +kernel
theorem dX7_count_99 : decode cX7_count 99 = .ok (.getfield 30, 3) := by decide +kernel
theorem dX7_count_102 : decode cX7_count 102 = .ok (.getfield 261, 3) := by decide +kernel
theorem dX7_count_105 : decode cX7_count 105 = .ok (.invokestatic 264, 3) := by decide +kernel
theorem dX7_count_108 : decode cX7_count 108 = .ok (.ireturn, 1) := by decide +kernel
theorem dX7_count_109 : decode cX7_count 109 = .ok (.aload_n 0, 1) := by decide +kernel
theorem dX7_count_110 : decode cX7_count 110 = .ok (.getfield 60, 3) := by decide +kernel
theorem dX7_count_113 : decode cX7_count 113 = .ok (.ireturn, 1) := by decide +kernel
theorem dX7_count_114 : decode cX7_count 114 = .ok (.bipush (-2), 2) := by decide +kernel
theorem dX7_count_116 : decode cX7_count 116 = .ok (.ireturn, 1) := by decide +kernel
set_option maxRecDepth 20000 in
theorem ggX7_digest_X7_count : GoodIn wsX7_digest wsX7_count := goodIn_r _ [7, 8, 9, 10, 11, 12, 13, 14, 15, 16, 17, 18, 19, 20, 21, 22, 23, 24, 25, 6, 26, 27, 28, 29, 30, 31, 32, 33, 34, 35, 36, 37, 38, 39, 40, 41, 42, 43, 44, 45, 46, 47, 48, 49, 250, 251, 252, 253, 254, 255, 256, 257, 258, 259, 260, 261, 262, 263, 264, 265, 266, 267, 268, 269, 270, 271] (by decide +kernel) (by decide +kernel)
set_option maxRecDepth 20000 in
theorem gX7_digest_X7_count : GoodIn wsX7_digest (wsV RX7 273 RX7 yX7_count wsX7_count) := goodIn_app (goodIn_of _ (by decide +kernel)) ggX7_digest_X7_count
set_option maxRecDepth 20000 in
theorem ggX7_digest_X7_fault : GoodIn wsX7_digest wsX7_fault := goodIn_r _ [53, 8, 54, 55, 56, 6, 57, 40, 41, 42, 250, 251, 252, 253, 254, 255, 256, 257, 258, 268, 269, 270, 271] (by decide +kernel) (by decide +kernel)
set_option maxRecDepth 20000 in
theorem gX7_digest_X7_fault : GoodIn wsX7_digest (wsV RX7 276 RX7 yX7_fault wsX7_fault) := goodIn_app (goodIn_of _ (by decide +kernel)) ggX7_digest_X7_fault
set_option maxRecDepth 20000 in
theorem ggX7_digest_X7_hiccups : GoodIn wsX7_digest wsX7_hiccups := goodIn_r _ [61, 55, 56, 6, 57, 40, 41, 42, 62, 63, 64, 65, 9, 66, 67, 68, 69, 70, 8, 71, 72, 73, 74, 75, 76, 77, 78, 79, 17, 18, 19, 20, 21, 22, 80, 28, 29, 30, 31, 81, 82, 83, 84, 85, 86, 87, 88, 35, 89, 90, 91, 92, 93, 94, 95, 96, 97, 98, 99, 250, 251, 252, 253, 254, 255, 256, 257, 258, 272, 273, 274, 268, 269, 270, 271, 259, 260, 261, 262, 263] (by decide +kernel) (by decide +kernel)
set_option maxRecDepth 20000 in
theorem gX7_digest_X7_hiccups : GoodIn wsX7_digest (wsV RX7 279 RX7 yX7_hiccups wsX7_hiccups) := goodIn_app (goodIn_of _ (by decide +kernel)) ggX7_digest_X7_hiccups
set_option maxRecDepth 20000 in
theorem ggX7_digest_X7_level : GoodIn wsX7_digest wsX7_level := goodIn_r _ [103, 104, 55, 56, 6, 57, 40, 41, 42, 105, 106, 107, 66, 67, 68, 69, 70, 8, 9, 71, 72, 73, 74, 75, 76, 77, 78, 79, 17, 18, 19, 20, 21, 22, 80, 28, 29, 30, 31, 81, 82, 83, 84, 85, 86, 87, 88, 35, 89, 90, 272, 273, 274, 250, 251, 252, 253, 254, 255, 256, 257, 258, 268, 269, 270, 271, 259, 260, 261, 262, 263] (by decide +kernel) (by decide +kernel)
set_option maxRecDepth 20000 in
theorem gX7_digest_X7_level : GoodIn wsX7_digest (wsV RX7 282 RX7 yX7_level wsX7_level) := goodIn_app (goodIn_of _ (by decide +kernel)) ggX7_digest_X7_level
set_option maxRecDepth 20000 in
theorem ggX7_digest_X7_heard : GoodIn wsX7_digest wsX7_heard := goodIn_r _ [111, 112, 55, 56, 6, 57, 40, 41, 42, 66, 67, 68, 69, 70, 8, 9, 71, 72, 73, 74, 75, 76, 77, 78, 79, 17, 18, 19, 20, 21, 22, 80, 28, 29, 30, 31, 81, 82, 83, 84, 85, 86, 87, 88, 35, 89, 90, 113, 114, 115, 116, 106, 107, 250, 251, 252, 253, 254, 255, 256, 257, 258, 272, 273, 274, 268, 269, 270, 271, 259, 260, 261, 262, 263] (by decide +kernel) (by decide +kernel)
set_option maxRecDepth 20000 in
theorem gX7_digest_X7_heard : GoodIn wsX7_digest (wsV RX7 285 RX7 yX7_heard wsX7_heard) := goodIn_app (goodIn_of _ (by decide +kernel)) ggX7_digest_X7_heard
set_option maxRecDepth 20000 in
theorem ggX7_digest_X7_fright : GoodIn wsX7_digest wsX7_fright := goodIn_r _ [120, 121, 8, 122, 9, 12, 55, 56, 6, 57, 40, 41, 42, 71, 72, 73, 74, 75, 76, 77, 78, 79, 17, 18, 19, 20, 21, 22, 80, 28, 29, 30, 31, 81, 82, 83, 84, 85, 86, 87, 88, 35, 89, 90, 91, 92, 93, 94, 95, 96, 97, 98, 99, 123, 124, 125, 126, 127, 128, 129, 130, 131, 132, 133, 250, 251, 252, 253, 254, 255, 256, 257, 258, 272, 273, 274, 268, 269, 270, 271, 259, 260, 261, 262, 263, 264, 265, 266, 267] (by decide +kernel) (by decide +kernel)
set_option maxRecDepth 20000 in
theorem gX7_digest_X7_fright : GoodIn wsX7_digest (wsV RX7 288 RX7 yX7_fright wsX7_fright) := goodIn_app (goodIn_of _ (by decide +kernel)) ggX7_digest_X7_fright
set_option maxRecDepth 20000 in
theorem ggX7_digest_X7_broken : GoodIn wsX7_digest wsX7_broken := goodIn_r _ [137, 40, 41, 6, 42, 138, 139, 140, 141, 62, 63, 64, 65, 9, 66, 67, 68, 69, 70, 8, 71, 72, 73, 74, 75, 76, 77, 78, 79, 17, 18, 19, 20, 21, 22, 80, 28, 29, 30, 31, 81, 82, 83, 84, 85, 86, 87, 88, 35, 89, 90, 91, 92, 93, 94, 95, 96, 97, 98, 99, 250, 251, 252, 253, 254, 255, 256, 257, 258, 272, 273, 274, 268, 269, 270, 271, 259, 260, 261, 262, 263] (by decide +kernel) (by decide +kernel)
set_option maxRecDepth 20000 in
theorem gX7_digest_X7_broken : GoodIn wsX7_digest (wsV RX7 291 RX7 yX7_broken wsX7_broken) := goodIn_app (goodIn_of _ (by decide +kernel)) ggX7_digest_X7_broken
set_option maxRecDepth 20000 in
theorem ggX7_digest_X7_judged : GoodIn wsX7_digest wsX7_judged := goodIn_r _ [145, 9, 11, 138, 139, 140, 6, 141, 62, 63, 64, 65, 66, 67, 68, 69, 70, 8, 71, 72, 73, 74, 75, 76, 77, 78, 79, 17, 18, 19, 20, 21, 22, 80, 28, 29, 30, 31, 81, 82, 83, 84, 85, 86, 87, 88, 35, 89, 90, 91, 92, 93, 94, 95, 96, 97, 98, 99, 146, 132, 133, 250, 251, 252, 253, 254, 255, 256, 257, 258, 259, 260, 261, 262, 263, 272, 273, 274, 268, 269, 270, 271] (by decide +kernel) (by decide +kernel)
set_option maxRecDepth 20000 in
theorem gX7_digest_X7_judged : GoodIn wsX7_digest (wsV RX7 294 RX7 yX7_judged wsX7_judged) := goodIn_app (goodIn_of _ (by decide +kernel)) ggX7_digest_X7_judged
set_option maxRecDepth 20000 in
theorem ggX7_digest_X7_armistice : GoodIn wsX7_digest wsX7_armistice := goodIn_r _ [150, 9, 11, 40, 41, 6, 42, 138, 139, 140, 141, 62, 63, 64, 65, 66, 67, 68, 69, 70, 8, 71, 72, 73, 74, 75, 76, 77, 78, 79, 17, 18, 19, 20, 21, 22, 80, 28, 29, 30, 31, 81, 82, 83, 84, 85, 86, 87, 88, 35, 89, 90, 91, 92, 93, 94, 95, 96, 97, 98, 99, 146, 132, 133, 250, 251, 252, 253, 254, 255, 256, 257, 258, 259, 260, 261, 262, 263, 272, 273, 274, 268, 269, 270, 271] (by decide +kernel) (by decide +kernel)
set_option maxRecDepth 20000 in
theorem gX7_digest_X7_armistice : GoodIn wsX7_digest (wsV RX7 297 RX7 yX7_armistice wsX7_armistice) := goodIn_app (goodIn_of _ (by decide +kernel)) ggX7_digest_X7_armistice
set_option maxRecDepth 20000 in
theorem ggX7_digest_X7_odds : GoodIn wsX7_digest wsX7_odds := goodIn_r _ [154, 155, 156, 157, 105, 106, 6, 107, 40, 41, 42, 66, 67, 68, 69, 70, 8, 9, 71, 72, 73, 74, 75, 76, 77, 78, 79, 17, 18, 19, 20, 21, 22, 80, 28, 29, 30, 31, 81, 82, 83, 84, 85, 86, 87, 88, 35, 89, 90, 113, 114, 115, 116, 250, 251, 252, 253, 254, 255, 256, 257, 258, 272, 273, 274, 268, 269, 270, 271, 259, 260, 261, 262, 263] (by decide +kernel) (by decide +kernel)
set_option maxRecDepth 20000 in
theorem gX7_digest_X7_odds : GoodIn wsX7_digest (wsV RX7 300 RX7 yX7_odds wsX7_odds) := goodIn_app (goodIn_of _ (by decide +kernel)) ggX7_digest_X7_odds
set_option maxRecDepth 20000 in
theorem ggX7_digest_X7_quiet : GoodIn wsX7_digest wsX7_quiet := goodIn_r _ [161, 162, 9, 163, 164, 165, 6, 166, 40, 41, 42, 105, 106, 107, 66, 67, 68, 69, 70, 8, 71, 72, 73, 74, 75, 76, 77, 78, 79, 17, 18, 19, 20, 21, 22, 80, 28, 29, 30, 31, 81, 82, 83, 84, 85, 86, 87, 88, 35, 89, 90, 167, 168, 169, 170, 62, 63, 64, 65, 91, 92, 93, 94, 95, 96, 97, 98, 99, 171, 172, 173, 174, 175, 176, 132, 133, 177, 178, 179, 180, 181, 182, 183, 184, 185, 186, 187, 188, 189, 190, 191, 192, 193, 194, 33, 34, 36, 37, 38, 39, 195, 196, 197, 198, 199, 200, 201, 202, 250, 251, 252, 253, 254, 255, 256, 257, 258, 272, 273, 274, 268, 269, 270, 271, 259, 260, 261, 262, 263, 275, 276] (by decide +kernel) (by decide +kernel)
set_option maxRecDepth 20000 in
theorem gX7_digest_X7_quiet : GoodIn wsX7_digest (wsV RX7 304 RX7 yX7_quiet wsX7_quiet) := goodIn_app (goodIn_of _ (by decide +kernel)) ggX7_digest_X7_quiet
set_option maxRecDepth 20000 in
theorem ggX7_digest_X7_force : GoodIn wsX7_digest wsX7_force := goodIn_r _ [206, 207, 9, 105, 106, 6, 107, 40, 41, 42, 66, 67, 68, 69, 70, 8, 71, 72, 73, 74, 75, 76, 77, 78, 79, 17, 18, 19, 20, 21, 22, 80, 28, 29, 30, 31, 81, 82, 83, 84, 85, 86, 87, 88, 35, 89, 90, 167, 168, 169, 170, 208, 209, 210, 211, 212, 213, 214, 215, 216, 217, 218, 219, 220, 221, 222, 186, 187, 188, 189, 223, 224, 225, 226, 227, 228, 96, 97, 98, 99, 229, 230, 231, 232, 233, 250, 251, 252, 253, 254, 255, 256, 257, 258, 272, 273, 274, 268, 269, 270, 271, 259, 260, 261, 262, 263, 277] (by decide +kernel) (by decide +kernel)
set_option maxRecDepth 20000 in
theorem gX7_digest_X7_force : GoodIn wsX7_digest (wsV RX7 308 RX7 yX7_force wsX7_force) := goodIn_app (goodIn_of _ (by decide +kernel)) ggX7_digest_X7_force
set_option maxRecDepth 20000 in
theorem ggX7_digest_X7_unlike : GoodIn wsX7_digest wsX7_unlike := goodIn_r _ [237, 12, 62, 63, 64, 6, 65, 9, 66, 67, 68, 69, 70, 8, 71, 72, 73, 74, 75, 76, 77, 78, 79, 17, 18, 19, 20, 21, 22, 80, 28, 29, 30, 31, 81, 82, 83, 84, 85, 86, 87, 88, 35, 89, 90, 91, 92, 93, 94, 95, 96, 97, 98, 99, 123, 124, 125, 126, 127, 128, 129, 130, 131, 132, 133, 250, 251, 252, 253, 254, 255, 256, 257, 258, 272, 273, 274, 268, 269, 270, 271, 259, 260, 261, 262, 263, 264, 265, 266, 267] (by decide +kernel) (by decide +kernel)
set_option maxRecDepth 20000 in
theorem gX7_digest_X7_unlike : GoodIn wsX7_digest (wsV RX7 311 RX7 yX7_unlike wsX7_unlike) := goodIn_app (goodIn_of _ (by decide +kernel)) ggX7_digest_X7_unlike
set_option maxRecDepth 20000 in
theorem ggX7_digest_X7_parrot : GoodIn wsX7_digest wsX7_parrot := goodIn_r _ [241, 164, 165, 6, 166, 40, 41, 42, 62, 63, 64, 65, 9, 66, 67, 68, 69, 70, 8, 71, 72, 73, 74, 75, 76, 77, 78, 79, 17, 18, 19, 20, 21, 22, 80, 28, 29, 30, 31, 81, 82, 83, 84, 85, 86, 87, 88, 35, 89, 90, 91, 92, 93, 94, 95, 96, 97, 98, 99, 250, 251, 252, 253, 254, 255, 256, 257, 258, 272, 273, 274, 268, 269, 270, 271, 259, 260, 261, 262, 263] (by decide +kernel) (by decide +kernel)
set_option maxRecDepth 20000 in
theorem gX7_digest_X7_parrot : GoodIn wsX7_digest (wsV RX7 314 RX7 yX7_parrot wsX7_parrot) := goodIn_app (goodIn_of _ (by decide +kernel)) ggX7_digest_X7_parrot
set_option maxRecDepth 20000 in
theorem ggX7_digest_X7_trained : GoodIn wsX7_digest wsX7_trained := goodIn_r _ [245, 164, 165, 6, 166, 40, 41, 42, 62, 63, 64, 65, 9, 66, 67, 68, 69, 70, 8, 71, 72, 73, 74, 75, 76, 77, 78, 79, 17, 18, 19, 20, 21, 22, 80, 28, 29, 30, 31, 81, 82, 83, 84, 85, 86, 87, 88, 35, 89, 90, 91, 92, 93, 94, 95, 96, 97, 98, 99, 246, 247, 248, 249, 121, 43, 44, 45, 46, 47, 48, 49, 250, 251, 252, 253, 254, 255, 256, 257, 258, 272, 273, 274, 268, 269, 270, 271, 259, 260, 261, 262, 263] (by decide +kernel) (by decide +kernel)
set_option maxRecDepth 20000 in
theorem gX7_digest_X7_trained : GoodIn wsX7_digest (wsV RX7 317 RX7 yX7_trained wsX7_trained) := goodIn_app (goodIn_of _ (by decide +kernel)) ggX7_digest_X7_trained
theorem dX7_digest_0 : decode cX7_digest 0 = .ok (.ldc2_w 269, 3) := by decide +kernel
theorem dX7_digest_3 : decode cX7_digest 3 = .ok (.lstore_n 1, 1) := by decide +kernel
theorem dX7_digest_4 : decode cX7_digest 4 = .ok (.iconst 0, 1) := by decide +kernel
theorem dX7_digest_5 : decode cX7_digest 5 = .ok (.istore_n 3, 1) := by decide +kernel
theorem dX7_digest_6 : decode cX7_digest 6 = .ok (.iload_n 3, 1) := by decide +kernel
theorem dX7_digest_7 : decode cX7_digest 7 = .ok (.bipush 7, 2) := by decide +kernel
theorem dX7_digest_9 : decode cX7_digest 9 = .ok (.if_icmp .gt 22, 3) := by decide +kernel
theorem dX7_digest_12 : decode cX7_digest 12 = .ok (.ldc2_w 271, 3) := by decide +kernel
theorem dX7_digest_15 : decode cX7_digest 15 = .ok (.lload_n 1, 1) := by decide +kernel
theorem dX7_digest_16 : decode cX7_digest 16 = .ok (.lmul, 1) := by decide +kernel
theorem dX7_digest_17 : decode cX7_digest 17 = .ok (.aload_n 0, 1) := by decide +kernel
theorem dX7_digest_18 : decode cX7_digest 18 = .ok (.iload_n 3, 1) := by decide +kernel
theorem dX7_digest_19 : decode cX7_digest 19 = .ok (.invokevirtual 273, 3) := by decide +kernel
theorem dX7_digest_22 : decode cX7_digest 22 = .ok (.i2l, 1) := by decide +kernel
theorem dX7_digest_23 : decode cX7_digest 23 = .ok (.ladd, 1) := by decide +kernel
theorem dX7_digest_24 : decode cX7_digest 24 = .ok (.lstore_n 1, 1) := by decide +kernel
theorem dX7_digest_25 : decode cX7_digest 25 = .ok (.iinc 3 1, 3) := by decide +kernel
theorem dX7_digest_28 : decode cX7_digest 28 = .ok (.goto (-22), 3) := by decide +kernel
theorem dX7_digest_31 : decode cX7_digest 31 = .ok (.iconst 0, 1) := by decide +kernel
theorem dX7_digest_32 : decode cX7_digest 32 = .ok (.istore_n 3, 1) := by decide +kernel
theorem dX7_digest_33 : decode cX7_digest 33 = .ok (.iload_n 3, 1) := by decide +kernel
theorem dX7_digest_34 : decode cX7_digest 34 = .ok (.iconst 3, 1) := by decide +kernel
theorem dX7_digest_35 : decode cX7_digest 35 = .ok (.if_icmp .ge 107, 3) := by decide +kernel
theorem dX7_digest_38 : decode cX7_digest 38 = .ok (.ldc2_w 271, 3) := by decide +kernel
theorem dX7_digest_41 : decode cX7_digest 41 = .ok (.lload_n 1, 1) := by decide +kernel
theorem dX7_digest_42 : decode cX7_digest 42 = .ok (.lmul, 1) := by decide +kernel
theorem dX7_digest_43 : decode cX7_digest 43 = .ok (.aload_n 0, 1) := by decide +kernel
theorem dX7_digest_44 : decode cX7_digest 44 = .ok (.iload_n 3, 1) := by decide +kernel
theorem dX7_digest_45 : decode cX7_digest 45 = .ok (.invokevirtual 276, 3) := by decide +kernel
theorem dX7_digest_48 : decode cX7_digest 48 = .ok (.i2l, 1) := by decide +kernel
theorem dX7_digest_49 : decode cX7_digest 49 = .ok (.ladd, 1) := by decide +kernel
theorem dX7_digest_50 : decode cX7_digest 50 = .ok (.lstore_n 1, 1) := by decide +kernel
theorem dX7_digest_51 : decode cX7_digest 51 = .ok (.ldc2_w 271, 3) := by decide +kernel
theorem dX7_digest_54 : decode cX7_digest 54 = .ok (.lload_n 1, 1) := by decide +kernel
theorem dX7_digest_55 : decode cX7_digest 55 = .ok (.lmul, 1) := by decide +kernel
theorem dX7_digest_56 : decode cX7_digest 56 = .ok (.aload_n 0, 1) := by decide +kernel
theorem dX7_digest_57 : decode cX7_digest 57 = .ok (.iload_n 3, 1) := by decide +kernel
theorem dX7_digest_58 : decode cX7_digest 58 = .ok (.invokevirtual 279, 3) := by decide +kernel
theorem dX7_digest_61 : decode cX7_digest 61 = .ok (.i2l, 1) := by decide +kernel
theorem dX7_digest_62 : decode cX7_digest 62 = .ok (.ladd, 1) := by decide +kernel
theorem dX7_digest_63 : decode cX7_digest 63 = .ok (.lstore_n 1, 1) := by decide +kernel
theorem dX7_digest_64 : decode cX7_digest 64 = .ok (.ldc2_w 271, 3) := by decide +kernel
theorem dX7_digest_67 : decode cX7_digest 67 = .ok (.lload_n 1, 1) := by decide +kernel
theorem dX7_digest_68 : decode cX7_digest 68 = .ok (.lmul, 1) := by decide +kernel
theorem dX7_digest_69 : decode cX7_digest 69 = .ok (.aload_n 0, 1) := by decide +kernel
theorem dX7_digest_70 : decode cX7_digest 70 = .ok (.iload_n 3, 1) := by decide +kernel
theorem dX7_digest_71 : decode cX7_digest 71 = .ok (.iconst 0, 1) := by decide +kernel
theorem dX7_digest_72 : decode cX7_digest 72 = .ok (.invokevirtual 282, 3) := by decide +kernel
theorem dX7_digest_75 : decode cX7_digest 75 = .ok (.i2l, 1) := by decide +kernel
theorem dX7_digest_76 : decode cX7_digest 76 = .ok (.ladd, 1) := by decide +kernel
theorem dX7_digest_77 : decode cX7_digest 77 = .ok (.lstore_n 1, 1) := by decide +kernel
theorem dX7_digest_78 : decode cX7_digest 78 = .ok (.ldc2_w 271, 3) := by decide +kernel
theorem dX7_digest_81 : decode cX7_digest 81 = .ok (.lload_n 1, 1) := by decide +kernel
theorem dX7_digest_82 : decode cX7_digest 82 = .ok (.lmul, 1) := by decide +kernel
theorem dX7_digest_83 : decode cX7_digest 83 = .ok (.aload_n 0, 1) := by decide +kernel
theorem dX7_digest_84 : decode cX7_digest 84 = .ok (.iload_n 3, 1) := by decide +kernel
theorem dX7_digest_85 : decode cX7_digest 85 = .ok (.bipush 9, 2) := by decide +kernel
theorem dX7_digest_87 : decode cX7_digest 87 = .ok (.invokevirtual 282, 3) := by decide +kernel
theorem dX7_digest_90 : decode cX7_digest 90 = .ok (.i2l, 1) := by decide +kernel
theorem dX7_digest_91 : decode cX7_digest 91 = .ok (.ladd, 1) := by decide +kernel
theorem dX7_digest_92 : decode cX7_digest 92 = .ok (.lstore_n 1, 1) := by decide +kernel
theorem dX7_digest_93 : decode cX7_digest 93 = .ok (.ldc2_w 271, 3) := by decide +kernel
theorem dX7_digest_96 : decode cX7_digest 96 = .ok (.lload_n 1, 1) := by decide +kernel
theorem dX7_digest_97 : decode cX7_digest 97 = .ok (.lmul, 1) := by decide +kernel
theorem dX7_digest_98 : decode cX7_digest 98 = .ok (.aload_n 0, 1) := by decide +kernel
theorem dX7_digest_99 : decode cX7_digest 99 = .ok (.iload_n 3, 1) := by decide +kernel
theorem dX7_digest_100 : decode cX7_digest 100 = .ok (.bipush 23, 2) := by decide +kernel
theorem dX7_digest_102 : decode cX7_digest 102 = .ok (.invokevirtual 282, 3) := by decide +kernel
theorem dX7_digest_105 : decode cX7_digest 105 = .ok (.i2l, 1) := by decide +kernel
theorem dX7_digest_106 : decode cX7_digest 106 = .ok (.ladd, 1) := by decide +kernel
theorem dX7_digest_107 : decode cX7_digest 107 = .ok (.lstore_n 1, 1) := by decide +kernel
theorem dX7_digest_108 : decode cX7_digest 108 = .ok (.ldc2_w 271, 3) := by decide +kernel
theorem dX7_digest_111 : decode cX7_digest 111 = .ok (.lload_n 1, 1) := by decide +kernel
theorem dX7_digest_112 : decode cX7_digest 112 = .ok (.lmul, 1) := by decide +kernel
theorem dX7_digest_113 : decode cX7_digest 113 = .ok (.aload_n 0, 1) := by decide +kernel
theorem dX7_digest_114 : decode cX7_digest 114 = .ok (.iload_n 3, 1) := by decide +kernel
theorem dX7_digest_115 : decode cX7_digest 115 = .ok (.bipush 7, 2) := by decide +kernel
theorem dX7_digest_117 : decode cX7_digest 117 = .ok (.invokevirtual 285, 3) := by decide +kernel
theorem dX7_digest_120 : decode cX7_digest 120 = .ok (.i2l, 1) := by decide +kernel
theorem dX7_digest_121 : decode cX7_digest 121 = .ok (.ladd, 1) := by decide +kernel
theorem dX7_digest_122 : decode cX7_digest 122 = .ok (.lstore_n 1, 1) := by decide +kernel
theorem dX7_digest_123 : decode cX7_digest 123 = .ok (.ldc2_w 271, 3) := by decide +kernel
theorem dX7_digest_126 : decode cX7_digest 126 = .ok (.lload_n 1, 1) := by decide +kernel
theorem dX7_digest_127 : decode cX7_digest 127 = .ok (.lmul, 1) := by decide +kernel
theorem dX7_digest_128 : decode cX7_digest 128 = .ok (.aload_n 0, 1) := by decide +kernel
theorem dX7_digest_129 : decode cX7_digest 129 = .ok (.iload_n 3, 1) := by decide +kernel
theorem dX7_digest_130 : decode cX7_digest 130 = .ok (.invokevirtual 288, 3) := by decide +kernel
theorem dX7_digest_133 : decode cX7_digest 133 = .ok (.i2l, 1) := by decide +kernel
theorem dX7_digest_134 : decode cX7_digest 134 = .ok (.ladd, 1) := by decide +kernel
theorem dX7_digest_135 : decode cX7_digest 135 = .ok (.lstore_n 1, 1) := by decide +kernel
theorem dX7_digest_136 : decode cX7_digest 136 = .ok (.iinc 3 1, 3) := by decide +kernel
theorem dX7_digest_139 : decode cX7_digest 139 = .ok (.goto (-106), 3) := by decide +kernel
theorem dX7_digest_142 : decode cX7_digest 142 = .ok (.iconst 0, 1) := by decide +kernel
theorem dX7_digest_143 : decode cX7_digest 143 = .ok (.istore_n 3, 1) := by decide +kernel
theorem dX7_digest_144 : decode cX7_digest 144 = .ok (.iload_n 3, 1) := by decide +kernel
theorem dX7_digest_145 : decode cX7_digest 145 = .ok (.iconst 3, 1) := by decide +kernel
theorem dX7_digest_146 : decode cX7_digest 146 = .ok (.if_icmp .ge 22, 3) := by decide +kernel
theorem dX7_digest_149 : decode cX7_digest 149 = .ok (.ldc2_w 271, 3) := by decide +kernel
theorem dX7_digest_152 : decode cX7_digest 152 = .ok (.lload_n 1, 1) := by decide +kernel
theorem dX7_digest_153 : decode cX7_digest 153 = .ok (.lmul, 1) := by decide +kernel
theorem dX7_digest_154 : decode cX7_digest 154 = .ok (.aload_n 0, 1) := by decide +kernel
theorem dX7_digest_155 : decode cX7_digest 155 = .ok (.iload_n 3, 1) := by decide +kernel
theorem dX7_digest_156 : decode cX7_digest 156 = .ok (.invokevirtual 291, 3) := by decide +kernel
theorem dX7_digest_159 : decode cX7_digest 159 = .ok (.i2l, 1) := by decide +kernel
theorem dX7_digest_160 : decode cX7_digest 160 = .ok (.ladd, 1) := by decide +kernel
theorem dX7_digest_161 : decode cX7_digest 161 = .ok (.lstore_n 1, 1) := by decide +kernel
theorem dX7_digest_162 : decode cX7_digest 162 = .ok (.iinc 3 1, 3) := by decide +kernel
theorem dX7_digest_165 : decode cX7_digest 165 = .ok (.goto (-21), 3) := by decide +kernel
theorem dX7_digest_168 : decode cX7_digest 168 = .ok (.ldc2_w 271, 3) := by decide +kernel
theorem dX7_digest_171 : decode cX7_digest 171 = .ok (.lload_n 1, 1) := by decide +kernel
theorem dX7_digest_172 : decode cX7_digest 172 = .ok (.lmul, 1) := by decide +kernel
theorem dX7_digest_173 : decode cX7_digest 173 = .ok (.aload_n 0, 1) := by decide +kernel
theorem dX7_digest_174 : decode cX7_digest 174 = .ok (.invokevirtual 294, 3) := by decide +kernel
theorem dX7_digest_177 : decode cX7_digest 177 = .ok (.i2l, 1) := by decide +kernel
theorem dX7_digest_178 : decode cX7_digest 178 = .ok (.ladd, 1) := by decide +kernel
theorem dX7_digest_179 : decode cX7_digest 179 = .ok (.lstore_n 1, 1) := by decide +kernel
theorem dX7_digest_180 : decode cX7_digest 180 = .ok (.ldc2_w 271, 3) := by decide +kernel
theorem dX7_digest_183 : decode cX7_digest 183 = .ok (.lload_n 1, 1) := by decide +kernel
theorem dX7_digest_184 : decode cX7_digest 184 = .ok (.lmul, 1) := by decide +kernel
theorem dX7_digest_185 : decode cX7_digest 185 = .ok (.aload_n 0, 1) := by decide +kernel
theorem dX7_digest_186 : decode cX7_digest 186 = .ok (.iconst 0, 1) := by decide +kernel
theorem dX7_digest_187 : decode cX7_digest 187 = .ok (.invokevirtual 297, 3) := by decide +kernel
theorem dX7_digest_190 : decode cX7_digest 190 = .ok (.i2l, 1) := by decide +kernel
theorem dX7_digest_191 : decode cX7_digest 191 = .ok (.ladd, 1) := by decide +kernel
theorem dX7_digest_192 : decode cX7_digest 192 = .ok (.lstore_n 1, 1) := by decide +kernel
theorem dX7_digest_193 : decode cX7_digest 193 = .ok (.ldc2_w 271, 3) := by decide +kernel
theorem dX7_digest_196 : decode cX7_digest 196 = .ok (.lload_n 1, 1) := by decide +kernel
theorem dX7_digest_197 : decode cX7_digest 197 = .ok (.lmul, 1) := by decide +kernel
theorem dX7_digest_198 : decode cX7_digest 198 = .ok (.aload_n 0, 1) := by decide +kernel
theorem dX7_digest_199 : decode cX7_digest 199 = .ok (.iconst 1, 1) := by decide +kernel
theorem dX7_digest_200 : decode cX7_digest 200 = .ok (.invokevirtual 297, 3) := by decide +kernel
theorem dX7_digest_203 : decode cX7_digest 203 = .ok (.i2l, 1) := by decide +kernel
theorem dX7_digest_204 : decode cX7_digest 204 = .ok (.ladd, 1) := by decide +kernel
theorem dX7_digest_205 : decode cX7_digest 205 = .ok (.lstore_n 1, 1) := by decide +kernel
theorem dX7_digest_206 : decode cX7_digest 206 = .ok (.ldc2_w 271, 3) := by decide +kernel
theorem dX7_digest_209 : decode cX7_digest 209 = .ok (.lload_n 1, 1) := by decide +kernel
theorem dX7_digest_210 : decode cX7_digest 210 = .ok (.lmul, 1) := by decide +kernel
theorem dX7_digest_211 : decode cX7_digest 211 = .ok (.aload_n 0, 1) := by decide +kernel
theorem dX7_digest_212 : decode cX7_digest 212 = .ok (.iconst 4, 1) := by decide +kernel
theorem dX7_digest_213 : decode cX7_digest 213 = .ok (.iconst 5, 1) := by decide +kernel
theorem dX7_digest_214 : decode cX7_digest 214 = .ok (.iconst 0, 1) := by decide +kernel
theorem dX7_digest_215 : decode cX7_digest 215 = .ok (.invokevirtual 300, 3) := by decide +kernel
theorem dX7_digest_218 : decode cX7_digest 218 = .ok (.ladd, 1) := by decide +kernel
theorem dX7_digest_219 : decode cX7_digest 219 = .ok (.lstore_n 1, 1) := by decide +kernel
theorem dX7_digest_220 : decode cX7_digest 220 = .ok (.ldc2_w 271, 3) := by decide +kernel
theorem dX7_digest_223 : decode cX7_digest 223 = .ok (.lload_n 1, 1) := by decide +kernel
theorem dX7_digest_224 : decode cX7_digest 224 = .ok (.lmul, 1) := by decide +kernel
theorem dX7_digest_225 : decode cX7_digest 225 = .ok (.aload_n 0, 1) := by decide +kernel
theorem dX7_digest_226 : decode cX7_digest 226 = .ok (.iconst 4, 1) := by decide +kernel
theorem dX7_digest_227 : decode cX7_digest 227 = .ok (.iconst 5, 1) := by decide +kernel
theorem dX7_digest_228 : decode cX7_digest 228 = .ok (.iconst 1, 1) := by decide +kernel
theorem dX7_digest_229 : decode cX7_digest 229 = .ok (.invokevirtual 300, 3) := by decide +kernel
theorem dX7_digest_232 : decode cX7_digest 232 = .ok (.ladd, 1) := by decide +kernel
theorem dX7_digest_233 : decode cX7_digest 233 = .ok (.lstore_n 1, 1) := by decide +kernel
theorem dX7_digest_234 : decode cX7_digest 234 = .ok (.iconst 0, 1) := by decide +kernel
theorem dX7_digest_235 : decode cX7_digest 235 = .ok (.istore_n 3, 1) := by decide +kernel
theorem dX7_digest_236 : decode cX7_digest 236 = .ok (.iload_n 3, 1) := by decide +kernel
theorem dX7_digest_237 : decode cX7_digest 237 = .ok (.iconst 2, 1) := by decide +kernel
theorem dX7_digest_238 : decode cX7_digest 238 = .ok (.if_icmp .ge 43, 3) := by decide +kernel
theorem dX7_digest_241 : decode cX7_digest 241 = .ok (.ldc2_w 271, 3) := by decide +kernel
theorem dX7_digest_244 : decode cX7_digest 244 = .ok (.lload_n 1, 1) := by decide +kernel
theorem dX7_digest_245 : decode cX7_digest 245 = .ok (.lmul, 1) := by decide +kernel
theorem dX7_digest_246 : decode cX7_digest 246 = .ok (.aload_n 0, 1) := by decide +kernel
theorem dX7_digest_247 : decode cX7_digest 247 = .ok (.iload_n 3, 1) := by decide +kernel
theorem dX7_digest_248 : decode cX7_digest 248 = .ok (.iconst 2, 1) := by decide +kernel
theorem dX7_digest_249 : decode cX7_digest 249 = .ok (.bipush 9, 2) := by decide +kernel
theorem dX7_digest_251 : decode cX7_digest 251 = .ok (.iconst (-1), 1) := by decide +kernel
theorem dX7_digest_252 : decode cX7_digest 252 = .ok (.invokevirtual 304, 3) := by decide +kernel
theorem dX7_digest_255 : decode cX7_digest 255 = .ok (.i2l, 1) := by decide +kernel
theorem dX7_digest_256 : decode cX7_digest 256 = .ok (.ladd, 1) := by decide +kernel
theorem dX7_digest_257 : decode cX7_digest 257 = .ok (.lstore_n 1, 1) := by decide +kernel
theorem dX7_digest_258 : decode cX7_digest 258 = .ok (.ldc2_w 271, 3) := by decide +kernel
theorem dX7_digest_261 : decode cX7_digest 261 = .ok (.lload_n 1, 1) := by decide +kernel
theorem dX7_digest_262 : decode cX7_digest 262 = .ok (.lmul, 1) := by decide +kernel
theorem dX7_digest_263 : decode cX7_digest 263 = .ok (.aload_n 0, 1) := by decide +kernel
theorem dX7_digest_264 : decode cX7_digest 264 = .ok (.iload_n 3, 1) := by decide +kernel
theorem dX7_digest_265 : decode cX7_digest 265 = .ok (.iconst 2, 1) := by decide +kernel
theorem dX7_digest_266 : decode cX7_digest 266 = .ok (.bipush 9, 2) := by decide +kernel
theorem dX7_digest_268 : decode cX7_digest 268 = .ok (.iconst 0, 1) := by decide +kernel
theorem dX7_digest_269 : decode cX7_digest 269 = .ok (.invokevirtual 304, 3) := by decide +kernel
theorem dX7_digest_272 : decode cX7_digest 272 = .ok (.i2l, 1) := by decide +kernel
theorem dX7_digest_273 : decode cX7_digest 273 = .ok (.ladd, 1) := by decide +kernel
theorem dX7_digest_274 : decode cX7_digest 274 = .ok (.lstore_n 1, 1) := by decide +kernel
theorem dX7_digest_275 : decode cX7_digest 275 = .ok (.iinc 3 1, 3) := by decide +kernel
theorem dX7_digest_278 : decode cX7_digest 278 = .ok (.goto (-42), 3) := by decide +kernel
theorem dX7_digest_281 : decode cX7_digest 281 = .ok (.ldc2_w 271, 3) := by decide +kernel
theorem dX7_digest_284 : decode cX7_digest 284 = .ok (.lload_n 1, 1) := by decide +kernel
theorem dX7_digest_285 : decode cX7_digest 285 = .ok (.lmul, 1) := by decide +kernel
theorem dX7_digest_286 : decode cX7_digest 286 = .ok (.aload_n 0, 1) := by decide +kernel
theorem dX7_digest_287 : decode cX7_digest 287 = .ok (.iconst 3, 1) := by decide +kernel
theorem dX7_digest_288 : decode cX7_digest 288 = .ok (.bipush 6, 2) := by decide +kernel
theorem dX7_digest_290 : decode cX7_digest 290 = .ok (.iconst 0, 1) := by decide +kernel
theorem dX7_digest_291 : decode cX7_digest 291 = .ok (.invokevirtual 308, 3) := by decide +kernel
theorem dX7_digest_294 : decode cX7_digest 294 = .ok (.i2l, 1) := by decide +kernel
theorem dX7_digest_295 : decode cX7_digest 295 = .ok (.ladd, 1) := by decide +kernel
theorem dX7_digest_296 : decode cX7_digest 296 = .ok (.lstore_n 1, 1) := by decide +kernel
theorem dX7_digest_297 : decode cX7_digest 297 = .ok (.ldc2_w 271, 3) := by decide +kernel
theorem dX7_digest_300 : decode cX7_digest 300 = .ok (.lload_n 1, 1) := by decide +kernel
theorem dX7_digest_301 : decode cX7_digest 301 = .ok (.lmul, 1) := by decide +kernel
theorem dX7_digest_302 : decode cX7_digest 302 = .ok (.aload_n 0, 1) := by decide +kernel
theorem dX7_digest_303 : decode cX7_digest 303 = .ok (.iconst 3, 1) := by decide +kernel
theorem dX7_digest_304 : decode cX7_digest 304 = .ok (.bipush 6, 2) := by decide +kernel
theorem dX7_digest_306 : decode cX7_digest 306 = .ok (.iconst 1, 1) := by decide +kernel
theorem dX7_digest_307 : decode cX7_digest 307 = .ok (.invokevirtual 308, 3) := by decide +kernel
theorem dX7_digest_310 : decode cX7_digest 310 = .ok (.i2l, 1) := by decide +kernel
theorem dX7_digest_311 : decode cX7_digest 311 = .ok (.ladd, 1) := by decide +kernel
theorem dX7_digest_312 : decode cX7_digest 312 = .ok (.lstore_n 1, 1) := by decide +kernel
theorem dX7_digest_313 : decode cX7_digest 313 = .ok (.ldc2_w 271, 3) := by decide +kernel
theorem dX7_digest_316 : decode cX7_digest 316 = .ok (.lload_n 1, 1) := by decide +kernel
theorem dX7_digest_317 : decode cX7_digest 317 = .ok (.lmul, 1) := by decide +kernel
theorem dX7_digest_318 : decode cX7_digest 318 = .ok (.aload_n 0, 1) := by decide +kernel
theorem dX7_digest_319 : decode cX7_digest 319 = .ok (.invokevirtual 311, 3) := by decide +kernel
theorem dX7_digest_322 : decode cX7_digest 322 = .ok (.i2l, 1) := by decide +kernel
theorem dX7_digest_323 : decode cX7_digest 323 = .ok (.ladd, 1) := by decide +kernel
theorem dX7_digest_324 : decode cX7_digest 324 = .ok (.lstore_n 1, 1) := by decide +kernel
theorem dX7_digest_325 : decode cX7_digest 325 = .ok (.ldc2_w 271, 3) := by decide +kernel
theorem dX7_digest_328 : decode cX7_digest 328 = .ok (.lload_n 1, 1) := by decide +kernel
theorem dX7_digest_329 : decode cX7_digest 329 = .ok (.lmul, 1) := by decide +kernel
theorem dX7_digest_330 : decode cX7_digest 330 = .ok (.aload_n 0, 1) := by decide +kernel
theorem dX7_digest_331 : decode cX7_digest 331 = .ok (.iconst 0, 1) := by decide +kernel
theorem dX7_digest_332 : decode cX7_digest 332 = .ok (.invokevirtual 314, 3) := by decide +kernel
theorem dX7_digest_335 : decode cX7_digest 335 = .ok (.i2l, 1) := by decide +kernel
theorem dX7_digest_336 : decode cX7_digest 336 = .ok (.ladd, 1) := by decide +kernel
theorem dX7_digest_337 : decode cX7_digest 337 = .ok (.lstore_n 1, 1) := by decide +kernel
theorem dX7_digest_338 : decode cX7_digest 338 = .ok (.ldc2_w 271, 3) := by decide +kernel
theorem dX7_digest_341 : decode cX7_digest 341 = .ok (.lload_n 1, 1) := by decide +kernel
theorem dX7_digest_342 : decode cX7_digest 342 = .ok (.lmul, 1) := by decide +kernel
theorem dX7_digest_343 : decode cX7_digest 343 = .ok (.aload_n 0, 1) := by decide +kernel
theorem dX7_digest_344 : decode cX7_digest 344 = .ok (.iconst 1, 1) := by decide +kernel
theorem dX7_digest_345 : decode cX7_digest 345 = .ok (.invokevirtual 314, 3) := by decide +kernel
theorem dX7_digest_348 : decode cX7_digest 348 = .ok (.i2l, 1) := by decide +kernel
theorem dX7_digest_349 : decode cX7_digest 349 = .ok (.ladd, 1) := by decide +kernel
theorem dX7_digest_350 : decode cX7_digest 350 = .ok (.lstore_n 1, 1) := by decide +kernel
theorem dX7_digest_351 : decode cX7_digest 351 = .ok (.iconst 0, 1) := by decide +kernel
theorem dX7_digest_352 : decode cX7_digest 352 = .ok (.istore_n 3, 1) := by decide +kernel
theorem dX7_digest_353 : decode cX7_digest 353 = .ok (.iload_n 3, 1) := by decide +kernel
theorem dX7_digest_354 : decode cX7_digest 354 = .ok (.iconst 2, 1) := by decide +kernel
theorem dX7_digest_355 : decode cX7_digest 355 = .ok (.if_icmp .gt 23, 3) := by decide +kernel
theorem dX7_digest_358 : decode cX7_digest 358 = .ok (.ldc2_w 271, 3) := by decide +kernel
theorem dX7_digest_361 : decode cX7_digest 361 = .ok (.lload_n 1, 1) := by decide +kernel
theorem dX7_digest_362 : decode cX7_digest 362 = .ok (.lmul, 1) := by decide +kernel
theorem dX7_digest_363 : decode cX7_digest 363 = .ok (.aload_n 0, 1) := by decide +kernel
theorem dX7_digest_364 : decode cX7_digest 364 = .ok (.iconst 0, 1) := by decide +kernel
theorem dX7_digest_365 : decode cX7_digest 365 = .ok (.iload_n 3, 1) := by decide +kernel
theorem dX7_digest_366 : decode cX7_digest 366 = .ok (.invokevirtual 317, 3) := by decide +kernel
theorem dX7_digest_369 : decode cX7_digest 369 = .ok (.i2l, 1) := by decide +kernel
theorem dX7_digest_370 : decode cX7_digest 370 = .ok (.ladd, 1) := by decide +kernel
theorem dX7_digest_371 : decode cX7_digest 371 = .ok (.lstore_n 1, 1) := by decide +kernel
theorem dX7_digest_372 : decode cX7_digest 372 = .ok (.iinc 3 1, 3) := by decide +kernel
theorem dX7_digest_375 : decode cX7_digest 375 = .ok (.goto (-22), 3) := by decide +kernel
theorem dX7_digest_378 : decode cX7_digest 378 = .ok (.lload_n 1, 1) := by decide +kernel
theorem dX7_digest_379 : decode cX7_digest 379 = .ok (.lreturn, 1) := by decide +kernel
theorem dX7_within_0 : decode cX7_within 0 = .ok (.iload_n 0, 1) := by decide +kernel
theorem dX7_within_1 : decode cX7_within 1 = .ok (.iload_n 1, 1) := by decide +kernel
theorem dX7_within_2 : decode cX7_within 2 = .ok (.if_icmp .lt 12, 3) := by decide +kernel
theorem dX7_within_5 : decode cX7_within 5 = .ok (.iload_n 0, 1) := by decide +kernel
theorem dX7_within_6 : decode cX7_within 6 = .ok (.iload_n 2, 1) := by decide +kernel
theorem dX7_within_7 : decode cX7_within 7 = .ok (.if_icmp .gt 7, 3) := by decide +kernel
theorem dX7_within_10 : decode cX7_within 10 = .ok (.iconst 1, 1) := by decide +kernel
theorem dX7_within_11 : decode cX7_within 11 = .ok (.goto 4, 3) := by decide +kernel
theorem dX7_within_14 : decode cX7_within 14 = .ok (.iconst 0, 1) := by decide +kernel
theorem dX7_within_15 : decode cX7_within 15 = .ok (.ireturn, 1) := by decide +kernel
set_option maxRecDepth 20000 in
theorem ggX7_isGeneral_X7_within : GoodIn wsX7_isGeneral wsX7_within := goodIn_r _ [4] (by decide +kernel) (by decide +kernel)
set_option maxRecDepth 20000 in
theorem gX7_isGeneral_X7_within : GoodIn wsX7_isGeneral (va_wsS RX7 70 yX7_within wsX7_within) := goodIn_app (goodIn_of _ (by decide +kernel)) ggX7_isGeneral_X7_within
theorem dX7_isGeneral_0 : decode cX7_isGeneral 0 = .ok (.iload_n 0, 1) := by decide +kernel
theorem dX7_isGeneral_1 : decode cX7_isGeneral 1 = .ok (.iconst 0, 1) := by decide +kernel
theorem dX7_isGeneral_2 : decode cX7_isGeneral 2 = .ok (.iconst 2, 1) := by decide +kernel
theorem dX7_isGeneral_3 : decode cX7_isGeneral 3 = .ok (.invokestatic 70, 3) := by decide +kernel
theorem dX7_isGeneral_6 : decode cX7_isGeneral 6 = .ok (.ireturn, 1) := by decide +kernel
set_option maxRecDepth 20000 in
theorem ggX7_isSide_X7_within : GoodIn wsX7_isSide wsX7_within := goodIn_r _ [4] (by decide +kernel) (by decide +kernel)
set_option maxRecDepth 20000 in
theorem gX7_isSide_X7_within : GoodIn wsX7_isSide (va_wsS RX7 70 yX7_within wsX7_within) := goodIn_app (goodIn_of _ (by decide +kernel)) ggX7_isSide_X7_within
theorem dX7_isSide_0 : decode cX7_isSide 0 = .ok (.iload_n 0, 1) := by decide +kernel
theorem dX7_isSide_1 : decode cX7_isSide 1 = .ok (.iconst 0, 1) := by decide +kernel
theorem dX7_isSide_2 : decode cX7_isSide 2 = .ok (.iconst 1, 1) := by decide +kernel
theorem dX7_isSide_3 : decode cX7_isSide 3 = .ok (.invokestatic 70, 3) := by decide +kernel
theorem dX7_isSide_6 : decode cX7_isSide 6 = .ok (.ireturn, 1) := by decide +kernel
set_option maxRecDepth 20000 in
theorem ggX7_isHour_X7_within : GoodIn wsX7_isHour wsX7_within := goodIn_r _ [4] (by decide +kernel) (by decide +kernel)
set_option maxRecDepth 20000 in
theorem gX7_isHour_X7_within : GoodIn wsX7_isHour (va_wsS RX7 70 yX7_within wsX7_within) := goodIn_app (goodIn_of _ (by decide +kernel)) ggX7_isHour_X7_within
theorem dX7_isHour_0 : decode cX7_isHour 0 = .ok (.iload_n 0, 1) := by decide +kernel
theorem dX7_isHour_1 : decode cX7_isHour 1 = .ok (.iconst 0, 1) := by decide +kernel
theorem dX7_isHour_2 : decode cX7_isHour 2 = .ok (.bipush 23, 2) := by decide +kernel
theorem dX7_isHour_4 : decode cX7_isHour 4 = .ok (.invokestatic 70, 3) := by decide +kernel
theorem dX7_isHour_7 : decode cX7_isHour 7 = .ok (.ireturn, 1) := by decide +kernel
set_option maxRecDepth 20000 in
theorem ggX7_isDish_X7_within : GoodIn wsX7_isDish wsX7_within := goodIn_r _ [4] (by decide +kernel) (by decide +kernel)
set_option maxRecDepth 20000 in
theorem gX7_isDish_X7_within : GoodIn wsX7_isDish (va_wsS RX7 70 yX7_within wsX7_within) := goodIn_app (goodIn_of _ (by decide +kernel)) ggX7_isDish_X7_within
theorem dX7_isDish_0 : decode cX7_isDish 0 = .ok (.iload_n 0, 1) := by decide +kernel
theorem dX7_isDish_1 : decode cX7_isDish 1 = .ok (.iconst 0, 1) := by decide +kernel
theorem dX7_isDish_2 : decode cX7_isDish 2 = .ok (.bipush 6, 2) := by decide +kernel
theorem dX7_isDish_4 : decode cX7_isDish 4 = .ok (.invokestatic 70, 3) := by decide +kernel
theorem dX7_isDish_7 : decode cX7_isDish 7 = .ok (.ireturn, 1) := by decide +kernel
set_option maxRecDepth 20000 in
theorem ggX7_isSheet_X7_within : GoodIn wsX7_isSheet wsX7_within := goodIn_r _ [4] (by decide +kernel) (by decide +kernel)
set_option maxRecDepth 20000 in
theorem gX7_isSheet_X7_within : GoodIn wsX7_isSheet (va_wsS RX7 70 yX7_within wsX7_within) := goodIn_app (goodIn_of _ (by decide +kernel)) ggX7_isSheet_X7_within
theorem dX7_isSheet_0 : decode cX7_isSheet 0 = .ok (.iload_n 0, 1) := by decide +kernel
theorem dX7_isSheet_1 : decode cX7_isSheet 1 = .ok (.iconst 0, 1) := by decide +kernel
theorem dX7_isSheet_2 : decode cX7_isSheet 2 = .ok (.iconst 3, 1) := by decide +kernel
theorem dX7_isSheet_3 : decode cX7_isSheet 3 = .ok (.invokestatic 70, 3) := by decide +kernel
theorem dX7_isSheet_6 : decode cX7_isSheet 6 = .ok (.ireturn, 1) := by decide +kernel
set_option maxRecDepth 20000 in
theorem ggX7_isForm_X7_within : GoodIn wsX7_isForm wsX7_within := goodIn_r _ [4] (by decide +kernel) (by decide +kernel)
set_option maxRecDepth 20000 in
theorem gX7_isForm_X7_within : GoodIn wsX7_isForm (va_wsS RX7 70 yX7_within wsX7_within) := goodIn_app (goodIn_of _ (by decide +kernel)) ggX7_isForm_X7_within
theorem dX7_isForm_0 : decode cX7_isForm 0 = .ok (.iload_n 0, 1) := by decide +kernel
theorem dX7_isForm_1 : decode cX7_isForm 1 = .ok (.iconst 0, 1) := by decide +kernel
theorem dX7_isForm_2 : decode cX7_isForm 2 = .ok (.iconst 2, 1) := by decide +kernel
theorem dX7_isForm_3 : decode cX7_isForm 3 = .ok (.invokestatic 70, 3) := by decide +kernel
theorem dX7_isForm_6 : decode cX7_isForm 6 = .ok (.ireturn, 1) := by decide +kernel
theorem dX7_hasHour_0 : decode cX7_hasHour 0 = .ok (.iload_n 0, 1) := by decide +kernel
theorem dX7_hasHour_1 : decode cX7_hasHour 1 = .ok (.iload_n 1, 1) := by decide +kernel
theorem dX7_hasHour_2 : decode cX7_hasHour 2 = .ok (.ishr, 1) := by decide +kernel
theorem dX7_hasHour_3 : decode cX7_hasHour 3 = .ok (.iconst 1, 1) := by decide +kernel
theorem dX7_hasHour_4 : decode cX7_hasHour 4 = .ok (.iand, 1) := by decide +kernel
theorem dX7_hasHour_5 : decode cX7_hasHour 5 = .ok (.iconst 1, 1) := by decide +kernel
theorem dX7_hasHour_6 : decode cX7_hasHour 6 = .ok (.if_icmp .ne 7, 3) := by decide +kernel
theorem dX7_hasHour_9 : decode cX7_hasHour 9 = .ok (.iconst 1, 1) := by decide +kernel
theorem dX7_hasHour_10 : decode cX7_hasHour 10 = .ok (.goto 4, 3) := by decide +kernel
theorem dX7_hasHour_13 : decode cX7_hasHour 13 = .ok (.iconst 0, 1) := by decide +kernel
theorem dX7_hasHour_14 : decode cX7_hasHour 14 = .ok (.ireturn, 1) := by decide +kernel
theorem dX7_dishOfLetter_0 : decode cX7_dishOfLetter 0 = .ok (.iconst 0, 1) := by decide +kernel
theorem dX7_dishOfLetter_1 : decode cX7_dishOfLetter 1 = .ok (.istore_n 1, 1) := by decide +kernel
theorem dX7_dishOfLetter_2 : decode cX7_dishOfLetter 2 = .ok (.iload_n 1, 1) := by decide +kernel
theorem dX7_dishOfLetter_3 : decode cX7_dishOfLetter 3 = .ok (.bipush 7, 2) := by decide +kernel
theorem dX7_dishOfLetter_5 : decode cX7_dishOfLetter 5 = .ok (.if_icmp .ge 20, 3) := by decide +kernel
theorem dX7_dishOfLetter_8 : decode cX7_dishOfLetter 8 = .ok (.getstatic 320, 3) := by decide +kernel
theorem dX7_dishOfLetter_11 : decode cX7_dishOfLetter 11 = .ok (.iload_n 1, 1) := by decide +kernel
theorem dX7_dishOfLetter_12 : decode cX7_dishOfLetter 12 = .ok (.iaload, 1) := by decide +kernel
theorem dX7_dishOfLetter_13 : decode cX7_dishOfLetter 13 = .ok (.iload_n 0, 1) := by decide +kernel
theorem dX7_dishOfLetter_14 : decode cX7_dishOfLetter 14 = .ok (.if_icmp .ne 5, 3) := by decide +kernel
theorem dX7_dishOfLetter_17 : decode cX7_dishOfLetter 17 = .ok (.iload_n 1, 1) := by decide +kernel
theorem dX7_dishOfLetter_18 : decode cX7_dishOfLetter 18 = .ok (.ireturn, 1) := by decide +kernel
theorem dX7_dishOfLetter_19 : decode cX7_dishOfLetter 19 = .ok (.iinc 1 1, 3) := by decide +kernel
theorem dX7_dishOfLetter_22 : decode cX7_dishOfLetter 22 = .ok (.goto (-20), 3) := by decide +kernel
theorem dX7_dishOfLetter_25 : decode cX7_dishOfLetter 25 = .ok (.iconst (-1), 1) := by decide +kernel
theorem dX7_dishOfLetter_26 : decode cX7_dishOfLetter 26 = .ok (.ireturn, 1) := by decide +kernel
theorem dX7_finding_0 : decode cX7_finding 0 = .ok (.aload_n 0, 1) := by decide +kernel
theorem dX7_finding_1 : decode cX7_finding 1 = .ok (.iload_n 1, 1) := by decide +kernel
theorem dX7_finding_2 : decode cX7_finding 2 = .ok (.putfield 60, 3) := by decide +kernel
theorem dX7_finding_5 : decode cX7_finding 5 = .ok (.bipush (-10), 2) := by decide +kernel
theorem dX7_finding_7 : decode cX7_finding 7 = .ok (.iload_n 1, 1) := by decide +kernel
theorem dX7_finding_8 : decode cX7_finding 8 = .ok (.isub, 1) := by decide +kernel
theorem dX7_finding_9 : decode cX7_finding 9 = .ok (.ireturn, 1) := by decide +kernel
set_option maxRecDepth 20000 in
theorem ggX7_setMark_X7_within : GoodIn wsX7_setMark wsX7_within := goodIn_r _ [6] (by decide +kernel) (by decide +kernel)
set_option maxRecDepth 20000 in
theorem gX7_setMark_X7_within : GoodIn wsX7_setMark (va_wsS RX7 70 yX7_within wsX7_within) := goodIn_app (goodIn_of _ (by decide +kernel)) ggX7_setMark_X7_within
theorem dX7_setMark_0 : decode cX7_setMark 0 = .ok (.iload_n 1, 1) := by decide +kernel
theorem dX7_setMark_1 : decode cX7_setMark 1 = .ok (.iconst 1, 1) := by decide +kernel
theorem dX7_setMark_2 : decode cX7_setMark 2 = .ok (.bipush 10, 2) := by decide +kernel
theorem dX7_setMark_4 : decode cX7_setMark 4 = .ok (.invokestatic 70, 3) := by decide +kernel
theorem dX7_setMark_7 : decode cX7_setMark 7 = .ok (.ifCond .ne 6, 3) := by decide +kernel
theorem dX7_setMark_10 : decode cX7_setMark 10 = .ok (.bipush (-2), 2) := by decide +kernel
theorem dX7_setMark_12 : decode cX7_setMark 12 = .ok (.ireturn, 1) := by decide +kernel
theorem dX7_setMark_13 : decode cX7_setMark 13 = .ok (.aload_n 0, 1) := by decide +kernel
theorem dX7_setMark_14 : decode cX7_setMark 14 = .ok (.getfield 30, 3) := by decide +kernel
theorem dX7_setMark_17 : decode cX7_setMark 17 = .ok (.getfield 159, 3) := by decide +kernel
theorem dX7_setMark_20 : decode cX7_setMark 20 = .ok (.istore_n 2, 1) := by decide +kernel
theorem dX7_setMark_21 : decode cX7_setMark 21 = .ok (.aload_n 0, 1) := by decide +kernel
theorem dX7_setMark_22 : decode cX7_setMark 22 = .ok (.getfield 30, 3) := by decide +kernel
theorem dX7_setMark_25 : decode cX7_setMark 25 = .ok (.iload_n 1, 1) := by decide +kernel
theorem dX7_setMark_26 : decode cX7_setMark 26 = .ok (.putfield 159, 3) := by decide +kernel
theorem dX7_setMark_29 : decode cX7_setMark 29 = .ok (.iload_n 2, 1) := by decide +kernel
theorem dX7_setMark_30 : decode cX7_setMark 30 = .ok (.ireturn, 1) := by decide +kernel
set_option maxRecDepth 20000 in
theorem ggX7_setLaw_X7_within : GoodIn wsX7_setLaw wsX7_within := goodIn_r _ [6] (by decide +kernel) (by decide +kernel)
set_option maxRecDepth 20000 in
theorem gX7_setLaw_X7_within : GoodIn wsX7_setLaw (va_wsS RX7 70 yX7_within wsX7_within) := goodIn_app (goodIn_of _ (by decide +kernel)) ggX7_setLaw_X7_within
theorem dX7_setLaw_0 : decode cX7_setLaw 0 = .ok (.iload_n 1, 1) := by decide +kernel
theorem dX7_setLaw_1 : decode cX7_setLaw 1 = .ok (.iconst 0, 1) := by decide +kernel
theorem dX7_setLaw_2 : decode cX7_setLaw 2 = .ok (.iconst 2, 1) := by decide +kernel
theorem dX7_setLaw_3 : decode cX7_setLaw 3 = .ok (.invokestatic 70, 3) := by decide +kernel
theorem dX7_setLaw_6 : decode cX7_setLaw 6 = .ok (.ifCond .ne 6, 3) := by decide +kernel
theorem dX7_setLaw_9 : decode cX7_setLaw 9 = .ok (.bipush (-2), 2) := by decide +kernel
theorem dX7_setLaw_11 : decode cX7_setLaw 11 = .ok (.ireturn, 1) := by decide +kernel
theorem dX7_setLaw_12 : decode cX7_setLaw 12 = .ok (.aload_n 0, 1) := by decide +kernel
theorem dX7_setLaw_13 : decode cX7_setLaw 13 = .ok (.getfield 30, 3) := by decide +kernel
theorem dX7_setLaw_16 : decode cX7_setLaw 16 = .ok (.getfield 146, 3) := by decide +kernel
theorem dX7_setLaw_19 : decode cX7_setLaw 19 = .ok (.istore_n 2, 1) := by decide +kernel
theorem dX7_setLaw_20 : decode cX7_setLaw 20 = .ok (.aload_n 0, 1) := by decide +kernel
theorem dX7_setLaw_21 : decode cX7_setLaw 21 = .ok (.getfield 30, 3) := by decide +kernel
theorem dX7_setLaw_24 : decode cX7_setLaw 24 = .ok (.iload_n 1, 1) := by decide +kernel
theorem dX7_setLaw_25 : decode cX7_setLaw 25 = .ok (.putfield 146, 3) := by decide +kernel
theorem dX7_setLaw_28 : decode cX7_setLaw 28 = .ok (.iload_n 2, 1) := by decide +kernel
theorem dX7_setLaw_29 : decode cX7_setLaw 29 = .ok (.ireturn, 1) := by decide +kernel
set_option maxRecDepth 20000 in
theorem ggX7_setForbidden_X7_within : GoodIn wsX7_setForbidden wsX7_within := goodIn_r _ [6] (by decide +kernel) (by decide +kernel)
set_option maxRecDepth 20000 in
theorem gX7_setForbidden_X7_within : GoodIn wsX7_setForbidden (va_wsS RX7 70 yX7_within wsX7_within) := goodIn_app (goodIn_of _ (by decide +kernel)) ggX7_setForbidden_X7_within
theorem dX7_setForbidden_0 : decode cX7_setForbidden 0 = .ok (.iload_n 1, 1) := by decide +kernel
theorem dX7_setForbidden_1 : decode cX7_setForbidden 1 = .ok (.iconst 0, 1) := by decide +kernel
theorem dX7_setForbidden_2 : decode cX7_setForbidden 2 = .ok (.bipush 126, 2) := by decide +kernel
theorem dX7_setForbidden_4 : decode cX7_setForbidden 4 = .ok (.invokestatic 70, 3) := by decide +kernel
theorem dX7_setForbidden_7 : decode cX7_setForbidden 7 = .ok (.ifCond .eq 9, 3) := by decide +kernel
theorem dX7_setForbidden_10 : decode cX7_setForbidden 10 = .ok (.iload_n 1, 1) := by decide +kernel
theorem dX7_setForbidden_11 : decode cX7_setForbidden 11 = .ok (.iconst 2, 1) := by decide +kernel
theorem dX7_setForbidden_12 : decode cX7_setForbidden 12 = .ok (.irem, 1) := by decide +kernel
theorem dX7_setForbidden_13 : decode cX7_setForbidden 13 = .ok (.ifCond .eq 6, 3) := by decide +kernel
theorem dX7_setForbidden_16 : decode cX7_setForbidden 16 = .ok (.bipush (-2), 2) := by decide +kernel
theorem dX7_setForbidden_18 : decode cX7_setForbidden 18 = .ok (.ireturn, 1) := by decide +kernel
theorem dX7_setForbidden_19 : decode cX7_setForbidden 19 = .ok (.aload_n 0, 1) := by decide +kernel
theorem dX7_setForbidden_20 : decode cX7_setForbidden 20 = .ok (.getfield 30, 3) := by decide +kernel
theorem dX7_setForbidden_23 : decode cX7_setForbidden 23 = .ok (.getfield 261, 3) := by decide +kernel
theorem dX7_setForbidden_26 : decode cX7_setForbidden 26 = .ok (.istore_n 2, 1) := by decide +kernel
theorem dX7_setForbidden_27 : decode cX7_setForbidden 27 = .ok (.aload_n 0, 1) := by decide +kernel
theorem dX7_setForbidden_28 : decode cX7_setForbidden 28 = .ok (.getfield 30, 3) := by decide +kernel
theorem dX7_setForbidden_31 : decode cX7_setForbidden 31 = .ok (.iload_n 1, 1) := by decide +kernel
theorem dX7_setForbidden_32 : decode cX7_setForbidden 32 = .ok (.putfield 261, 3) := by decide +kernel
theorem dX7_setForbidden_35 : decode cX7_setForbidden 35 = .ok (.iload_n 2, 1) := by decide +kernel
theorem dX7_setForbidden_36 : decode cX7_setForbidden 36 = .ok (.ireturn, 1) := by decide +kernel
set_option maxRecDepth 20000 in
theorem ggX7_dayOf_X0_lay : GoodIn wsX7_dayOf wsX0_lay := goodIn_r _ [8, 9, 10, 11, 12, 13, 14, 15, 16, 17, 18, 19, 20, 21, 22, 23, 44, 45, 46, 47, 48, 49, 50] (by decide +kernel) (by decide +kernel)
set_option maxRecDepth 20000 in
theorem gX7_dayOf_X0_lay : GoodIn wsX7_dayOf (wsV RX7 202 RX0 yX0_lay wsX0_lay) := goodIn_app (goodIn_of _ (by decide +kernel)) ggX7_dayOf_X0_lay
set_option maxRecDepth 20000 in
theorem ggX7_dayOf_X0_live : GoodIn wsX7_dayOf wsX0_live := goodIn_r _ [27, 11, 9, 28, 29, 30, 31, 32, 33, 34, 44, 45, 46, 51, 52, 53, 54, 55] (by decide +kernel) (by decide +kernel)
set_option maxRecDepth 20000 in
theorem gX7_dayOf_X0_live : GoodIn wsX7_dayOf (wsV RX7 206 RX0 yX0_live wsX0_live) := goodIn_app (goodIn_of _ (by decide +kernel)) ggX7_dayOf_X0_live
theorem dX7_dayOf_0 : decode cX7_dayOf 0 = .ok (.aload_n 0, 1) := by decide +kernel
theorem dX7_dayOf_1 : decode cX7_dayOf 1 = .ok (.getfield 17, 3) := by decide +kernel
theorem dX7_dayOf_4 : decode cX7_dayOf 4 = .ok (.iload_n 1, 1) := by decide +kernel
theorem dX7_dayOf_5 : decode cX7_dayOf 5 = .ok (.aaload, 1) := by decide +kernel
theorem dX7_dayOf_6 : decode cX7_dayOf 6 = .ok (.astore_n 2, 1) := by decide +kernel
theorem dX7_dayOf_7 : decode cX7_dayOf 7 = .ok (.aload_n 2, 1) := by decide +kernel
theorem dX7_dayOf_8 : decode cX7_dayOf 8 = .ok (.aload_n 0, 1) := by decide +kernel
theorem dX7_dayOf_9 : decode cX7_dayOf 9 = .ok (.getfield 11, 3) := by decide +kernel
theorem dX7_dayOf_12 : decode cX7_dayOf 12 = .ok (.iload_n 1, 1) := by decide +kernel
theorem dX7_dayOf_13 : decode cX7_dayOf 13 = .ok (.aaload, 1) := by decide +kernel
theorem dX7_dayOf_14 : decode cX7_dayOf 14 = .ok (.iconst 0, 1) := by decide +kernel
theorem dX7_dayOf_15 : decode cX7_dayOf 15 = .ok (.invokevirtual 202, 3) := by decide +kernel
theorem dX7_dayOf_18 : decode cX7_dayOf 18 = .ok (.aload_n 2, 1) := by decide +kernel
theorem dX7_dayOf_19 : decode cX7_dayOf 19 = .ok (.aload_n 0, 1) := by decide +kernel
theorem dX7_dayOf_20 : decode cX7_dayOf 20 = .ok (.getfield 30, 3) := by decide +kernel
theorem dX7_dayOf_23 : decode cX7_dayOf 23 = .ok (.invokevirtual 206, 3) := by decide +kernel
theorem dX7_dayOf_26 : decode cX7_dayOf 26 = .ok (.aload_n 2, 1) := by decide +kernel
theorem dX7_dayOf_27 : decode cX7_dayOf 27 = .ok (.areturn, 1) := by decide +kernel
set_option maxRecDepth 20000 in
theorem ggX7_hoursOf_X7_dayOf : GoodIn wsX7_hoursOf wsX7_dayOf := goodIn_r _ [6, 7, 8, 1, 9, 10, 11, 12, 13, 14, 15, 16, 17, 18, 19, 20, 21, 22, 23, 24, 25, 26, 27, 28, 29, 30, 31, 32, 33, 34, 35, 36, 37, 38, 39, 49, 50, 51, 52, 53, 54, 55, 56, 57, 58, 59, 60, 61, 62, 63, 64, 65, 66, 67, 68, 69] (by decide +kernel) (by decide +kernel)
set_option maxRecDepth 20000 in
theorem gX7_hoursOf_X7_dayOf : GoodIn wsX7_hoursOf (wsV RX7 130 RX7 yX7_dayOf wsX7_dayOf) := goodIn_app (goodIn_of _ (by decide +kernel)) ggX7_hoursOf_X7_dayOf
set_option maxRecDepth 20000 in
theorem ggX7_hoursOf_X0_hiccupHours : GoodIn wsX7_hoursOf wsX0_hiccupHours := goodIn_r _ [43, 33, 14, 44, 45, 46, 37, 47, 48, 58, 59, 60, 65, 66, 67, 68, 69] (by decide +kernel) (by decide +kernel)
set_option maxRecDepth 20000 in
theorem gX7_hoursOf_X0_hiccupHours : GoodIn wsX7_hoursOf (wsV RX7 210 RX0 yX0_hiccupHours wsX0_hiccupHours) := goodIn_app (goodIn_of _ (by decide +kernel)) ggX7_hoursOf_X0_hiccupHours
theorem dX7_hoursOf_0 : decode cX7_hoursOf 0 = .ok (.aload_n 0, 1) := by decide +kernel
theorem dX7_hoursOf_1 : decode cX7_hoursOf 1 = .ok (.iload_n 1, 1) := by decide +kernel
theorem dX7_hoursOf_2 : decode cX7_hoursOf 2 = .ok (.invokevirtual 130, 3) := by decide +kernel
theorem dX7_hoursOf_5 : decode cX7_hoursOf 5 = .ok (.aload_n 0, 1) := by decide +kernel
theorem dX7_hoursOf_6 : decode cX7_hoursOf 6 = .ok (.getfield 30, 3) := by decide +kernel
theorem dX7_hoursOf_9 : decode cX7_hoursOf 9 = .ok (.invokevirtual 210, 3) := by decide +kernel
theorem dX7_hoursOf_12 : decode cX7_hoursOf 12 = .ok (.ireturn, 1) := by decide +kernel
set_option maxRecDepth 20000 in
theorem ggX7_brokenHours_X7_hoursOf : GoodIn wsX7_brokenHours wsX7_hoursOf := goodIn_r _ [5, 6, 7, 8, 9, 4, 10, 11, 12, 13, 14, 15, 16, 17, 18, 19, 20, 21, 22, 23, 24, 25, 26, 27, 28, 29, 30, 31, 32, 33, 34, 35, 36, 37, 38, 39, 40, 41, 42, 43, 44, 45, 46, 47, 48, 49, 50, 51, 52, 53, 54, 55, 56, 57, 58, 59, 60, 61, 62, 63, 64, 65, 66, 67, 68, 69, 70, 71, 72, 73] (by decide +kernel) (by decide +kernel)
set_option maxRecDepth 20000 in
theorem gX7_brokenHours_X7_hoursOf : GoodIn wsX7_brokenHours (wsV RX7 140 RX7 yX7_hoursOf wsX7_hoursOf) := goodIn_app (goodIn_of _ (by decide +kernel)) ggX7_brokenHours_X7_hoursOf
theorem dX7_brokenHours_0 : decode cX7_brokenHours 0 = .ok (.aload_n 0, 1) := by decide +kernel
theorem dX7_brokenHours_1 : decode cX7_brokenHours 1 = .ok (.iconst 0, 1) := by decide +kernel
theorem dX7_brokenHours_2 : decode cX7_brokenHours 2 = .ok (.invokevirtual 140, 3) := by decide +kernel
theorem dX7_brokenHours_5 : decode cX7_brokenHours 5 = .ok (.istore_n 2, 1) := by decide +kernel
theorem dX7_brokenHours_6 : decode cX7_brokenHours 6 = .ok (.aload_n 0, 1) := by decide +kernel
theorem dX7_brokenHours_7 : decode cX7_brokenHours 7 = .ok (.iconst 1, 1) := by decide +kernel
theorem dX7_brokenHours_8 : decode cX7_brokenHours 8 = .ok (.invokevirtual 140, 3) := by decide +kernel
theorem dX7_brokenHours_11 : decode cX7_brokenHours 11 = .ok (.istore_n 3, 1) := by decide +kernel
theorem dX7_brokenHours_12 : decode cX7_brokenHours 12 = .ok (.iload_n 1, 1) := by decide +kernel
theorem dX7_brokenHours_13 : decode cX7_brokenHours 13 = .ok (.iconst 1, 1) := by decide +kernel
theorem dX7_brokenHours_14 : decode cX7_brokenHours 14 = .ok (.if_icmp .ne 7, 3) := by decide +kernel
theorem dX7_brokenHours_17 : decode cX7_brokenHours 17 = .ok (.iload_n 2, 1) := by decide +kernel
theorem dX7_brokenHours_18 : decode cX7_brokenHours 18 = .ok (.iload_n 3, 1) := by decide +kernel
theorem dX7_brokenHours_19 : decode cX7_brokenHours 19 = .ok (.ior, 1) := by decide +kernel
theorem dX7_brokenHours_20 : decode cX7_brokenHours 20 = .ok (.ireturn, 1) := by decide +kernel
theorem dX7_brokenHours_21 : decode cX7_brokenHours 21 = .ok (.iload_n 1, 1) := by decide +kernel
theorem dX7_brokenHours_22 : decode cX7_brokenHours 22 = .ok (.iconst 2, 1) := by decide +kernel
theorem dX7_brokenHours_23 : decode cX7_brokenHours 23 = .ok (.if_icmp .ne 19, 3) := by decide +kernel
theorem dX7_brokenHours_26 : decode cX7_brokenHours 26 = .ok (.iload_n 2, 1) := by decide +kernel
theorem dX7_brokenHours_27 : decode cX7_brokenHours 27 = .ok (.iload_n 3, 1) := by decide +kernel
theorem dX7_brokenHours_28 : decode cX7_brokenHours 28 = .ok (.iand, 1) := by decide +kernel
theorem dX7_brokenHours_29 : decode cX7_brokenHours 29 = .ok (.iload_n 2, 1) := by decide +kernel
theorem dX7_brokenHours_30 : decode cX7_brokenHours 30 = .ok (.iload_n 3, 1) := by decide +kernel
theorem dX7_brokenHours_31 : decode cX7_brokenHours 31 = .ok (.iconst 1, 1) := by decide +kernel
theorem dX7_brokenHours_32 : decode cX7_brokenHours 32 = .ok (.ishl, 1) := by decide +kernel
theorem dX7_brokenHours_33 : decode cX7_brokenHours 33 = .ok (.iand, 1) := by decide +kernel
theorem dX7_brokenHours_34 : decode cX7_brokenHours 34 = .ok (.ior, 1) := by decide +kernel
theorem dX7_brokenHours_35 : decode cX7_brokenHours 35 = .ok (.iload_n 3, 1) := by decide +kernel
theorem dX7_brokenHours_36 : decode cX7_brokenHours 36 = .ok (.iload_n 2, 1) := by decide +kernel
theorem dX7_brokenHours_37 : decode cX7_brokenHours 37 = .ok (.iconst 1, 1) := by decide +kernel
theorem dX7_brokenHours_38 : decode cX7_brokenHours 38 = .ok (.ishl, 1) := by decide +kernel
theorem dX7_brokenHours_39 : decode cX7_brokenHours 39 = .ok (.iand, 1) := by decide +kernel
theorem dX7_brokenHours_40 : decode cX7_brokenHours 40 = .ok (.ior, 1) := by decide +kernel
theorem dX7_brokenHours_41 : decode cX7_brokenHours 41 = .ok (.ireturn, 1) := by decide +kernel
theorem dX7_brokenHours_42 : decode cX7_brokenHours 42 = .ok (.iload_n 2, 1) := by decide +kernel
theorem dX7_brokenHours_43 : decode cX7_brokenHours 43 = .ok (.iload_n 3, 1) := by decide +kernel
theorem dX7_brokenHours_44 : decode cX7_brokenHours 44 = .ok (.iand, 1) := by decide +kernel
theorem dX7_brokenHours_45 : decode cX7_brokenHours 45 = .ok (.ireturn, 1) := by decide +kernel
set_option maxRecDepth 20000 in
theorem ggX7_likeHours_X0_lay : GoodIn wsX7_likeHours wsX0_lay := goodIn_r _ [8, 9, 10, 11, 12, 13, 14, 15, 16, 17, 18, 19, 20, 21, 22, 23, 60, 61, 62, 63, 64, 65, 66] (by decide +kernel) (by decide +kernel)
set_option maxRecDepth 20000 in
theorem gX7_likeHours_X0_lay : GoodIn wsX7_likeHours (wsV RX7 202 RX0 yX0_lay wsX0_lay) := goodIn_app (goodIn_of _ (by decide +kernel)) ggX7_likeHours_X0_lay
set_option maxRecDepth 20000 in
theorem ggX7_likeHours_X0_live : GoodIn wsX7_likeHours wsX0_live := goodIn_r _ [27, 11, 9, 28, 29, 30, 31, 32, 33, 34, 60, 61, 62, 67, 68, 69, 70, 71] (by decide +kernel) (by decide +kernel)
set_option maxRecDepth 20000 in
theorem gX7_likeHours_X0_live : GoodIn wsX7_likeHours (wsV RX7 206 RX0 yX0_live wsX0_live) := goodIn_app (goodIn_of _ (by decide +kernel)) ggX7_likeHours_X0_live
set_option maxRecDepth 20000 in
theorem ggX7_likeHours_X0_hiccupHours : GoodIn wsX7_likeHours wsX0_hiccupHours := goodIn_r _ [38, 28, 9, 39, 40, 41, 32, 42, 43, 60, 61, 62, 67, 68, 69, 70, 71] (by decide +kernel) (by decide +kernel)
set_option maxRecDepth 20000 in
theorem gX7_likeHours_X0_hiccupHours : GoodIn wsX7_likeHours (wsV RX7 210 RX0 yX0_hiccupHours wsX0_hiccupHours) := goodIn_app (goodIn_of _ (by decide +kernel)) ggX7_likeHours_X0_hiccupHours
set_option maxRecDepth 20000 in
theorem ggX7_likeHours_J6_bitCount_0f7a4 : GoodIn wsX7_likeHours wsJ6_bitCount_0f7a4 := goodIn_r _ [47, 48, 49, 50] (by decide +kernel) (by decide +kernel)
set_option maxRecDepth 20000 in
theorem gX7_likeHours_J6_bitCount_0f7a4 : GoodIn wsX7_likeHours (va_wsS RX7 264 yJ6_bitCount_0f7a4 wsJ6_bitCount_0f7a4) := goodIn_app (goodIn_of _ (by decide +kernel)) ggX7_likeHours_J6_bitCount_0f7a4
theorem dX7_likeHours_0 : decode cX7_likeHours 0 = .ok (.aload_n 0, 1) := by decide +kernel
theorem dX7_likeHours_1 : decode cX7_likeHours 1 = .ok (.getfield 42, 3) := by decide +kernel
theorem dX7_likeHours_4 : decode cX7_likeHours 4 = .ok (.aload_n 0, 1) := by decide +kernel
theorem dX7_likeHours_5 : decode cX7_likeHours 5 = .ok (.getfield 11, 3) := by decide +kernel
theorem dX7_likeHours_8 : decode cX7_likeHours 8 = .ok (.iconst 2, 1) := by decide +kernel
theorem dX7_likeHours_9 : decode cX7_likeHours 9 = .ok (.aaload, 1) := by decide +kernel
theorem dX7_likeHours_10 : decode cX7_likeHours 10 = .ok (.iload_n 2, 1) := by decide +kernel
theorem dX7_likeHours_11 : decode cX7_likeHours 11 = .ok (.invokevirtual 202, 3) := by decide +kernel
theorem dX7_likeHours_14 : decode cX7_likeHours 14 = .ok (.aload_n 0, 1) := by decide +kernel
theorem dX7_likeHours_15 : decode cX7_likeHours 15 = .ok (.getfield 42, 3) := by decide +kernel
theorem dX7_likeHours_18 : decode cX7_likeHours 18 = .ok (.aload_n 0, 1) := by decide +kernel
theorem dX7_likeHours_19 : decode cX7_likeHours 19 = .ok (.getfield 30, 3) := by decide +kernel
theorem dX7_likeHours_22 : decode cX7_likeHours 22 = .ok (.invokevirtual 206, 3) := by decide +kernel
theorem dX7_likeHours_25 : decode cX7_likeHours 25 = .ok (.bipush 24, 2) := by decide +kernel
theorem dX7_likeHours_27 : decode cX7_likeHours 27 = .ok (.iload_n 1, 1) := by decide +kernel
theorem dX7_likeHours_28 : decode cX7_likeHours 28 = .ok (.aload_n 0, 1) := by decide +kernel
theorem dX7_likeHours_29 : decode cX7_likeHours 29 = .ok (.getfield 42, 3) := by decide +kernel
theorem dX7_likeHours_32 : decode cX7_likeHours 32 = .ok (.aload_n 0, 1) := by decide +kernel
theorem dX7_likeHours_33 : decode cX7_likeHours 33 = .ok (.getfield 30, 3) := by decide +kernel
theorem dX7_likeHours_36 : decode cX7_likeHours 36 = .ok (.invokevirtual 210, 3) := by decide +kernel
theorem dX7_likeHours_39 : decode cX7_likeHours 39 = .ok (.ixor, 1) := by decide +kernel
theorem dX7_likeHours_40 : decode cX7_likeHours 40 = .ok (.invokestatic 264, 3) := by decide +kernel
theorem dX7_likeHours_43 : decode cX7_likeHours 43 = .ok (.isub, 1) := by decide +kernel
theorem dX7_likeHours_44 : decode cX7_likeHours 44 = .ok (.ireturn, 1) := by decide +kernel
set_option maxRecDepth 20000 in
theorem ggX7_pricesTold_X1_dishesTold : GoodIn wsX7_pricesTold wsX1_dishesTold := goodIn_r _ [7, 8, 9, 36, 37, 38, 39] (by decide +kernel) (by decide +kernel)
set_option maxRecDepth 20000 in
theorem gX7_pricesTold_X1_dishesTold : GoodIn wsX7_pricesTold (wsV RX7 255 RX1 yX1_dishesTold wsX1_dishesTold) := goodIn_app (goodIn_of _ (by decide +kernel)) ggX7_pricesTold_X1_dishesTold
set_option maxRecDepth 20000 in
theorem ggX7_pricesTold_X1_dishAt : GoodIn wsX7_pricesTold wsX1_dishAt := goodIn_r _ [13, 9, 14, 36, 37, 38, 39] (by decide +kernel) (by decide +kernel)
set_option maxRecDepth 20000 in
theorem gX7_pricesTold_X1_dishAt : GoodIn wsX7_pricesTold (wsV RX7 323 RX1 yX1_dishAt wsX1_dishAt) := goodIn_app (goodIn_of _ (by decide +kernel)) ggX7_pricesTold_X1_dishAt
set_option maxRecDepth 20000 in
theorem ggX7_pricesTold_X3_priceOf : GoodIn wsX7_pricesTold wsX3_priceOf := goodIn_r _ [19, 20, 21, 22, 23, 24, 25, 26, 40, 41, 42, 43, 44] (by decide +kernel) (by decide +kernel)
set_option maxRecDepth 20000 in
theorem gX7_pricesTold_X3_priceOf : GoodIn wsX7_pricesTold (wsV RX7 326 RX3 yX3_priceOf wsX3_priceOf) := goodIn_app (goodIn_of _ (by decide +kernel)) ggX7_pricesTold_X3_priceOf
theorem dX7_pricesTold_0 : decode cX7_pricesTold 0 = .ok (.aload_n 0, 1) := by decide +kernel
theorem dX7_pricesTold_1 : decode cX7_pricesTold 1 = .ok (.getfield 11, 3) := by decide +kernel
theorem dX7_pricesTold_4 : decode cX7_pricesTold 4 = .ok (.iload_n 1, 1) := by decide +kernel
theorem dX7_pricesTold_5 : decode cX7_pricesTold 5 = .ok (.aaload, 1) := by decide +kernel
theorem dX7_pricesTold_6 : decode cX7_pricesTold 6 = .ok (.astore_n 2, 1) := by decide +kernel
theorem dX7_pricesTold_7 : decode cX7_pricesTold 7 = .ok (.aload_n 2, 1) := by decide +kernel
theorem dX7_pricesTold_8 : decode cX7_pricesTold 8 = .ok (.invokevirtual 255, 3) := by decide +kernel
theorem dX7_pricesTold_11 : decode cX7_pricesTold 11 = .ok (.istore_n 3, 1) := by decide +kernel
theorem dX7_pricesTold_12 : decode cX7_pricesTold 12 = .ok (.iconst 0, 1) := by decide +kernel
theorem dX7_pricesTold_13 : decode cX7_pricesTold 13 = .ok (.istore 4, 2) := by decide +kernel
theorem dX7_pricesTold_15 : decode cX7_pricesTold 15 = .ok (.iconst 0, 1) := by decide +kernel
theorem dX7_pricesTold_16 : decode cX7_pricesTold 16 = .ok (.istore 5, 2) := by decide +kernel
theorem dX7_pricesTold_18 : decode cX7_pricesTold 18 = .ok (.iload 5, 2) := by decide +kernel
theorem dX7_pricesTold_20 : decode cX7_pricesTold 20 = .ok (.iload_n 3, 1) := by decide +kernel
theorem dX7_pricesTold_21 : decode cX7_pricesTold 21 = .ok (.if_icmp .ge 27, 3) := by decide +kernel
theorem dX7_pricesTold_24 : decode cX7_pricesTold 24 = .ok (.iload 4, 2) := by decide +kernel
theorem dX7_pricesTold_26 : decode cX7_pricesTold 26 = .ok (.aload_n 0, 1) := by decide +kernel
theorem dX7_pricesTold_27 : decode cX7_pricesTold 27 = .ok (.getfield 30, 3) := by decide +kernel
theorem dX7_pricesTold_30 : decode cX7_pricesTold 30 = .ok (.aload_n 2, 1) := by decide +kernel
theorem dX7_pricesTold_31 : decode cX7_pricesTold 31 = .ok (.iload 5, 2) := by decide +kernel
theorem dX7_pricesTold_33 : decode cX7_pricesTold 33 = .ok (.invokevirtual 323, 3) := by decide +kernel
theorem dX7_pricesTold_36 : decode cX7_pricesTold 36 = .ok (.invokevirtual 326, 3) := by decide +kernel
theorem dX7_pricesTold_39 : decode cX7_pricesTold 39 = .ok (.iadd, 1) := by decide +kernel
theorem dX7_pricesTold_40 : decode cX7_pricesTold 40 = .ok (.istore 4, 2) := by decide +kernel
theorem dX7_pricesTold_42 : decode cX7_pricesTold 42 = .ok (.iinc 5 1, 3) := by decide +kernel
theorem dX7_pricesTold_45 : decode cX7_pricesTold 45 = .ok (.goto (-27), 3) := by decide +kernel
theorem dX7_pricesTold_48 : decode cX7_pricesTold 48 = .ok (.iload 4, 2) := by decide +kernel
theorem dX7_pricesTold_50 : decode cX7_pricesTold 50 = .ok (.ireturn, 1) := by decide +kernel
theorem dX8_init_0 : decode cX8_init 0 = .ok (.aload_n 0, 1) := by decide +kernel
theorem dX8_init_1 : decode cX8_init 1 = .ok (.invokespecial 1, 3) := by decide +kernel
theorem dX8_init_4 : decode cX8_init 4 = .ok (.aload_n 0, 1) := by decide +kernel
theorem dX8_init_5 : decode cX8_init 5 = .ok (.iconst 3, 1) := by decide +kernel
theorem dX8_init_6 : decode cX8_init 6 = .ok (.newarray .int, 2) := by decide +kernel
theorem dX8_init_8 : decode cX8_init 8 = .ok (.putfield 7, 3) := by decide +kernel
theorem dX8_init_11 : decode cX8_init 11 = .ok (.aload_n 0, 1) := by decide +kernel
theorem dX8_init_12 : decode cX8_init 12 = .ok (.bipush 72, 2) := by decide +kernel
theorem dX8_init_14 : decode cX8_init 14 = .ok (.newarray .int, 2) := by decide +kernel
theorem dX8_init_16 : decode cX8_init 16 = .ok (.putfield 13, 3) := by decide +kernel
theorem dX8_init_19 : decode cX8_init 19 = .ok (.aload_n 0, 1) := by decide +kernel
theorem dX8_init_20 : decode cX8_init 20 = .ok (.iconst 3, 1) := by decide +kernel
theorem dX8_init_21 : decode cX8_init 21 = .ok (.newarray .int, 2) := by decide +kernel
theorem dX8_init_23 : decode cX8_init 23 = .ok (.putfield 16, 3) := by decide +kernel
theorem dX8_init_26 : decode cX8_init 26 = .ok (.aload_n 0, 1) := by decide +kernel
theorem dX8_init_27 : decode cX8_init 27 = .ok (.bipush 7, 2) := by decide +kernel
theorem dX8_init_29 : decode cX8_init 29 = .ok (.newarray .int, 2) := by decide +kernel
theorem dX8_init_31 : decode cX8_init 31 = .ok (.putfield 19, 3) := by decide +kernel
theorem dX8_init_34 : decode cX8_init 34 = .ok (.aload_n 0, 1) := by decide +kernel
theorem dX8_init_35 : decode cX8_init 35 = .ok (.bipush 7, 2) := by decide +kernel
theorem dX8_init_37 : decode cX8_init 37 = .ok (.newarray .int, 2) := by decide +kernel
theorem dX8_init_39 : decode cX8_init 39 = .ok (.putfield 22, 3) := by decide +kernel
theorem dX8_init_42 : decode cX8_init 42 = .ok (.aload_n 0, 1) := by decide +kernel
theorem dX8_init_43 : decode cX8_init 43 = .ok (.bipush 72, 2) := by decide +kernel
theorem dX8_init_45 : decode cX8_init 45 = .ok (.newarray .int, 2) := by decide +kernel
theorem dX8_init_47 : decode cX8_init 47 = .ok (.putfield 25, 3) := by decide +kernel
theorem dX8_init_50 : decode cX8_init 50 = .ok (.aload_n 0, 1) := by decide +kernel
theorem dX8_init_51 : decode cX8_init 51 = .ok (.bipush 72, 2) := by decide +kernel
theorem dX8_init_53 : decode cX8_init 53 = .ok (.newarray .int, 2) := by decide +kernel
theorem dX8_init_55 : decode cX8_init 55 = .ok (.putfield 28, 3) := by decide +kernel
theorem dX8_init_58 : decode cX8_init 58 = .ok (.aload_n 0, 1) := by decide +kernel
theorem dX8_init_59 : decode cX8_init 59 = .ok (.iconst 3, 1) := by decide +kernel
theorem dX8_init_60 : decode cX8_init 60 = .ok (.newarray .int, 2) := by decide +kernel
theorem dX8_init_62 : decode cX8_init 62 = .ok (.putfield 31, 3) := by decide +kernel
theorem dX8_init_65 : decode cX8_init 65 = .ok (.aload_n 0, 1) := by decide +kernel
theorem dX8_init_66 : decode cX8_init 66 = .ok (.sipush 250, 3) := by decide +kernel
theorem dX8_init_69 : decode cX8_init 69 = .ok (.newarray .int, 2) := by decide +kernel
theorem dX8_init_71 : decode cX8_init 71 = .ok (.putfield 34, 3) := by decide +kernel
theorem dX8_init_74 : decode cX8_init 74 = .ok (.aload_n 0, 1) := by decide +kernel
theorem dX8_init_75 : decode cX8_init 75 = .ok (.sipush 1300, 3) := by decide +kernel
theorem dX8_init_78 : decode cX8_init 78 = .ok (.newarray .boolean, 2) := by decide +kernel
theorem dX8_init_80 : decode cX8_init 80 = .ok (.putfield 37, 3) := by decide +kernel
theorem dX8_init_83 : decode cX8_init 83 = .ok (.aload_n 0, 1) := by decide +kernel
theorem dX8_init_84 : decode cX8_init 84 = .ok (.bipush 8, 2) := by decide +kernel
theorem dX8_init_86 : decode cX8_init 86 = .ok (.newarray .int, 2) := by decide +kernel
theorem dX8_init_88 : decode cX8_init 88 = .ok (.putfield 41, 3) := by decide +kernel
theorem dX8_init_91 : decode cX8_init 91 = .ok (.aload_n 0, 1) := by decide +kernel
theorem dX8_init_92 : decode cX8_init 92 = .ok (.bipush 8, 2) := by decide +kernel
theorem dX8_init_94 : decode cX8_init 94 = .ok (.newarray .int, 2) := by decide +kernel
theorem dX8_init_96 : decode cX8_init 96 = .ok (.putfield 44, 3) := by decide +kernel
theorem dX8_init_99 : decode cX8_init 99 = .ok (.aload_n 0, 1) := by decide +kernel
theorem dX8_init_100 : decode cX8_init 100 = .ok (.bipush 8, 2) := by decide +kernel
theorem dX8_init_102 : decode cX8_init 102 = .ok (.newarray .int, 2) := by decide +kernel
theorem dX8_init_104 : decode cX8_init 104 = .ok (.putfield 47, 3) := by decide +kernel
theorem dX8_init_107 : decode cX8_init 107 = .ok (.aload_n 0, 1) := by decide +kernel
theorem dX8_init_108 : decode cX8_init 108 = .ok (.iconst 4, 1) := by decide +kernel
theorem dX8_init_109 : decode cX8_init 109 = .ok (.newarray .boolean, 2) := by decide +kernel
theorem dX8_init_111 : decode cX8_init 111 = .ok (.putfield 50, 3) := by decide +kernel
theorem dX8_init_114 : decode cX8_init 114 = .ok (.aload_n 0, 1) := by decide +kernel
theorem dX8_init_115 : decode cX8_init 115 = .ok (.iconst 4, 1) := by decide +kernel
theorem dX8_init_116 : decode cX8_init 116 = .ok (.newarray .int, 2) := by decide +kernel
theorem dX8_init_118 : decode cX8_init 118 = .ok (.putfield 53, 3) := by decide +kernel
theorem dX8_init_121 : decode cX8_init 121 = .ok (.aload_n 0, 1) := by decide +kernel
theorem dX8_init_122 : decode cX8_init 122 = .ok (.iconst 4, 1) := by decide +kernel
theorem dX8_init_123 : decode cX8_init 123 = .ok (.newarray .int, 2) := by decide +kernel
theorem dX8_init_125 : decode cX8_init 125 = .ok (.putfield 56, 3) := by decide +kernel
theorem dX8_init_128 : decode cX8_init 128 = .ok (.aload_n 0, 1) := by decide +kernel
theorem dX8_init_129 : decode cX8_init 129 = .ok (.sipush 192, 3) := by decide +kernel
theorem dX8_init_132 : decode cX8_init 132 = .ok (.newarray .int, 2) := by decide +kernel
theorem dX8_init_134 : decode cX8_init 134 = .ok (.putfield 59, 3) := by decide +kernel
theorem dX8_init_137 : decode cX8_init 137 = .ok (.aload_n 0, 1) := by decide +kernel
theorem dX8_init_138 : decode cX8_init 138 = .ok (.bipush 48, 2) := by decide +kernel
theorem dX8_init_140 : decode cX8_init 140 = .ok (.newarray .int, 2) := by decide +kernel
theorem dX8_init_142 : decode cX8_init 142 = .ok (.putfield 62, 3) := by decide +kernel
theorem dX8_init_145 : decode cX8_init 145 = .ok (.iconst 0, 1) := by decide +kernel
theorem dX8_init_146 : decode cX8_init 146 = .ok (.istore_n 1, 1) := by decide +kernel
theorem dX8_init_147 : decode cX8_init 147 = .ok (.iload_n 1, 1) := by decide +kernel
theorem dX8_init_148 : decode cX8_init 148 = .ok (.iconst 3, 1) := by decide +kernel
theorem dX8_init_149 : decode cX8_init 149 = .ok (.if_icmp .ge 16, 3) := by decide +kernel
theorem dX8_init_152 : decode cX8_init 152 = .ok (.aload_n 0, 1) := by decide +kernel
theorem dX8_init_153 : decode cX8_init 153 = .ok (.getfield 16, 3) := by decide +kernel
theorem dX8_init_156 : decode cX8_init 156 = .ok (.iload_n 1, 1) := by decide +kernel
theorem dX8_init_157 : decode cX8_init 157 = .ok (.iconst 3, 1) := by decide +kernel
theorem dX8_init_158 : decode cX8_init 158 = .ok (.iastore, 1) := by decide +kernel
theorem dX8_init_159 : decode cX8_init 159 = .ok (.iinc 1 1, 3) := by decide +kernel
theorem dX8_init_162 : decode cX8_init 162 = .ok (.goto (-15), 3) := by decide +kernel
theorem dX8_init_165 : decode cX8_init 165 = .ok (.iconst 0, 1) := by decide +kernel
theorem dX8_init_166 : decode cX8_init 166 = .ok (.istore_n 1, 1) := by decide +kernel
theorem dX8_init_167 : decode cX8_init 167 = .ok (.iload_n 1, 1) := by decide +kernel
theorem dX8_init_168 : decode cX8_init 168 = .ok (.bipush 7, 2) := by decide +kernel
theorem dX8_init_170 : decode cX8_init 170 = .ok (.if_icmp .ge 128, 3) := by decide +kernel
theorem dX8_init_173 : decode cX8_init 173 = .ok (.aload_n 0, 1) := by decide +kernel
theorem dX8_init_174 : decode cX8_init 174 = .ok (.getfield 19, 3) := by decide +kernel
theorem dX8_init_177 : decode cX8_init 177 = .ok (.iload_n 1, 1) := by decide +kernel
theorem dX8_init_178 : decode cX8_init 178 = .ok (.iload_n 1, 1) := by decide +kernel
theorem dX8_init_179 : decode cX8_init 179 = .ok (.iconst 1, 1) := by decide +kernel
theorem dX8_init_180 : decode cX8_init 180 = .ok (.if_icmp .ne 7, 3) := by decide +kernel
theorem dX8_init_183 : decode cX8_init 183 = .ok (.iconst 1, 1) := by decide +kernel
theorem dX8_init_184 : decode cX8_init 184 = .ok (.goto 53, 3) := by decide +kernel
theorem dX8_init_187 : decode cX8_init 187 = .ok (.iload_n 1, 1) := by decide +kernel
theorem dX8_init_188 : decode cX8_init 188 = .ok (.iconst 2, 1) := by decide +kernel
theorem dX8_init_189 : decode cX8_init 189 = .ok (.if_icmp .ne 7, 3) := by decide +kernel
theorem dX8_init_192 : decode cX8_init 192 = .ok (.iconst 3, 1) := by decide +kernel
theorem dX8_init_193 : decode cX8_init 193 = .ok (.goto 44, 3) := by decide +kernel
theorem dX8_init_196 : decode cX8_init 196 = .ok (.iload_n 1, 1) := by decide +kernel
theorem dX8_init_197 : decode cX8_init 197 = .ok (.iconst 3, 1) := by decide +kernel
theorem dX8_init_198 : decode cX8_init 198 = .ok (.if_icmp .ne 8, 3) := by decide +kernel
theorem dX8_init_201 : decode cX8_init 201 = .ok (.bipush (-4), 2) := by decide +kernel
theorem dX8_init_203 : decode cX8_init 203 = .ok (.goto 34, 3) := by decide +kernel
theorem dX8_init_206 : decode cX8_init 206 = .ok (.iload_n 1, 1) := by decide +kernel
theorem dX8_init_207 : decode cX8_init 207 = .ok (.iconst 4, 1) := by decide +kernel
theorem dX8_init_208 : decode cX8_init 208 = .ok (.if_icmp .ne 8, 3) := by decide +kernel
theorem dX8_init_211 : decode cX8_init 211 = .ok (.bipush (-9), 2) := by decide +kernel
theorem dX8_init_213 : decode cX8_init 213 = .ok (.goto 24, 3) := by decide +kernel
theorem dX8_init_216 : decode cX8_init 216 = .ok (.iload_n 1, 1) := by decide +kernel
theorem dX8_init_217 : decode cX8_init 217 = .ok (.iconst 5, 1) := by decide +kernel
theorem dX8_init_218 : decode cX8_init 218 = .ok (.if_icmp .ne 7, 3) := by decide +kernel
theorem dX8_init_221 : decode cX8_init 221 = .ok (.iconst (-1), 1) := by decide +kernel
theorem dX8_init_222 : decode cX8_init 222 = .ok (.goto 15, 3) := by decide +kernel
theorem dX8_init_225 : decode cX8_init 225 = .ok (.iload_n 1, 1) := by decide +kernel
theorem dX8_init_226 : decode cX8_init 226 = .ok (.bipush 6, 2) := by decide +kernel
theorem dX8_init_228 : decode cX8_init 228 = .ok (.if_icmp .ne 8, 3) := by decide +kernel
theorem dX8_init_231 : decode cX8_init 231 = .ok (.bipush (-2), 2) := by decide +kernel
theorem dX8_init_233 : decode cX8_init 233 = .ok (.goto 4, 3) := by decide +kernel
theorem dX8_init_236 : decode cX8_init 236 = .ok (.iconst 0, 1) := by decide +kernel
theorem dX8_init_237 : decode cX8_init 237 = .ok (.iastore, 1) := by decide +kernel
theorem dX8_init_238 : decode cX8_init 238 = .ok (.aload_n 0, 1) := by decide +kernel
theorem dX8_init_239 : decode cX8_init 239 = .ok (.getfield 22, 3) := by decide +kernel
theorem dX8_init_242 : decode cX8_init 242 = .ok (.iload_n 1, 1) := by decide +kernel
theorem dX8_init_243 : decode cX8_init 243 = .ok (.iload_n 1, 1) := by decide +kernel
theorem dX8_init_244 : decode cX8_init 244 = .ok (.iconst 1, 1) := by decide +kernel
theorem dX8_init_245 : decode cX8_init 245 = .ok (.if_icmp .ne 7, 3) := by decide +kernel
theorem dX8_init_248 : decode cX8_init 248 = .ok (.iconst 2, 1) := by decide +kernel
theorem dX8_init_249 : decode cX8_init 249 = .ok (.goto 42, 3) := by decide +kernel
theorem dX8_init_252 : decode cX8_init 252 = .ok (.iload_n 1, 1) := by decide +kernel
theorem dX8_init_253 : decode cX8_init 253 = .ok (.iconst 2, 1) := by decide +kernel
theorem dX8_init_254 : decode cX8_init 254 = .ok (.if_icmp .ne 8, 3) := by decide +kernel
theorem dX8_init_257 : decode cX8_init 257 = .ok (.bipush 9, 2) := by decide +kernel
theorem dX8_init_259 : decode cX8_init 259 = .ok (.goto 32, 3) := by decide +kernel
theorem dX8_init_262 : decode cX8_init 262 = .ok (.iload_n 1, 1) := by decide +kernel
theorem dX8_init_263 : decode cX8_init 263 = .ok (.iconst 3, 1) := by decide +kernel
theorem dX8_init_264 : decode cX8_init 264 = .ok (.if_icmp .ne 7, 3) := by decide +kernel
theorem dX8_init_267 : decode cX8_init 267 = .ok (.iconst 3, 1) := by decide +kernel
theorem dX8_init_268 : decode cX8_init 268 = .ok (.goto 23, 3) := by decide +kernel
theorem dX8_init_271 : decode cX8_init 271 = .ok (.iload_n 1, 1) := by decide +kernel
theorem dX8_init_272 : decode cX8_init 272 = .ok (.iconst 4, 1) := by decide +kernel
theorem dX8_init_273 : decode cX8_init 273 = .ok (.if_icmp .ne 7, 3) := by decide +kernel
theorem dX8_init_276 : decode cX8_init 276 = .ok (.iconst 1, 1) := by decide +kernel
theorem dX8_init_277 : decode cX8_init 277 = .ok (.goto 14, 3) := by decide +kernel
theorem dX8_init_280 : decode cX8_init 280 = .ok (.iload_n 1, 1) := by decide +kernel
theorem dX8_init_281 : decode cX8_init 281 = .ok (.bipush 6, 2) := by decide +kernel
theorem dX8_init_283 : decode cX8_init 283 = .ok (.if_icmp .ne 7, 3) := by decide +kernel
theorem dX8_init_286 : decode cX8_init 286 = .ok (.iconst 5, 1) := by decide +kernel
theorem dX8_init_287 : decode cX8_init 287 = .ok (.goto 4, 3) := by decide +kernel
theorem dX8_init_290 : decode cX8_init 290 = .ok (.iconst 0, 1) := by decide +kernel
theorem dX8_init_291 : decode cX8_init 291 = .ok (.iastore, 1) := by decide +kernel
theorem dX8_init_292 : decode cX8_init 292 = .ok (.iinc 1 1, 3) := by decide +kernel
theorem dX8_init_295 : decode cX8_init 295 = .ok (.goto (-128), 3) := by decide +kernel
theorem dX8_init_298 : decode cX8_init 298 = .ok (.aload_n 0, 1) := by decide +kernel
theorem dX8_init_299 : decode cX8_init 299 = .ok (.iconst 5, 1) := by decide +kernel
theorem dX8_init_300 : decode cX8_init 300 = .ok (.putfield 65, 3) := by decide +kernel
theorem dX8_init_303 : decode cX8_init 303 = .ok (.return_, 1) := by decide +kernel
theorem dX8_in_0 : decode cX8_in 0 = .ok (.iload_n 0, 1) := by decide +kernel
theorem dX8_in_1 : decode cX8_in 1 = .ok (.iload_n 1, 1) := by decide +kernel
theorem dX8_in_2 : decode cX8_in 2 = .ok (.if_icmp .lt 12, 3) := by decide +kernel
theorem dX8_in_5 : decode cX8_in 5 = .ok (.iload_n 0, 1) := by decide +kernel
theorem dX8_in_6 : decode cX8_in 6 = .ok (.iload_n 2, 1) := by decide +kernel
theorem dX8_in_7 : decode cX8_in 7 = .ok (.if_icmp .gt 7, 3) := by decide +kernel
theorem dX8_in_10 : decode cX8_in 10 = .ok (.iconst 1, 1) := by decide +kernel
theorem dX8_in_11 : decode cX8_in 11 = .ok (.goto 4, 3) := by decide +kernel
theorem dX8_in_14 : decode cX8_in 14 = .ok (.iconst 0, 1) := by decide +kernel
theorem dX8_in_15 : decode cX8_in 15 = .ok (.ireturn, 1) := by decide +kernel
theorem dX8_isIn_0 : decode cX8_isIn 0 = .ok (.iload_n 0, 1) := by decide +kernel
theorem dX8_isIn_1 : decode cX8_isIn 1 = .ok (.iload_n 1, 1) := by decide +kernel
theorem dX8_isIn_2 : decode cX8_isIn 2 = .ok (.ishr, 1) := by decide +kernel
theorem dX8_isIn_3 : decode cX8_isIn 3 = .ok (.iconst 1, 1) := by decide +kernel
theorem dX8_isIn_4 : decode cX8_isIn 4 = .ok (.iand, 1) := by decide +kernel
theorem dX8_isIn_5 : decode cX8_isIn 5 = .ok (.iconst 1, 1) := by decide +kernel
theorem dX8_isIn_6 : decode cX8_isIn 6 = .ok (.if_icmp .ne 7, 3) := by decide +kernel
theorem dX8_isIn_9 : decode cX8_isIn 9 = .ok (.iconst 1, 1) := by decide +kernel
theorem dX8_isIn_10 : decode cX8_isIn 10 = .ok (.goto 4, 3) := by decide +kernel
theorem dX8_isIn_13 : decode cX8_isIn 13 = .ok (.iconst 0, 1) := by decide +kernel
theorem dX8_isIn_14 : decode cX8_isIn 14 = .ok (.ireturn, 1) := by decide +kernel
theorem dX8_ones_0 : decode cX8_ones 0 = .ok (.iconst 0, 1) := by decide +kernel
theorem dX8_ones_1 : decode cX8_ones 1 = .ok (.istore_n 1, 1) := by decide +kernel
theorem dX8_ones_2 : decode cX8_ones 2 = .ok (.iconst 0, 1) := by decide +kernel
theorem dX8_ones_3 : decode cX8_ones 3 = .ok (.istore_n 2, 1) := by decide +kernel
theorem dX8_ones_4 : decode cX8_ones 4 = .ok (.iload_n 2, 1) := by decide +kernel
theorem dX8_ones_5 : decode cX8_ones 5 = .ok (.bipush 24, 2) := by decide +kernel
theorem dX8_ones_7 : decode cX8_ones 7 = .ok (.if_icmp .ge 17, 3) := by decide +kernel
theorem dX8_ones_10 : decode cX8_ones 10 = .ok (.iload_n 1, 1) := by decide +kernel
theorem dX8_ones_11 : decode cX8_ones 11 = .ok (.iload_n 0, 1) := by decide +kernel
theorem dX8_ones_12 : decode cX8_ones 12 = .ok (.iload_n 2, 1) := by decide +kernel
theorem dX8_ones_13 : decode cX8_ones 13 = .ok (.ishr, 1) := by decide +kernel
theorem dX8_ones_14 : decode cX8_ones 14 = .ok (.iconst 1, 1) := by decide +kernel
theorem dX8_ones_15 : decode cX8_ones 15 = .ok (.iand, 1) := by decide +kernel
theorem dX8_ones_16 : decode cX8_ones 16 = .ok (.iadd, 1) := by decide +kernel
theorem dX8_ones_17 : decode cX8_ones 17 = .ok (.istore_n 1, 1) := by decide +kernel
theorem dX8_ones_18 : decode cX8_ones 18 = .ok (.iinc 2 1, 3) := by decide +kernel
theorem dX8_ones_21 : decode cX8_ones 21 = .ok (.goto (-17), 3) := by decide +kernel
theorem dX8_ones_24 : decode cX8_ones 24 = .ok (.iload_n 1, 1) := by decide +kernel
theorem dX8_ones_25 : decode cX8_ones 25 = .ok (.ireturn, 1) := by decide +kernel
theorem dX8_no_0 : decode cX8_no 0 = .ok (.ldc2_w 69, 3) := by decide +kernel
theorem dX8_no_3 : decode cX8_no 3 = .ok (.iload_n 0, 1) := by decide +kernel
theorem dX8_no_4 : decode cX8_no 4 = .ok (.i2l, 1) := by decide +kernel
theorem dX8_no_5 : decode cX8_no 5 = .ok (.lsub, 1) := by decide +kernel
theorem dX8_no_6 : decode cX8_no 6 = .ok (.lreturn, 1) := by decide +kernel
theorem dX8_lowest_0 : decode cX8_lowest 0 = .ok (.lload_n 0, 1) := by decide +kernel
theorem dX8_lowest_1 : decode cX8_lowest 1 = .ok (.lstore 5, 2) := by decide +kernel
theorem dX8_lowest_3 : decode cX8_lowest 3 = .ok (.lload_n 2, 1) := by decide +kernel
theorem dX8_lowest_4 : decode cX8_lowest 4 = .ok (.lstore 7, 2) := by decide +kernel
theorem dX8_lowest_6 : decode cX8_lowest 6 = .ok (.lload 7, 2) := by decide +kernel
theorem dX8_lowest_8 : decode cX8_lowest 8 = .ok (.lconst 0, 1) := by decide +kernel
theorem dX8_lowest_9 : decode cX8_lowest 9 = .ok (.lcmp, 1) := by decide +kernel
theorem dX8_lowest_10 : decode cX8_lowest 10 = .ok (.ifCond .eq 21, 3) := by decide +kernel
theorem dX8_lowest_13 : decode cX8_lowest 13 = .ok (.lload 5, 2) := by decide +kernel
theorem dX8_lowest_15 : decode cX8_lowest 15 = .ok (.lload 7, 2) := by decide +kernel
theorem dX8_lowest_17 : decode cX8_lowest 17 = .ok (.lrem, 1) := by decide +kernel
theorem dX8_lowest_18 : decode cX8_lowest 18 = .ok (.lstore 9, 2) := by decide +kernel
theorem dX8_lowest_20 : decode cX8_lowest 20 = .ok (.lload 7, 2) := by decide +kernel
theorem dX8_lowest_22 : decode cX8_lowest 22 = .ok (.lstore 5, 2) := by decide +kernel
theorem dX8_lowest_24 : decode cX8_lowest 24 = .ok (.lload 9, 2) := by decide +kernel
theorem dX8_lowest_26 : decode cX8_lowest 26 = .ok (.lstore 7, 2) := by decide +kernel
theorem dX8_lowest_28 : decode cX8_lowest 28 = .ok (.goto (-22), 3) := by decide +kernel
theorem dX8_lowest_31 : decode cX8_lowest 31 = .ok (.iload 4, 2) := by decide +kernel
theorem dX8_lowest_33 : decode cX8_lowest 33 = .ok (.ifCond .ne 10, 3) := by decide +kernel
theorem dX8_lowest_36 : decode cX8_lowest 36 = .ok (.lload_n 0, 1) := by decide +kernel
theorem dX8_lowest_37 : decode cX8_lowest 37 = .ok (.lload 5, 2) := by decide +kernel
theorem dX8_lowest_39 : decode cX8_lowest 39 = .ok (.ldiv, 1) := by decide +kernel
theorem dX8_lowest_40 : decode cX8_lowest 40 = .ok (.goto 7, 3) := by decide +kernel
theorem dX8_lowest_43 : decode cX8_lowest 43 = .ok (.lload_n 2, 1) := by decide +kernel
theorem dX8_lowest_44 : decode cX8_lowest 44 = .ok (.lload 5, 2) := by decide +kernel
theorem dX8_lowest_46 : decode cX8_lowest 46 = .ok (.ldiv, 1) := by decide +kernel
theorem dX8_lowest_47 : decode cX8_lowest 47 = .ok (.lreturn, 1) := by decide +kernel
set_option maxRecDepth 20000 in
theorem ggX8_isGeneral_X8_in : GoodIn wsX8_isGeneral wsX8_in := goodIn_r _ [4] (by decide +kernel) (by decide +kernel)
set_option maxRecDepth 20000 in
theorem gX8_isGeneral_X8_in : GoodIn wsX8_isGeneral (va_wsS RX8 71 yX8_in wsX8_in) := goodIn_app (goodIn_of _ (by decide +kernel)) ggX8_isGeneral_X8_in
theorem dX8_isGeneral_0 : decode cX8_isGeneral 0 = .ok (.iload_n 0, 1) := by decide +kernel
theorem dX8_isGeneral_1 : decode cX8_isGeneral 1 = .ok (.iconst 0, 1) := by decide +kernel
theorem dX8_isGeneral_2 : decode cX8_isGeneral 2 = .ok (.iconst 2, 1) := by decide +kernel
theorem dX8_isGeneral_3 : decode cX8_isGeneral 3 = .ok (.invokestatic 71, 3) := by decide +kernel
theorem dX8_isGeneral_6 : decode cX8_isGeneral 6 = .ok (.ireturn, 1) := by decide +kernel
set_option maxRecDepth 20000 in
theorem ggX8_isHour_X8_in : GoodIn wsX8_isHour wsX8_in := goodIn_r _ [4] (by decide +kernel) (by decide +kernel)
set_option maxRecDepth 20000 in
theorem gX8_isHour_X8_in : GoodIn wsX8_isHour (va_wsS RX8 71 yX8_in wsX8_in) := goodIn_app (goodIn_of _ (by decide +kernel)) ggX8_isHour_X8_in
theorem dX8_isHour_0 : decode cX8_isHour 0 = .ok (.iload_n 0, 1) := by decide +kernel
theorem dX8_isHour_1 : decode cX8_isHour 1 = .ok (.iconst 0, 1) := by decide +kernel
theorem dX8_isHour_2 : decode cX8_isHour 2 = .ok (.bipush 23, 2) := by decide +kernel
theorem dX8_isHour_4 : decode cX8_isHour 4 = .ok (.invokestatic 71, 3) := by decide +kernel
theorem dX8_isHour_7 : decode cX8_isHour 7 = .ok (.ireturn, 1) := by decide +kernel
set_option maxRecDepth 20000 in
theorem ggX8_isDish_X8_in : GoodIn wsX8_isDish wsX8_in := goodIn_r _ [4] (by decide +kernel) (by decide +kernel)
set_option maxRecDepth 20000 in
theorem gX8_isDish_X8_in : GoodIn wsX8_isDish (va_wsS RX8 71 yX8_in wsX8_in) := goodIn_app (goodIn_of _ (by decide +kernel)) ggX8_isDish_X8_in
theorem dX8_isDish_0 : decode cX8_isDish 0 = .ok (.iload_n 0, 1) := by decide +kernel
theorem dX8_isDish_1 : decode cX8_isDish 1 = .ok (.iconst 0, 1) := by decide +kernel
theorem dX8_isDish_2 : decode cX8_isDish 2 = .ok (.bipush 6, 2) := by decide +kernel
theorem dX8_isDish_4 : decode cX8_isDish 4 = .ok (.invokestatic 71, 3) := by decide +kernel
theorem dX8_isDish_7 : decode cX8_isDish 7 = .ok (.ireturn, 1) := by decide +kernel
theorem dX8_dishBy_0 : decode cX8_dishBy 0 = .ok (.iload_n 0, 1) := by decide +kernel
theorem dX8_dishBy_1 : decode cX8_dishBy 1 = .ok (.bipush 110, 2) := by decide +kernel
theorem dX8_dishBy_3 : decode cX8_dishBy 3 = .ok (.if_icmp .ne 7, 3) := by decide +kernel
theorem dX8_dishBy_6 : decode cX8_dishBy 6 = .ok (.iconst 0, 1) := by decide +kernel
