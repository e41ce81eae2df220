theorem dX8_quiet_47 : decode cX8_quiet 47 = .ok (.goto 5, 3) := by decide +kernel
theorem dX8_quiet_50 : decode cX8_quiet 50 = .ok (.bipush (-2), 2) := by decide +kernel
theorem dX8_quiet_52 : decode cX8_quiet 52 = .ok (.ireturn, 1) := by decide +kernel
set_option maxRecDepth 20000 in
theorem ggX8_forces_X8_isIn : GoodIn wsX8_forces wsX8_isIn := goodIn_r _ [6] (by decide +kernel) (by decide +kernel)
set_option maxRecDepth 20000 in
theorem gX8_forces_X8_isIn : GoodIn wsX8_forces (va_wsS RX8 138 yX8_isIn wsX8_isIn) := goodIn_app (goodIn_of _ (by decide +kernel)) ggX8_forces_X8_isIn
set_option maxRecDepth 20000 in
theorem ggX8_forces_X8_next : GoodIn wsX8_forces wsX8_next := goodIn_r _ [10, 11, 17, 18, 19, 20, 21, 22, 23, 24, 25, 26, 27, 28, 29, 30, 31, 32, 33, 34, 35, 36, 37, 38, 39] (by decide +kernel) (by decide +kernel)
set_option maxRecDepth 20000 in
theorem gX8_forces_X8_next : GoodIn wsX8_forces (wsV RX8 107 RX8 yX8_next wsX8_next) := goodIn_app (goodIn_of _ (by decide +kernel)) ggX8_forces_X8_next
set_option maxRecDepth 20000 in
theorem ggX8_forces_X8_doesHiccup : GoodIn wsX8_forces wsX8_doesHiccup := goodIn_r _ [15, 16, 17, 18, 19, 20, 21, 22, 23, 24, 25, 26, 27, 28, 29, 30, 31, 32, 33, 34, 35, 36, 37, 38, 39] (by decide +kernel) (by decide +kernel)
set_option maxRecDepth 20000 in
theorem gX8_forces_X8_doesHiccup : GoodIn wsX8_forces (wsV RX8 111 RX8 yX8_doesHiccup wsX8_doesHiccup) := goodIn_app (goodIn_of _ (by decide +kernel)) ggX8_forces_X8_doesHiccup
theorem dX8_forces_0 : decode cX8_forces 0 = .ok (.aload_n 0, 1) := by decide +kernel
theorem dX8_forces_1 : decode cX8_forces 1 = .ok (.getfield 92, 3) := by decide +kernel
theorem dX8_forces_4 : decode cX8_forces 4 = .ok (.iload 4, 2) := by decide +kernel
theorem dX8_forces_6 : decode cX8_forces 6 = .ok (.invokestatic 138, 3) := by decide +kernel
theorem dX8_forces_9 : decode cX8_forces 9 = .ok (.ifCond .eq 5, 3) := by decide +kernel
theorem dX8_forces_12 : decode cX8_forces 12 = .ok (.iconst 0, 1) := by decide +kernel
theorem dX8_forces_13 : decode cX8_forces 13 = .ok (.ireturn, 1) := by decide +kernel
theorem dX8_forces_14 : decode cX8_forces 14 = .ok (.aload_n 0, 1) := by decide +kernel
theorem dX8_forces_15 : decode cX8_forces 15 = .ok (.iload_n 3, 1) := by decide +kernel
theorem dX8_forces_16 : decode cX8_forces 16 = .ok (.iload 4, 2) := by decide +kernel
theorem dX8_forces_18 : decode cX8_forces 18 = .ok (.invokevirtual 107, 3) := by decide +kernel
theorem dX8_forces_21 : decode cX8_forces 21 = .ok (.istore 5, 2) := by decide +kernel
theorem dX8_forces_23 : decode cX8_forces 23 = .ok (.iconst 1, 1) := by decide +kernel
theorem dX8_forces_24 : decode cX8_forces 24 = .ok (.istore 6, 2) := by decide +kernel
theorem dX8_forces_26 : decode cX8_forces 26 = .ok (.iconst 0, 1) := by decide +kernel
theorem dX8_forces_27 : decode cX8_forces 27 = .ok (.istore 7, 2) := by decide +kernel
theorem dX8_forces_29 : decode cX8_forces 29 = .ok (.iload 7, 2) := by decide +kernel
theorem dX8_forces_31 : decode cX8_forces 31 = .ok (.bipush 7, 2) := by decide +kernel
theorem dX8_forces_33 : decode cX8_forces 33 = .ok (.if_icmp .ge 97, 3) := by decide +kernel
theorem dX8_forces_36 : decode cX8_forces 36 = .ok (.aload_n 0, 1) := by decide +kernel
theorem dX8_forces_37 : decode cX8_forces 37 = .ok (.iload_n 2, 1) := by decide +kernel
theorem dX8_forces_38 : decode cX8_forces 38 = .ok (.iload 7, 2) := by decide +kernel
theorem dX8_forces_40 : decode cX8_forces 40 = .ok (.invokevirtual 107, 3) := by decide +kernel
theorem dX8_forces_43 : decode cX8_forces 43 = .ok (.istore 8, 2) := by decide +kernel
theorem dX8_forces_45 : decode cX8_forces 45 = .ok (.aload_n 0, 1) := by decide +kernel
theorem dX8_forces_46 : decode cX8_forces 46 = .ok (.iload 8, 2) := by decide +kernel
theorem dX8_forces_48 : decode cX8_forces 48 = .ok (.iload 7, 2) := by decide +kernel
theorem dX8_forces_50 : decode cX8_forces 50 = .ok (.invokevirtual 111, 3) := by decide +kernel
theorem dX8_forces_53 : decode cX8_forces 53 = .ok (.ifCond .eq 18, 3) := by decide +kernel
theorem dX8_forces_56 : decode cX8_forces 56 = .ok (.aload_n 0, 1) := by decide +kernel
theorem dX8_forces_57 : decode cX8_forces 57 = .ok (.iload 5, 2) := by decide +kernel
theorem dX8_forces_59 : decode cX8_forces 59 = .ok (.iload 4, 2) := by decide +kernel
theorem dX8_forces_61 : decode cX8_forces 61 = .ok (.invokevirtual 111, 3) := by decide +kernel
theorem dX8_forces_64 : decode cX8_forces 64 = .ok (.ifCond .eq 7, 3) := by decide +kernel
theorem dX8_forces_67 : decode cX8_forces 67 = .ok (.iconst 1, 1) := by decide +kernel
theorem dX8_forces_68 : decode cX8_forces 68 = .ok (.goto 4, 3) := by decide +kernel
theorem dX8_forces_71 : decode cX8_forces 71 = .ok (.iconst 0, 1) := by decide +kernel
theorem dX8_forces_72 : decode cX8_forces 72 = .ok (.istore 9, 2) := by decide +kernel
theorem dX8_forces_74 : decode cX8_forces 74 = .ok (.iload 6, 2) := by decide +kernel
theorem dX8_forces_76 : decode cX8_forces 76 = .ok (.ifCond .eq 45, 3) := by decide +kernel
theorem dX8_forces_79 : decode cX8_forces 79 = .ok (.aload_n 0, 1) := by decide +kernel
theorem dX8_forces_80 : decode cX8_forces 80 = .ok (.getfield 92, 3) := by decide +kernel
theorem dX8_forces_83 : decode cX8_forces 83 = .ok (.iload 7, 2) := by decide +kernel
theorem dX8_forces_85 : decode cX8_forces 85 = .ok (.invokestatic 138, 3) := by decide +kernel
theorem dX8_forces_88 : decode cX8_forces 88 = .ok (.ifCond .ne 29, 3) := by decide +kernel
theorem dX8_forces_91 : decode cX8_forces 91 = .ok (.iload 9, 2) := by decide +kernel
theorem dX8_forces_93 : decode cX8_forces 93 = .ok (.ifCond .ne 24, 3) := by decide +kernel
theorem dX8_forces_96 : decode cX8_forces 96 = .ok (.aload_n 0, 1) := by decide +kernel
theorem dX8_forces_97 : decode cX8_forces 97 = .ok (.getfield 37, 3) := by decide +kernel
theorem dX8_forces_100 : decode cX8_forces 100 = .ok (.bipush 100, 2) := by decide +kernel
theorem dX8_forces_102 : decode cX8_forces 102 = .ok (.iload_n 1, 1) := by decide +kernel
theorem dX8_forces_103 : decode cX8_forces 103 = .ok (.imul, 1) := by decide +kernel
theorem dX8_forces_104 : decode cX8_forces 104 = .ok (.bipush 10, 2) := by decide +kernel
theorem dX8_forces_106 : decode cX8_forces 106 = .ok (.iload 8, 2) := by decide +kernel
theorem dX8_forces_108 : decode cX8_forces 108 = .ok (.imul, 1) := by decide +kernel
theorem dX8_forces_109 : decode cX8_forces 109 = .ok (.iadd, 1) := by decide +kernel
theorem dX8_forces_110 : decode cX8_forces 110 = .ok (.iload 5, 2) := by decide +kernel
theorem dX8_forces_112 : decode cX8_forces 112 = .ok (.iadd, 1) := by decide +kernel
theorem dX8_forces_113 : decode cX8_forces 113 = .ok (.baload, 1) := by decide +kernel
theorem dX8_forces_114 : decode cX8_forces 114 = .ok (.ifCond .eq 7, 3) := by decide +kernel
theorem dX8_forces_117 : decode cX8_forces 117 = .ok (.iconst 1, 1) := by decide +kernel
theorem dX8_forces_118 : decode cX8_forces 118 = .ok (.goto 4, 3) := by decide +kernel
theorem dX8_forces_121 : decode cX8_forces 121 = .ok (.iconst 0, 1) := by decide +kernel
theorem dX8_forces_122 : decode cX8_forces 122 = .ok (.istore 6, 2) := by decide +kernel
theorem dX8_forces_124 : decode cX8_forces 124 = .ok (.iinc 7 1, 3) := by decide +kernel
theorem dX8_forces_127 : decode cX8_forces 127 = .ok (.goto (-98), 3) := by decide +kernel
theorem dX8_forces_130 : decode cX8_forces 130 = .ok (.iload 6, 2) := by decide +kernel
theorem dX8_forces_132 : decode cX8_forces 132 = .ok (.ireturn, 1) := by decide +kernel
set_option maxRecDepth 20000 in
theorem ggX8_forceOf_X8_laysAll : GoodIn wsX8_forceOf wsX8_laysAll := goodIn_r _ [8, 9, 10, 11, 7, 12, 2, 13, 14, 15, 3, 16, 17, 18, 19, 20, 21, 22, 23, 24, 25, 26, 27, 28, 29, 30, 31, 32, 33, 34, 35, 36, 37, 38, 39, 40, 49, 50, 51, 52, 53, 54, 55, 56, 57, 58, 59, 60, 61, 62, 63, 64, 65, 66, 67, 68, 69, 70, 71] (by decide +kernel) (by decide +kernel)
set_option maxRecDepth 20000 in
theorem gX8_forceOf_X8_laysAll : GoodIn wsX8_forceOf (wsV RX8 119 RX8 yX8_laysAll wsX8_laysAll) := goodIn_app (goodIn_of _ (by decide +kernel)) ggX8_forceOf_X8_laysAll
set_option maxRecDepth 20000 in
theorem ggX8_forceOf_X8_forces : GoodIn wsX8_forceOf wsX8_forces := goodIn_r _ [44, 45, 1, 46, 47, 7, 48, 31, 32, 33, 34, 35, 36, 37, 38, 39, 40, 49, 50, 51, 52, 53, 54, 55, 56, 57, 58, 59, 60, 61, 62, 63, 64, 65, 66, 67, 68, 69, 70, 71] (by decide +kernel) (by decide +kernel)
set_option maxRecDepth 20000 in
theorem gX8_forceOf_X8_forces : GoodIn wsX8_forceOf (wsV RX8 181 RX8 yX8_forces wsX8_forces) := goodIn_app (goodIn_of _ (by decide +kernel)) ggX8_forceOf_X8_forces
theorem dX8_forceOf_0 : decode cX8_forceOf 0 = .ok (.aload_n 0, 1) := by decide +kernel
theorem dX8_forceOf_1 : decode cX8_forceOf 1 = .ok (.invokevirtual 119, 3) := by decide +kernel
theorem dX8_forceOf_4 : decode cX8_forceOf 4 = .ok (.iconst 0, 1) := by decide +kernel
theorem dX8_forceOf_5 : decode cX8_forceOf 5 = .ok (.istore 4, 2) := by decide +kernel
theorem dX8_forceOf_7 : decode cX8_forceOf 7 = .ok (.iload 4, 2) := by decide +kernel
theorem dX8_forceOf_9 : decode cX8_forceOf 9 = .ok (.bipush 100, 2) := by decide +kernel
theorem dX8_forceOf_11 : decode cX8_forceOf 11 = .ok (.if_icmp .ge 17, 3) := by decide +kernel
theorem dX8_forceOf_14 : decode cX8_forceOf 14 = .ok (.aload_n 0, 1) := by decide +kernel
theorem dX8_forceOf_15 : decode cX8_forceOf 15 = .ok (.getfield 37, 3) := by decide +kernel
theorem dX8_forceOf_18 : decode cX8_forceOf 18 = .ok (.iload 4, 2) := by decide +kernel
theorem dX8_forceOf_20 : decode cX8_forceOf 20 = .ok (.iconst 0, 1) := by decide +kernel
theorem dX8_forceOf_21 : decode cX8_forceOf 21 = .ok (.bastore, 1) := by decide +kernel
theorem dX8_forceOf_22 : decode cX8_forceOf 22 = .ok (.iinc 4 1, 3) := by decide +kernel
theorem dX8_forceOf_25 : decode cX8_forceOf 25 = .ok (.goto (-18), 3) := by decide +kernel
theorem dX8_forceOf_28 : decode cX8_forceOf 28 = .ok (.iconst 1, 1) := by decide +kernel
theorem dX8_forceOf_29 : decode cX8_forceOf 29 = .ok (.istore 4, 2) := by decide +kernel
theorem dX8_forceOf_31 : decode cX8_forceOf 31 = .ok (.iload 4, 2) := by decide +kernel
theorem dX8_forceOf_33 : decode cX8_forceOf 33 = .ok (.iload_n 2, 1) := by decide +kernel
theorem dX8_forceOf_34 : decode cX8_forceOf 34 = .ok (.if_icmp .gt 94, 3) := by decide +kernel
theorem dX8_forceOf_37 : decode cX8_forceOf 37 = .ok (.iconst 0, 1) := by decide +kernel
theorem dX8_forceOf_38 : decode cX8_forceOf 38 = .ok (.istore 5, 2) := by decide +kernel
theorem dX8_forceOf_40 : decode cX8_forceOf 40 = .ok (.iload 5, 2) := by decide +kernel
theorem dX8_forceOf_42 : decode cX8_forceOf 42 = .ok (.bipush 100, 2) := by decide +kernel
theorem dX8_forceOf_44 : decode cX8_forceOf 44 = .ok (.if_icmp .ge 78, 3) := by decide +kernel
theorem dX8_forceOf_47 : decode cX8_forceOf 47 = .ok (.iconst 0, 1) := by decide +kernel
theorem dX8_forceOf_48 : decode cX8_forceOf 48 = .ok (.istore 6, 2) := by decide +kernel
theorem dX8_forceOf_50 : decode cX8_forceOf 50 = .ok (.iconst 0, 1) := by decide +kernel
theorem dX8_forceOf_51 : decode cX8_forceOf 51 = .ok (.istore 7, 2) := by decide +kernel
theorem dX8_forceOf_53 : decode cX8_forceOf 53 = .ok (.iload 7, 2) := by decide +kernel
theorem dX8_forceOf_55 : decode cX8_forceOf 55 = .ok (.bipush 7, 2) := by decide +kernel
theorem dX8_forceOf_57 : decode cX8_forceOf 57 = .ok (.if_icmp .ge 44, 3) := by decide +kernel
theorem dX8_forceOf_60 : decode cX8_forceOf 60 = .ok (.iload 6, 2) := by decide +kernel
theorem dX8_forceOf_62 : decode cX8_forceOf 62 = .ok (.ifCond .ne 26, 3) := by decide +kernel
theorem dX8_forceOf_65 : decode cX8_forceOf 65 = .ok (.aload_n 0, 1) := by decide +kernel
theorem dX8_forceOf_66 : decode cX8_forceOf 66 = .ok (.iload 4, 2) := by decide +kernel
theorem dX8_forceOf_68 : decode cX8_forceOf 68 = .ok (.iconst 1, 1) := by decide +kernel
theorem dX8_forceOf_69 : decode cX8_forceOf 69 = .ok (.isub, 1) := by decide +kernel
theorem dX8_forceOf_70 : decode cX8_forceOf 70 = .ok (.iload 5, 2) := by decide +kernel
theorem dX8_forceOf_72 : decode cX8_forceOf 72 = .ok (.bipush 10, 2) := by decide +kernel
theorem dX8_forceOf_74 : decode cX8_forceOf 74 = .ok (.idiv, 1) := by decide +kernel
theorem dX8_forceOf_75 : decode cX8_forceOf 75 = .ok (.iload 5, 2) := by decide +kernel
theorem dX8_forceOf_77 : decode cX8_forceOf 77 = .ok (.bipush 10, 2) := by decide +kernel
theorem dX8_forceOf_79 : decode cX8_forceOf 79 = .ok (.irem, 1) := by decide +kernel
theorem dX8_forceOf_80 : decode cX8_forceOf 80 = .ok (.iload 7, 2) := by decide +kernel
theorem dX8_forceOf_82 : decode cX8_forceOf 82 = .ok (.invokevirtual 181, 3) := by decide +kernel
theorem dX8_forceOf_85 : decode cX8_forceOf 85 = .ok (.ifCond .eq 7, 3) := by decide +kernel
theorem dX8_forceOf_88 : decode cX8_forceOf 88 = .ok (.iconst 1, 1) := by decide +kernel
theorem dX8_forceOf_89 : decode cX8_forceOf 89 = .ok (.goto 4, 3) := by decide +kernel
theorem dX8_forceOf_92 : decode cX8_forceOf 92 = .ok (.iconst 0, 1) := by decide +kernel
theorem dX8_forceOf_93 : decode cX8_forceOf 93 = .ok (.istore 6, 2) := by decide +kernel
theorem dX8_forceOf_95 : decode cX8_forceOf 95 = .ok (.iinc 7 1, 3) := by decide +kernel
theorem dX8_forceOf_98 : decode cX8_forceOf 98 = .ok (.goto (-45), 3) := by decide +kernel
theorem dX8_forceOf_101 : decode cX8_forceOf 101 = .ok (.aload_n 0, 1) := by decide +kernel
theorem dX8_forceOf_102 : decode cX8_forceOf 102 = .ok (.getfield 37, 3) := by decide +kernel
theorem dX8_forceOf_105 : decode cX8_forceOf 105 = .ok (.bipush 100, 2) := by decide +kernel
theorem dX8_forceOf_107 : decode cX8_forceOf 107 = .ok (.iload 4, 2) := by decide +kernel
theorem dX8_forceOf_109 : decode cX8_forceOf 109 = .ok (.imul, 1) := by decide +kernel
theorem dX8_forceOf_110 : decode cX8_forceOf 110 = .ok (.iload 5, 2) := by decide +kernel
theorem dX8_forceOf_112 : decode cX8_forceOf 112 = .ok (.iadd, 1) := by decide +kernel
theorem dX8_forceOf_113 : decode cX8_forceOf 113 = .ok (.iload 6, 2) := by decide +kernel
theorem dX8_forceOf_115 : decode cX8_forceOf 115 = .ok (.bastore, 1) := by decide +kernel
theorem dX8_forceOf_116 : decode cX8_forceOf 116 = .ok (.iinc 5 1, 3) := by decide +kernel
theorem dX8_forceOf_119 : decode cX8_forceOf 119 = .ok (.goto (-79), 3) := by decide +kernel
theorem dX8_forceOf_122 : decode cX8_forceOf 122 = .ok (.iinc 4 1, 3) := by decide +kernel
theorem dX8_forceOf_125 : decode cX8_forceOf 125 = .ok (.goto (-94), 3) := by decide +kernel
theorem dX8_forceOf_128 : decode cX8_forceOf 128 = .ok (.iload_n 1, 1) := by decide +kernel
theorem dX8_forceOf_129 : decode cX8_forceOf 129 = .ok (.ifCond .ne 12, 3) := by decide +kernel
theorem dX8_forceOf_132 : decode cX8_forceOf 132 = .ok (.aload_n 0, 1) := by decide +kernel
theorem dX8_forceOf_133 : decode cX8_forceOf 133 = .ok (.getfield 16, 3) := by decide +kernel
theorem dX8_forceOf_136 : decode cX8_forceOf 136 = .ok (.iconst 0, 1) := by decide +kernel
theorem dX8_forceOf_137 : decode cX8_forceOf 137 = .ok (.iaload, 1) := by decide +kernel
theorem dX8_forceOf_138 : decode cX8_forceOf 138 = .ok (.goto 11, 3) := by decide +kernel
theorem dX8_forceOf_141 : decode cX8_forceOf 141 = .ok (.aload_n 0, 1) := by decide +kernel
theorem dX8_forceOf_142 : decode cX8_forceOf 142 = .ok (.getfield 28, 3) := by decide +kernel
theorem dX8_forceOf_145 : decode cX8_forceOf 145 = .ok (.iload_n 1, 1) := by decide +kernel
theorem dX8_forceOf_146 : decode cX8_forceOf 146 = .ok (.iconst 1, 1) := by decide +kernel
theorem dX8_forceOf_147 : decode cX8_forceOf 147 = .ok (.isub, 1) := by decide +kernel
theorem dX8_forceOf_148 : decode cX8_forceOf 148 = .ok (.iaload, 1) := by decide +kernel
theorem dX8_forceOf_149 : decode cX8_forceOf 149 = .ok (.istore 4, 2) := by decide +kernel
theorem dX8_forceOf_151 : decode cX8_forceOf 151 = .ok (.iload_n 1, 1) := by decide +kernel
theorem dX8_forceOf_152 : decode cX8_forceOf 152 = .ok (.ifCond .ne 12, 3) := by decide +kernel
theorem dX8_forceOf_155 : decode cX8_forceOf 155 = .ok (.aload_n 0, 1) := by decide +kernel
theorem dX8_forceOf_156 : decode cX8_forceOf 156 = .ok (.getfield 16, 3) := by decide +kernel
theorem dX8_forceOf_159 : decode cX8_forceOf 159 = .ok (.iconst 1, 1) := by decide +kernel
theorem dX8_forceOf_160 : decode cX8_forceOf 160 = .ok (.iaload, 1) := by decide +kernel
theorem dX8_forceOf_161 : decode cX8_forceOf 161 = .ok (.goto 14, 3) := by decide +kernel
theorem dX8_forceOf_164 : decode cX8_forceOf 164 = .ok (.aload_n 0, 1) := by decide +kernel
theorem dX8_forceOf_165 : decode cX8_forceOf 165 = .ok (.getfield 28, 3) := by decide +kernel
theorem dX8_forceOf_168 : decode cX8_forceOf 168 = .ok (.bipush 24, 2) := by decide +kernel
theorem dX8_forceOf_170 : decode cX8_forceOf 170 = .ok (.iload_n 1, 1) := by decide +kernel
theorem dX8_forceOf_171 : decode cX8_forceOf 171 = .ok (.iadd, 1) := by decide +kernel
theorem dX8_forceOf_172 : decode cX8_forceOf 172 = .ok (.iconst 1, 1) := by decide +kernel
theorem dX8_forceOf_173 : decode cX8_forceOf 173 = .ok (.isub, 1) := by decide +kernel
theorem dX8_forceOf_174 : decode cX8_forceOf 174 = .ok (.iaload, 1) := by decide +kernel
theorem dX8_forceOf_175 : decode cX8_forceOf 175 = .ok (.istore 5, 2) := by decide +kernel
theorem dX8_forceOf_177 : decode cX8_forceOf 177 = .ok (.iconst (-1), 1) := by decide +kernel
theorem dX8_forceOf_178 : decode cX8_forceOf 178 = .ok (.istore 6, 2) := by decide +kernel
theorem dX8_forceOf_180 : decode cX8_forceOf 180 = .ok (.bipush 6, 2) := by decide +kernel
theorem dX8_forceOf_182 : decode cX8_forceOf 182 = .ok (.istore 7, 2) := by decide +kernel
theorem dX8_forceOf_184 : decode cX8_forceOf 184 = .ok (.iload 7, 2) := by decide +kernel
theorem dX8_forceOf_186 : decode cX8_forceOf 186 = .ok (.ifCond .lt 34, 3) := by decide +kernel
theorem dX8_forceOf_189 : decode cX8_forceOf 189 = .ok (.aload_n 0, 1) := by decide +kernel
theorem dX8_forceOf_190 : decode cX8_forceOf 190 = .ok (.iload_n 2, 1) := by decide +kernel
theorem dX8_forceOf_191 : decode cX8_forceOf 191 = .ok (.iconst 1, 1) := by decide +kernel
theorem dX8_forceOf_192 : decode cX8_forceOf 192 = .ok (.isub, 1) := by decide +kernel
theorem dX8_forceOf_193 : decode cX8_forceOf 193 = .ok (.iload 4, 2) := by decide +kernel
theorem dX8_forceOf_195 : decode cX8_forceOf 195 = .ok (.iload 5, 2) := by decide +kernel
theorem dX8_forceOf_197 : decode cX8_forceOf 197 = .ok (.iload 7, 2) := by decide +kernel
theorem dX8_forceOf_199 : decode cX8_forceOf 199 = .ok (.invokevirtual 181, 3) := by decide +kernel
theorem dX8_forceOf_202 : decode cX8_forceOf 202 = .ok (.ifCond .eq 8, 3) := by decide +kernel
theorem dX8_forceOf_205 : decode cX8_forceOf 205 = .ok (.iload 7, 2) := by decide +kernel
theorem dX8_forceOf_207 : decode cX8_forceOf 207 = .ok (.goto 5, 3) := by decide +kernel
theorem dX8_forceOf_210 : decode cX8_forceOf 210 = .ok (.iload 6, 2) := by decide +kernel
theorem dX8_forceOf_212 : decode cX8_forceOf 212 = .ok (.istore 6, 2) := by decide +kernel
theorem dX8_forceOf_214 : decode cX8_forceOf 214 = .ok (.iinc 7 (-1), 3) := by decide +kernel
theorem dX8_forceOf_217 : decode cX8_forceOf 217 = .ok (.goto (-33), 3) := by decide +kernel
theorem dX8_forceOf_220 : decode cX8_forceOf 220 = .ok (.iload_n 3, 1) := by decide +kernel
theorem dX8_forceOf_221 : decode cX8_forceOf 221 = .ok (.iconst 1, 1) := by decide +kernel
theorem dX8_forceOf_222 : decode cX8_forceOf 222 = .ok (.if_icmp .ne 8, 3) := by decide +kernel
theorem dX8_forceOf_225 : decode cX8_forceOf 225 = .ok (.iload 6, 2) := by decide +kernel
theorem dX8_forceOf_227 : decode cX8_forceOf 227 = .ok (.goto 14, 3) := by decide +kernel
theorem dX8_forceOf_230 : decode cX8_forceOf 230 = .ok (.iload 6, 2) := by decide +kernel
theorem dX8_forceOf_232 : decode cX8_forceOf 232 = .ok (.iconst (-1), 1) := by decide +kernel
theorem dX8_forceOf_233 : decode cX8_forceOf 233 = .ok (.if_icmp .ne 7, 3) := by decide +kernel
theorem dX8_forceOf_236 : decode cX8_forceOf 236 = .ok (.iconst 0, 1) := by decide +kernel
theorem dX8_forceOf_237 : decode cX8_forceOf 237 = .ok (.goto 4, 3) := by decide +kernel
theorem dX8_forceOf_240 : decode cX8_forceOf 240 = .ok (.iconst 1, 1) := by decide +kernel
theorem dX8_forceOf_241 : decode cX8_forceOf 241 = .ok (.ireturn, 1) := by decide +kernel
set_option maxRecDepth 20000 in
theorem ggX8_force_X8_isHour : GoodIn wsX8_force wsX8_isHour := goodIn_r _ [4, 5, 6, 3, 7] (by decide +kernel) (by decide +kernel)
set_option maxRecDepth 20000 in
theorem gX8_force_X8_isHour : GoodIn wsX8_force (va_wsS RX8 122 yX8_isHour wsX8_isHour) := goodIn_app (goodIn_of _ (by decide +kernel)) ggX8_force_X8_isHour
set_option maxRecDepth 20000 in
theorem ggX8_force_X8_in : GoodIn wsX8_force wsX8_in := goodIn_r _ [7] (by decide +kernel) (by decide +kernel)
set_option maxRecDepth 20000 in
theorem gX8_force_X8_in : GoodIn wsX8_force (va_wsS RX8 71 yX8_in wsX8_in) := goodIn_app (goodIn_of _ (by decide +kernel)) ggX8_force_X8_in
set_option maxRecDepth 20000 in
theorem ggX8_force_X8_forceOf : GoodIn wsX8_force wsX8_forceOf := goodIn_r _ [11, 12, 13, 14, 15, 16, 17, 3, 18, 19, 20, 21, 22, 23, 24, 25, 26, 27, 28, 29, 30, 31, 32, 33, 34, 35, 36, 37, 5, 6, 7, 38, 39, 40, 41, 42, 43, 44, 45, 46, 47, 48, 49, 50, 51, 52, 53, 54, 55, 56, 57, 58, 59, 60, 61, 62, 63, 64, 65, 66, 67, 68, 69, 70, 71, 72, 73, 74, 75, 76, 77, 78] (by decide +kernel) (by decide +kernel)
set_option maxRecDepth 20000 in
theorem gX8_force_X8_forceOf : GoodIn wsX8_force (wsV RX8 185 RX8 yX8_forceOf wsX8_forceOf) := goodIn_app (goodIn_of _ (by decide +kernel)) ggX8_force_X8_forceOf
theorem dX8_force_0 : decode cX8_force 0 = .ok (.iload_n 1, 1) := by decide +kernel
theorem dX8_force_1 : decode cX8_force 1 = .ok (.invokestatic 122, 3) := by decide +kernel
theorem dX8_force_4 : decode cX8_force 4 = .ok (.ifCond .eq 40, 3) := by decide +kernel
theorem dX8_force_7 : decode cX8_force 7 = .ok (.iload_n 2, 1) := by decide +kernel
theorem dX8_force_8 : decode cX8_force 8 = .ok (.iconst 1, 1) := by decide +kernel
theorem dX8_force_9 : decode cX8_force 9 = .ok (.bipush 12, 2) := by decide +kernel
theorem dX8_force_11 : decode cX8_force 11 = .ok (.invokestatic 71, 3) := by decide +kernel
theorem dX8_force_14 : decode cX8_force 14 = .ok (.ifCond .eq 30, 3) := by decide +kernel
theorem dX8_force_17 : decode cX8_force 17 = .ok (.iload_n 1, 1) := by decide +kernel
theorem dX8_force_18 : decode cX8_force 18 = .ok (.iload_n 2, 1) := by decide +kernel
theorem dX8_force_19 : decode cX8_force 19 = .ok (.iadd, 1) := by decide +kernel
theorem dX8_force_20 : decode cX8_force 20 = .ok (.bipush 24, 2) := by decide +kernel
theorem dX8_force_22 : decode cX8_force 22 = .ok (.if_icmp .gt 22, 3) := by decide +kernel
theorem dX8_force_25 : decode cX8_force 25 = .ok (.iload_n 3, 1) := by decide +kernel
theorem dX8_force_26 : decode cX8_force 26 = .ok (.iconst 0, 1) := by decide +kernel
theorem dX8_force_27 : decode cX8_force 27 = .ok (.iconst 1, 1) := by decide +kernel
theorem dX8_force_28 : decode cX8_force 28 = .ok (.invokestatic 71, 3) := by decide +kernel
theorem dX8_force_31 : decode cX8_force 31 = .ok (.ifCond .eq 13, 3) := by decide +kernel
theorem dX8_force_34 : decode cX8_force 34 = .ok (.aload_n 0, 1) := by decide +kernel
theorem dX8_force_35 : decode cX8_force 35 = .ok (.iload_n 1, 1) := by decide +kernel
theorem dX8_force_36 : decode cX8_force 36 = .ok (.iload_n 2, 1) := by decide +kernel
theorem dX8_force_37 : decode cX8_force 37 = .ok (.iload_n 3, 1) := by decide +kernel
theorem dX8_force_38 : decode cX8_force 38 = .ok (.invokevirtual 185, 3) := by decide +kernel
theorem dX8_force_41 : decode cX8_force 41 = .ok (.goto 5, 3) := by decide +kernel
theorem dX8_force_44 : decode cX8_force 44 = .ok (.bipush (-2), 2) := by decide +kernel
theorem dX8_force_46 : decode cX8_force 46 = .ok (.ireturn, 1) := by decide +kernel
set_option maxRecDepth 20000 in
theorem ggX8_seen_X8_isGeneral : GoodIn wsX8_seen wsX8_isGeneral := goodIn_r _ [8, 9, 10, 7, 11] (by decide +kernel) (by decide +kernel)
set_option maxRecDepth 20000 in
theorem gX8_seen_X8_isGeneral : GoodIn wsX8_seen (va_wsS RX8 75 yX8_isGeneral wsX8_isGeneral) := goodIn_app (goodIn_of _ (by decide +kernel)) ggX8_seen_X8_isGeneral
set_option maxRecDepth 20000 in
theorem ggX8_seen_X8_isHour : GoodIn wsX8_seen wsX8_isHour := goodIn_r _ [14, 9, 10, 7, 11] (by decide +kernel) (by decide +kernel)
set_option maxRecDepth 20000 in
theorem gX8_seen_X8_isHour : GoodIn wsX8_seen (va_wsS RX8 122 yX8_isHour wsX8_isHour) := goodIn_app (goodIn_of _ (by decide +kernel)) ggX8_seen_X8_isHour
set_option maxRecDepth 20000 in
theorem ggX8_seen_X8_in : GoodIn wsX8_seen wsX8_in := goodIn_r _ [11] (by decide +kernel) (by decide +kernel)
set_option maxRecDepth 20000 in
theorem gX8_seen_X8_in : GoodIn wsX8_seen (va_wsS RX8 71 yX8_in wsX8_in) := goodIn_app (goodIn_of _ (by decide +kernel)) ggX8_seen_X8_in
theorem dX8_seen_0 : decode cX8_seen 0 = .ok (.iload_n 1, 1) := by decide +kernel
theorem dX8_seen_1 : decode cX8_seen 1 = .ok (.invokestatic 75, 3) := by decide +kernel
theorem dX8_seen_4 : decode cX8_seen 4 = .ok (.ifCond .eq 19, 3) := by decide +kernel
theorem dX8_seen_7 : decode cX8_seen 7 = .ok (.iload_n 2, 1) := by decide +kernel
theorem dX8_seen_8 : decode cX8_seen 8 = .ok (.invokestatic 122, 3) := by decide +kernel
theorem dX8_seen_11 : decode cX8_seen 11 = .ok (.ifCond .eq 12, 3) := by decide +kernel
theorem dX8_seen_14 : decode cX8_seen 14 = .ok (.iload_n 3, 1) := by decide +kernel
theorem dX8_seen_15 : decode cX8_seen 15 = .ok (.iconst 0, 1) := by decide +kernel
theorem dX8_seen_16 : decode cX8_seen 16 = .ok (.iconst 1, 1) := by decide +kernel
theorem dX8_seen_17 : decode cX8_seen 17 = .ok (.invokestatic 71, 3) := by decide +kernel
theorem dX8_seen_20 : decode cX8_seen 20 = .ok (.ifCond .ne 6, 3) := by decide +kernel
theorem dX8_seen_23 : decode cX8_seen 23 = .ok (.bipush (-2), 2) := by decide +kernel
theorem dX8_seen_25 : decode cX8_seen 25 = .ok (.ireturn, 1) := by decide +kernel
theorem dX8_seen_26 : decode cX8_seen 26 = .ok (.aload_n 0, 1) := by decide +kernel
theorem dX8_seen_27 : decode cX8_seen 27 = .ok (.getfield 189, 3) := by decide +kernel
theorem dX8_seen_30 : decode cX8_seen 30 = .ok (.bipush 8, 2) := by decide +kernel
theorem dX8_seen_32 : decode cX8_seen 32 = .ok (.if_icmp .ne 6, 3) := by decide +kernel
theorem dX8_seen_35 : decode cX8_seen 35 = .ok (.bipush (-4), 2) := by decide +kernel
theorem dX8_seen_37 : decode cX8_seen 37 = .ok (.ireturn, 1) := by decide +kernel
theorem dX8_seen_38 : decode cX8_seen 38 = .ok (.aload_n 0, 1) := by decide +kernel
theorem dX8_seen_39 : decode cX8_seen 39 = .ok (.getfield 41, 3) := by decide +kernel
theorem dX8_seen_42 : decode cX8_seen 42 = .ok (.aload_n 0, 1) := by decide +kernel
theorem dX8_seen_43 : decode cX8_seen 43 = .ok (.getfield 189, 3) := by decide +kernel
theorem dX8_seen_46 : decode cX8_seen 46 = .ok (.iload_n 1, 1) := by decide +kernel
theorem dX8_seen_47 : decode cX8_seen 47 = .ok (.iastore, 1) := by decide +kernel
theorem dX8_seen_48 : decode cX8_seen 48 = .ok (.aload_n 0, 1) := by decide +kernel
theorem dX8_seen_49 : decode cX8_seen 49 = .ok (.getfield 44, 3) := by decide +kernel
theorem dX8_seen_52 : decode cX8_seen 52 = .ok (.aload_n 0, 1) := by decide +kernel
theorem dX8_seen_53 : decode cX8_seen 53 = .ok (.getfield 189, 3) := by decide +kernel
theorem dX8_seen_56 : decode cX8_seen 56 = .ok (.iload_n 2, 1) := by decide +kernel
theorem dX8_seen_57 : decode cX8_seen 57 = .ok (.iastore, 1) := by decide +kernel
theorem dX8_seen_58 : decode cX8_seen 58 = .ok (.aload_n 0, 1) := by decide +kernel
theorem dX8_seen_59 : decode cX8_seen 59 = .ok (.getfield 47, 3) := by decide +kernel
theorem dX8_seen_62 : decode cX8_seen 62 = .ok (.aload_n 0, 1) := by decide +kernel
theorem dX8_seen_63 : decode cX8_seen 63 = .ok (.getfield 189, 3) := by decide +kernel
theorem dX8_seen_66 : decode cX8_seen 66 = .ok (.iload_n 3, 1) := by decide +kernel
theorem dX8_seen_67 : decode cX8_seen 67 = .ok (.iastore, 1) := by decide +kernel
theorem dX8_seen_68 : decode cX8_seen 68 = .ok (.aload_n 0, 1) := by decide +kernel
theorem dX8_seen_69 : decode cX8_seen 69 = .ok (.dup, 1) := by decide +kernel
theorem dX8_seen_70 : decode cX8_seen 70 = .ok (.getfield 189, 3) := by decide +kernel
theorem dX8_seen_73 : decode cX8_seen 73 = .ok (.iconst 1, 1) := by decide +kernel
theorem dX8_seen_74 : decode cX8_seen 74 = .ok (.iadd, 1) := by decide +kernel
theorem dX8_seen_75 : decode cX8_seen 75 = .ok (.putfield 189, 3) := by decide +kernel
theorem dX8_seen_78 : decode cX8_seen 78 = .ok (.aload_n 0, 1) := by decide +kernel
theorem dX8_seen_79 : decode cX8_seen 79 = .ok (.getfield 189, 3) := by decide +kernel
theorem dX8_seen_82 : decode cX8_seen 82 = .ok (.ireturn, 1) := by decide +kernel
theorem dX8_forget_0 : decode cX8_forget 0 = .ok (.aload_n 0, 1) := by decide +kernel
theorem dX8_forget_1 : decode cX8_forget 1 = .ok (.getfield 189, 3) := by decide +kernel
theorem dX8_forget_4 : decode cX8_forget 4 = .ok (.istore_n 1, 1) := by decide +kernel
theorem dX8_forget_5 : decode cX8_forget 5 = .ok (.aload_n 0, 1) := by decide +kernel
theorem dX8_forget_6 : decode cX8_forget 6 = .ok (.iconst 0, 1) := by decide +kernel
theorem dX8_forget_7 : decode cX8_forget 7 = .ok (.putfield 189, 3) := by decide +kernel
theorem dX8_forget_10 : decode cX8_forget 10 = .ok (.iload_n 1, 1) := by decide +kernel
theorem dX8_forget_11 : decode cX8_forget 11 = .ok (.ireturn, 1) := by decide +kernel
set_option maxRecDepth 20000 in
theorem ggX8_frightOf_X8_lays : GoodIn wsX8_frightOf wsX8_lays := goodIn_r _ [10, 11, 3, 12, 13, 14, 15, 16, 17, 9, 18, 19, 20, 21, 22, 23, 24, 25, 26, 27, 28, 29, 30, 31, 32, 33, 34, 35, 36, 37, 38, 39, 40, 41, 42, 43, 44, 45, 46, 47, 48, 49, 50, 51, 52, 53, 54, 55, 56, 57, 58, 59, 60, 61, 62] (by decide +kernel) (by decide +kernel)
set_option maxRecDepth 20000 in
theorem gX8_frightOf_X8_lays : GoodIn wsX8_frightOf (wsV RX8 115 RX8 yX8_lays wsX8_lays) := goodIn_app (goodIn_of _ (by decide +kernel)) ggX8_frightOf_X8_lays
theorem dX8_frightOf_0 : decode cX8_frightOf 0 = .ok (.iconst 0, 1) := by decide +kernel
theorem dX8_frightOf_1 : decode cX8_frightOf 1 = .ok (.istore_n 2, 1) := by decide +kernel
theorem dX8_frightOf_2 : decode cX8_frightOf 2 = .ok (.iconst 0, 1) := by decide +kernel
theorem dX8_frightOf_3 : decode cX8_frightOf 3 = .ok (.istore_n 3, 1) := by decide +kernel
theorem dX8_frightOf_4 : decode cX8_frightOf 4 = .ok (.iload_n 3, 1) := by decide +kernel
theorem dX8_frightOf_5 : decode cX8_frightOf 5 = .ok (.bipush 24, 2) := by decide +kernel
theorem dX8_frightOf_7 : decode cX8_frightOf 7 = .ok (.if_icmp .ge 101, 3) := by decide +kernel
theorem dX8_frightOf_10 : decode cX8_frightOf 10 = .ok (.aload_n 0, 1) := by decide +kernel
theorem dX8_frightOf_11 : decode cX8_frightOf 11 = .ok (.iload_n 1, 1) := by decide +kernel
theorem dX8_frightOf_12 : decode cX8_frightOf 12 = .ok (.iconst 0, 1) := by decide +kernel
theorem dX8_frightOf_13 : decode cX8_frightOf 13 = .ok (.iload_n 3, 1) := by decide +kernel
theorem dX8_frightOf_14 : decode cX8_frightOf 14 = .ok (.invokevirtual 115, 3) := by decide +kernel
theorem dX8_frightOf_17 : decode cX8_frightOf 17 = .ok (.iconst 1, 1) := by decide +kernel
theorem dX8_frightOf_18 : decode cX8_frightOf 18 = .ok (.istore 4, 2) := by decide +kernel
theorem dX8_frightOf_20 : decode cX8_frightOf 20 = .ok (.iconst 0, 1) := by decide +kernel
theorem dX8_frightOf_21 : decode cX8_frightOf 21 = .ok (.istore 5, 2) := by decide +kernel
theorem dX8_frightOf_23 : decode cX8_frightOf 23 = .ok (.iload 5, 2) := by decide +kernel
theorem dX8_frightOf_25 : decode cX8_frightOf 25 = .ok (.aload_n 0, 1) := by decide +kernel
theorem dX8_frightOf_26 : decode cX8_frightOf 26 = .ok (.getfield 189, 3) := by decide +kernel
theorem dX8_frightOf_29 : decode cX8_frightOf 29 = .ok (.if_icmp .ge 58, 3) := by decide +kernel
theorem dX8_frightOf_32 : decode cX8_frightOf 32 = .ok (.iload 4, 2) := by decide +kernel
theorem dX8_frightOf_34 : decode cX8_frightOf 34 = .ok (.ifCond .eq 44, 3) := by decide +kernel
theorem dX8_frightOf_37 : decode cX8_frightOf 37 = .ok (.aload_n 0, 1) := by decide +kernel
theorem dX8_frightOf_38 : decode cX8_frightOf 38 = .ok (.getfield 41, 3) := by decide +kernel
theorem dX8_frightOf_41 : decode cX8_frightOf 41 = .ok (.iload 5, 2) := by decide +kernel
theorem dX8_frightOf_43 : decode cX8_frightOf 43 = .ok (.iaload, 1) := by decide +kernel
theorem dX8_frightOf_44 : decode cX8_frightOf 44 = .ok (.iload_n 1, 1) := by decide +kernel
theorem dX8_frightOf_45 : decode cX8_frightOf 45 = .ok (.if_icmp .ne 29, 3) := by decide +kernel
theorem dX8_frightOf_48 : decode cX8_frightOf 48 = .ok (.aload_n 0, 1) := by decide +kernel
theorem dX8_frightOf_49 : decode cX8_frightOf 49 = .ok (.getfield 31, 3) := by decide +kernel
theorem dX8_frightOf_52 : decode cX8_frightOf 52 = .ok (.iload_n 1, 1) := by decide +kernel
theorem dX8_frightOf_53 : decode cX8_frightOf 53 = .ok (.iaload, 1) := by decide +kernel
theorem dX8_frightOf_54 : decode cX8_frightOf 54 = .ok (.aload_n 0, 1) := by decide +kernel
theorem dX8_frightOf_55 : decode cX8_frightOf 55 = .ok (.getfield 44, 3) := by decide +kernel
theorem dX8_frightOf_58 : decode cX8_frightOf 58 = .ok (.iload 5, 2) := by decide +kernel
theorem dX8_frightOf_60 : decode cX8_frightOf 60 = .ok (.iaload, 1) := by decide +kernel
theorem dX8_frightOf_61 : decode cX8_frightOf 61 = .ok (.ishr, 1) := by decide +kernel
theorem dX8_frightOf_62 : decode cX8_frightOf 62 = .ok (.iconst 1, 1) := by decide +kernel
theorem dX8_frightOf_63 : decode cX8_frightOf 63 = .ok (.iand, 1) := by decide +kernel
theorem dX8_frightOf_64 : decode cX8_frightOf 64 = .ok (.aload_n 0, 1) := by decide +kernel
theorem dX8_frightOf_65 : decode cX8_frightOf 65 = .ok (.getfield 47, 3) := by decide +kernel
theorem dX8_frightOf_68 : decode cX8_frightOf 68 = .ok (.iload 5, 2) := by decide +kernel
theorem dX8_frightOf_70 : decode cX8_frightOf 70 = .ok (.iaload, 1) := by decide +kernel
theorem dX8_frightOf_71 : decode cX8_frightOf 71 = .ok (.if_icmp .ne 7, 3) := by decide +kernel
theorem dX8_frightOf_74 : decode cX8_frightOf 74 = .ok (.iconst 1, 1) := by decide +kernel
theorem dX8_frightOf_75 : decode cX8_frightOf 75 = .ok (.goto 4, 3) := by decide +kernel
theorem dX8_frightOf_78 : decode cX8_frightOf 78 = .ok (.iconst 0, 1) := by decide +kernel
theorem dX8_frightOf_79 : decode cX8_frightOf 79 = .ok (.istore 4, 2) := by decide +kernel
theorem dX8_frightOf_81 : decode cX8_frightOf 81 = .ok (.iinc 5 1, 3) := by decide +kernel
theorem dX8_frightOf_84 : decode cX8_frightOf 84 = .ok (.goto (-61), 3) := by decide +kernel
theorem dX8_frightOf_87 : decode cX8_frightOf 87 = .ok (.iload_n 2, 1) := by decide +kernel
theorem dX8_frightOf_88 : decode cX8_frightOf 88 = .ok (.iload 4, 2) := by decide +kernel
theorem dX8_frightOf_90 : decode cX8_frightOf 90 = .ok (.ifCond .eq 9, 3) := by decide +kernel
theorem dX8_frightOf_93 : decode cX8_frightOf 93 = .ok (.iconst 1, 1) := by decide +kernel
theorem dX8_frightOf_94 : decode cX8_frightOf 94 = .ok (.iload_n 3, 1) := by decide +kernel
theorem dX8_frightOf_95 : decode cX8_frightOf 95 = .ok (.ishl, 1) := by decide +kernel
theorem dX8_frightOf_96 : decode cX8_frightOf 96 = .ok (.goto 4, 3) := by decide +kernel
theorem dX8_frightOf_99 : decode cX8_frightOf 99 = .ok (.iconst 0, 1) := by decide +kernel
theorem dX8_frightOf_100 : decode cX8_frightOf 100 = .ok (.ior, 1) := by decide +kernel
theorem dX8_frightOf_101 : decode cX8_frightOf 101 = .ok (.istore_n 2, 1) := by decide +kernel
theorem dX8_frightOf_102 : decode cX8_frightOf 102 = .ok (.iinc 3 1, 3) := by decide +kernel
theorem dX8_frightOf_105 : decode cX8_frightOf 105 = .ok (.goto (-101), 3) := by decide +kernel
theorem dX8_frightOf_108 : decode cX8_frightOf 108 = .ok (.iload_n 2, 1) := by decide +kernel
theorem dX8_frightOf_109 : decode cX8_frightOf 109 = .ok (.ireturn, 1) := by decide +kernel
set_option maxRecDepth 20000 in
theorem ggX8_fright_X8_isGeneral : GoodIn wsX8_fright wsX8_isGeneral := goodIn_r _ [4, 5, 6, 3, 7] (by decide +kernel) (by decide +kernel)
set_option maxRecDepth 20000 in
theorem gX8_fright_X8_isGeneral : GoodIn wsX8_fright (va_wsS RX8 75 yX8_isGeneral wsX8_isGeneral) := goodIn_app (goodIn_of _ (by decide +kernel)) ggX8_fright_X8_isGeneral
set_option maxRecDepth 20000 in
theorem ggX8_fright_X8_frightOf : GoodIn wsX8_fright wsX8_frightOf := goodIn_r _ [11, 12, 13, 14, 15, 16, 17, 18, 19, 3, 20, 21, 22, 23, 24, 25, 26, 27, 28, 29, 30, 31, 32, 33, 34, 35, 36, 5, 6, 7, 37, 38, 39, 40, 41, 42, 43, 44, 45, 46, 47, 48, 49, 50, 51, 52, 53, 54, 55, 56, 57, 58, 59, 60, 61, 62, 63, 64, 65, 66, 67, 68, 69] (by decide +kernel) (by decide +kernel)
set_option maxRecDepth 20000 in
theorem gX8_fright_X8_frightOf : GoodIn wsX8_fright (wsV RX8 192 RX8 yX8_frightOf wsX8_frightOf) := goodIn_app (goodIn_of _ (by decide +kernel)) ggX8_fright_X8_frightOf
theorem dX8_fright_0 : decode cX8_fright 0 = .ok (.iload_n 1, 1) := by decide +kernel
theorem dX8_fright_1 : decode cX8_fright 1 = .ok (.invokestatic 75, 3) := by decide +kernel
theorem dX8_fright_4 : decode cX8_fright 4 = .ok (.ifCond .eq 11, 3) := by decide +kernel
theorem dX8_fright_7 : decode cX8_fright 7 = .ok (.aload_n 0, 1) := by decide +kernel
theorem dX8_fright_8 : decode cX8_fright 8 = .ok (.iload_n 1, 1) := by decide +kernel
theorem dX8_fright_9 : decode cX8_fright 9 = .ok (.invokevirtual 192, 3) := by decide +kernel
theorem dX8_fright_12 : decode cX8_fright 12 = .ok (.goto 5, 3) := by decide +kernel
theorem dX8_fright_15 : decode cX8_fright 15 = .ok (.bipush (-2), 2) := by decide +kernel
theorem dX8_fright_17 : decode cX8_fright 17 = .ok (.ireturn, 1) := by decide +kernel
set_option maxRecDepth 20000 in
theorem ggX8_unlikeNow_X8_laysAll : GoodIn wsX8_unlikeNow wsX8_laysAll := goodIn_r _ [10, 11, 12, 13, 9, 14, 15, 2, 16, 17, 18, 19, 20, 21, 22, 23, 24, 25, 26, 27, 28, 29, 30, 31, 32, 33, 34, 35, 36, 37, 38, 39, 40, 41, 42, 43, 44, 45, 46, 47, 48, 49, 50, 51, 52, 53, 54, 55, 56, 57, 58, 59, 60, 61, 62, 63, 64, 65, 66] (by decide +kernel) (by decide +kernel)
set_option maxRecDepth 20000 in
theorem gX8_unlikeNow_X8_laysAll : GoodIn wsX8_unlikeNow (wsV RX8 119 RX8 yX8_laysAll wsX8_laysAll) := goodIn_app (goodIn_of _ (by decide +kernel)) ggX8_unlikeNow_X8_laysAll
theorem dX8_unlikeNow_0 : decode cX8_unlikeNow 0 = .ok (.aload_n 0, 1) := by decide +kernel
theorem dX8_unlikeNow_1 : decode cX8_unlikeNow 1 = .ok (.invokevirtual 119, 3) := by decide +kernel
theorem dX8_unlikeNow_4 : decode cX8_unlikeNow 4 = .ok (.iconst 0, 1) := by decide +kernel
theorem dX8_unlikeNow_5 : decode cX8_unlikeNow 5 = .ok (.istore_n 1, 1) := by decide +kernel
theorem dX8_unlikeNow_6 : decode cX8_unlikeNow 6 = .ok (.iconst 0, 1) := by decide +kernel
theorem dX8_unlikeNow_7 : decode cX8_unlikeNow 7 = .ok (.istore_n 2, 1) := by decide +kernel
theorem dX8_unlikeNow_8 : decode cX8_unlikeNow 8 = .ok (.iload_n 2, 1) := by decide +kernel
theorem dX8_unlikeNow_9 : decode cX8_unlikeNow 9 = .ok (.aload_n 0, 1) := by decide +kernel
theorem dX8_unlikeNow_10 : decode cX8_unlikeNow 10 = .ok (.getfield 189, 3) := by decide +kernel
theorem dX8_unlikeNow_13 : decode cX8_unlikeNow 13 = .ok (.if_icmp .ge 46, 3) := by decide +kernel
theorem dX8_unlikeNow_16 : decode cX8_unlikeNow 16 = .ok (.iload_n 1, 1) := by decide +kernel
theorem dX8_unlikeNow_17 : decode cX8_unlikeNow 17 = .ok (.aload_n 0, 1) := by decide +kernel
theorem dX8_unlikeNow_18 : decode cX8_unlikeNow 18 = .ok (.getfield 31, 3) := by decide +kernel
theorem dX8_unlikeNow_21 : decode cX8_unlikeNow 21 = .ok (.aload_n 0, 1) := by decide +kernel
theorem dX8_unlikeNow_22 : decode cX8_unlikeNow 22 = .ok (.getfield 41, 3) := by decide +kernel
theorem dX8_unlikeNow_25 : decode cX8_unlikeNow 25 = .ok (.iload_n 2, 1) := by decide +kernel
theorem dX8_unlikeNow_26 : decode cX8_unlikeNow 26 = .ok (.iaload, 1) := by decide +kernel
theorem dX8_unlikeNow_27 : decode cX8_unlikeNow 27 = .ok (.iaload, 1) := by decide +kernel
theorem dX8_unlikeNow_28 : decode cX8_unlikeNow 28 = .ok (.aload_n 0, 1) := by decide +kernel
theorem dX8_unlikeNow_29 : decode cX8_unlikeNow 29 = .ok (.getfield 44, 3) := by decide +kernel
theorem dX8_unlikeNow_32 : decode cX8_unlikeNow 32 = .ok (.iload_n 2, 1) := by decide +kernel
theorem dX8_unlikeNow_33 : decode cX8_unlikeNow 33 = .ok (.iaload, 1) := by decide +kernel
theorem dX8_unlikeNow_34 : decode cX8_unlikeNow 34 = .ok (.ishr, 1) := by decide +kernel
theorem dX8_unlikeNow_35 : decode cX8_unlikeNow 35 = .ok (.iconst 1, 1) := by decide +kernel
theorem dX8_unlikeNow_36 : decode cX8_unlikeNow 36 = .ok (.iand, 1) := by decide +kernel
theorem dX8_unlikeNow_37 : decode cX8_unlikeNow 37 = .ok (.aload_n 0, 1) := by decide +kernel
theorem dX8_unlikeNow_38 : decode cX8_unlikeNow 38 = .ok (.getfield 47, 3) := by decide +kernel
theorem dX8_unlikeNow_41 : decode cX8_unlikeNow 41 = .ok (.iload_n 2, 1) := by decide +kernel
theorem dX8_unlikeNow_42 : decode cX8_unlikeNow 42 = .ok (.iaload, 1) := by decide +kernel
theorem dX8_unlikeNow_43 : decode cX8_unlikeNow 43 = .ok (.if_icmp .eq 7, 3) := by decide +kernel
theorem dX8_unlikeNow_46 : decode cX8_unlikeNow 46 = .ok (.iconst 1, 1) := by decide +kernel
theorem dX8_unlikeNow_47 : decode cX8_unlikeNow 47 = .ok (.goto 4, 3) := by decide +kernel
theorem dX8_unlikeNow_50 : decode cX8_unlikeNow 50 = .ok (.iconst 0, 1) := by decide +kernel
theorem dX8_unlikeNow_51 : decode cX8_unlikeNow 51 = .ok (.iadd, 1) := by decide +kernel
theorem dX8_unlikeNow_52 : decode cX8_unlikeNow 52 = .ok (.istore_n 1, 1) := by decide +kernel
theorem dX8_unlikeNow_53 : decode cX8_unlikeNow 53 = .ok (.iinc 2 1, 3) := by decide +kernel
theorem dX8_unlikeNow_56 : decode cX8_unlikeNow 56 = .ok (.goto (-48), 3) := by decide +kernel
theorem dX8_unlikeNow_59 : decode cX8_unlikeNow 59 = .ok (.iload_n 1, 1) := by decide +kernel
theorem dX8_unlikeNow_60 : decode cX8_unlikeNow 60 = .ok (.ireturn, 1) := by decide +kernel
set_option maxRecDepth 20000 in
theorem ggX8_unlike_X8_unlikeNow : GoodIn wsX8_unlike wsX8_unlikeNow := goodIn_r _ [5, 6, 7, 8, 9, 10, 11, 12, 13, 4, 14, 15, 16, 17, 18, 19, 20, 21, 22, 23, 24, 25, 26, 27, 28, 29, 30, 31, 32, 33, 34, 35, 36, 37, 38, 39, 40, 41, 42, 43, 44, 45, 46, 47, 48, 49, 50, 51, 52, 53, 54, 55, 56, 57, 58, 59, 60, 61, 62, 63, 64, 65, 66, 67, 68, 69, 70] (by decide +kernel) (by decide +kernel)
set_option maxRecDepth 20000 in
theorem gX8_unlike_X8_unlikeNow : GoodIn wsX8_unlike (wsV RX8 195 RX8 yX8_unlikeNow wsX8_unlikeNow) := goodIn_app (goodIn_of _ (by decide +kernel)) ggX8_unlike_X8_unlikeNow
theorem dX8_unlike_0 : decode cX8_unlike 0 = .ok (.aload_n 0, 1) := by decide +kernel
theorem dX8_unlike_1 : decode cX8_unlike 1 = .ok (.invokevirtual 195, 3) := by decide +kernel
theorem dX8_unlike_4 : decode cX8_unlike 4 = .ok (.ireturn, 1) := by decide +kernel
set_option maxRecDepth 20000 in
theorem ggX8_parrotOf_X8_laysAll : GoodIn wsX8_parrotOf wsX8_laysAll := goodIn_r _ [7, 8, 9, 10, 6, 11, 12, 1, 13, 14, 15, 16, 17, 18, 19, 20, 21, 22, 23, 24, 25, 26, 27, 28, 29, 30, 31, 32, 33, 34, 35, 36, 37, 38, 39, 40, 41, 42, 43, 44, 45, 46, 47, 48, 49, 50, 51, 52, 53, 54, 55, 56, 57, 58, 59, 60, 61, 62, 63] (by decide +kernel) (by decide +kernel)
set_option maxRecDepth 20000 in
theorem gX8_parrotOf_X8_laysAll : GoodIn wsX8_parrotOf (wsV RX8 119 RX8 yX8_laysAll wsX8_laysAll) := goodIn_app (goodIn_of _ (by decide +kernel)) ggX8_parrotOf_X8_laysAll
theorem dX8_parrotOf_0 : decode cX8_parrotOf 0 = .ok (.aload_n 0, 1) := by decide +kernel
theorem dX8_parrotOf_1 : decode cX8_parrotOf 1 = .ok (.invokevirtual 119, 3) := by decide +kernel
theorem dX8_parrotOf_4 : decode cX8_parrotOf 4 = .ok (.aload_n 0, 1) := by decide +kernel
theorem dX8_parrotOf_5 : decode cX8_parrotOf 5 = .ok (.getfield 31, 3) := by decide +kernel
theorem dX8_parrotOf_8 : decode cX8_parrotOf 8 = .ok (.iload_n 1, 1) := by decide +kernel
theorem dX8_parrotOf_9 : decode cX8_parrotOf 9 = .ok (.iaload, 1) := by decide +kernel
theorem dX8_parrotOf_10 : decode cX8_parrotOf 10 = .ok (.iconst 1, 1) := by decide +kernel
theorem dX8_parrotOf_11 : decode cX8_parrotOf 11 = .ok (.ishl, 1) := by decide +kernel
theorem dX8_parrotOf_12 : decode cX8_parrotOf 12 = .ok (.aload_n 0, 1) := by decide +kernel
theorem dX8_parrotOf_13 : decode cX8_parrotOf 13 = .ok (.getfield 31, 3) := by decide +kernel
theorem dX8_parrotOf_16 : decode cX8_parrotOf 16 = .ok (.iconst 1, 1) := by decide +kernel
theorem dX8_parrotOf_17 : decode cX8_parrotOf 17 = .ok (.iload_n 1, 1) := by decide +kernel
theorem dX8_parrotOf_18 : decode cX8_parrotOf 18 = .ok (.isub, 1) := by decide +kernel
theorem dX8_parrotOf_19 : decode cX8_parrotOf 19 = .ok (.iaload, 1) := by decide +kernel
theorem dX8_parrotOf_20 : decode cX8_parrotOf 20 = .ok (.iand, 1) := by decide +kernel
theorem dX8_parrotOf_21 : decode cX8_parrotOf 21 = .ok (.aload_n 0, 1) := by decide +kernel
theorem dX8_parrotOf_22 : decode cX8_parrotOf 22 = .ok (.getfield 31, 3) := by decide +kernel
theorem dX8_parrotOf_25 : decode cX8_parrotOf 25 = .ok (.iload_n 1, 1) := by decide +kernel
theorem dX8_parrotOf_26 : decode cX8_parrotOf 26 = .ok (.iaload, 1) := by decide +kernel
theorem dX8_parrotOf_27 : decode cX8_parrotOf 27 = .ok (.iconst (-1), 1) := by decide +kernel
theorem dX8_parrotOf_28 : decode cX8_parrotOf 28 = .ok (.ixor, 1) := by decide +kernel
theorem dX8_parrotOf_29 : decode cX8_parrotOf 29 = .ok (.iand, 1) := by decide +kernel
theorem dX8_parrotOf_30 : decode cX8_parrotOf 30 = .ok (.ldc 134, 2) := by decide +kernel
theorem dX8_parrotOf_32 : decode cX8_parrotOf 32 = .ok (.iand, 1) := by decide +kernel
theorem dX8_parrotOf_33 : decode cX8_parrotOf 33 = .ok (.ireturn, 1) := by decide +kernel
set_option maxRecDepth 20000 in
theorem ggX8_parrot_X8_in : GoodIn wsX8_parrot wsX8_in := goodIn_r _ [4] (by decide +kernel) (by decide +kernel)
set_option maxRecDepth 20000 in
theorem gX8_parrot_X8_in : GoodIn wsX8_parrot (va_wsS RX8 71 yX8_in wsX8_in) := goodIn_app (goodIn_of _ (by decide +kernel)) ggX8_parrot_X8_in
set_option maxRecDepth 20000 in
theorem ggX8_parrot_X8_parrotOf : GoodIn wsX8_parrot wsX8_parrotOf := goodIn_r _ [8, 9, 10, 11, 12, 13, 3, 14, 15, 16, 17, 18, 19, 20, 21, 22, 23, 24, 25, 26, 27, 28, 29, 30, 31, 32, 33, 34, 1, 2, 4, 35, 36, 37, 38, 39, 40, 41, 42, 43, 44, 45, 46, 47, 48, 49, 50, 51, 52, 53, 54, 55, 56, 57, 58, 59, 60, 61, 62, 63, 64, 65, 66, 67] (by decide +kernel) (by decide +kernel)
set_option maxRecDepth 20000 in
theorem gX8_parrot_X8_parrotOf : GoodIn wsX8_parrot (wsV RX8 198 RX8 yX8_parrotOf wsX8_parrotOf) := goodIn_app (goodIn_of _ (by decide +kernel)) ggX8_parrot_X8_parrotOf
theorem dX8_parrot_0 : decode cX8_parrot 0 = .ok (.iload_n 1, 1) := by decide +kernel
theorem dX8_parrot_1 : decode cX8_parrot 1 = .ok (.iconst 0, 1) := by decide +kernel
theorem dX8_parrot_2 : decode cX8_parrot 2 = .ok (.iconst 1, 1) := by decide +kernel
theorem dX8_parrot_3 : decode cX8_parrot 3 = .ok (.invokestatic 71, 3) := by decide +kernel
theorem dX8_parrot_6 : decode cX8_parrot 6 = .ok (.ifCond .eq 11, 3) := by decide +kernel
theorem dX8_parrot_9 : decode cX8_parrot 9 = .ok (.aload_n 0, 1) := by decide +kernel
theorem dX8_parrot_10 : decode cX8_parrot 10 = .ok (.iload_n 1, 1) := by decide +kernel
theorem dX8_parrot_11 : decode cX8_parrot 11 = .ok (.invokevirtual 198, 3) := by decide +kernel
theorem dX8_parrot_14 : decode cX8_parrot 14 = .ok (.goto 5, 3) := by decide +kernel
theorem dX8_parrot_17 : decode cX8_parrot 17 = .ok (.bipush (-2), 2) := by decide +kernel
theorem dX8_parrot_19 : decode cX8_parrot 19 = .ok (.ireturn, 1) := by decide +kernel
set_option maxRecDepth 20000 in
theorem ggX8_trainedOf_X8_laysAll : GoodIn wsX8_trainedOf wsX8_laysAll := goodIn_r _ [6, 7, 8, 9, 5, 10, 11, 1, 12, 13, 14, 15, 16, 17, 18, 19, 20, 21, 22, 23, 24, 25, 26, 27, 28, 29, 30, 31, 32, 33, 34, 35, 36, 37, 38, 39, 43, 44, 45, 46, 47, 48, 49, 50, 51, 52, 53, 54, 55, 56, 57, 58, 59, 60, 61, 62, 63, 64, 65] (by decide +kernel) (by decide +kernel)
set_option maxRecDepth 20000 in
theorem gX8_trainedOf_X8_laysAll : GoodIn wsX8_trainedOf (wsV RX8 119 RX8 yX8_laysAll wsX8_laysAll) := goodIn_app (goodIn_of _ (by decide +kernel)) ggX8_trainedOf_X8_laysAll
set_option maxRecDepth 20000 in
theorem ggX8_trainedOf_X8_lays : GoodIn wsX8_trainedOf wsX8_lays := goodIn_r _ [10, 11, 1, 12, 13, 14, 15, 16, 17, 5, 18, 19, 20, 21, 22, 23, 24, 25, 26, 27, 28, 29, 30, 31, 32, 33, 34, 35, 36, 37, 38, 39, 43, 44, 45, 46, 47, 48, 49, 50, 51, 52, 53, 54, 55, 56, 57, 58, 59, 60, 61, 62, 63, 64, 65] (by decide +kernel) (by decide +kernel)
set_option maxRecDepth 20000 in
theorem gX8_trainedOf_X8_lays : GoodIn wsX8_trainedOf (wsV RX8 115 RX8 yX8_lays wsX8_lays) := goodIn_app (goodIn_of _ (by decide +kernel)) ggX8_trainedOf_X8_lays
set_option maxRecDepth 20000 in
theorem ggX8_trainedOf_X8_ones : GoodIn wsX8_trainedOf wsX8_ones := goodIn_r _ [42] (by decide +kernel) (by decide +kernel)
set_option maxRecDepth 20000 in
theorem gX8_trainedOf_X8_ones : GoodIn wsX8_trainedOf (va_wsS RX8 201 yX8_ones wsX8_ones) := goodIn_app (goodIn_of _ (by decide +kernel)) ggX8_trainedOf_X8_ones
theorem dX8_trainedOf_0 : decode cX8_trainedOf 0 = .ok (.iconst (-1), 1) := by decide +kernel
theorem dX8_trainedOf_1 : decode cX8_trainedOf 1 = .ok (.istore_n 3, 1) := by decide +kernel
theorem dX8_trainedOf_2 : decode cX8_trainedOf 2 = .ok (.iconst (-1), 1) := by decide +kernel
theorem dX8_trainedOf_3 : decode cX8_trainedOf 3 = .ok (.istore 4, 2) := by decide +kernel
theorem dX8_trainedOf_5 : decode cX8_trainedOf 5 = .ok (.iconst 0, 1) := by decide +kernel
theorem dX8_trainedOf_6 : decode cX8_trainedOf 6 = .ok (.istore 5, 2) := by decide +kernel
theorem dX8_trainedOf_8 : decode cX8_trainedOf 8 = .ok (.iconst 0, 1) := by decide +kernel
theorem dX8_trainedOf_9 : decode cX8_trainedOf 9 = .ok (.istore 6, 2) := by decide +kernel
theorem dX8_trainedOf_11 : decode cX8_trainedOf 11 = .ok (.iload 6, 2) := by decide +kernel
theorem dX8_trainedOf_13 : decode cX8_trainedOf 13 = .ok (.bipush 24, 2) := by decide +kernel
theorem dX8_trainedOf_15 : decode cX8_trainedOf 15 = .ok (.if_icmp .ge 86, 3) := by decide +kernel
theorem dX8_trainedOf_18 : decode cX8_trainedOf 18 = .ok (.aload_n 0, 1) := by decide +kernel
theorem dX8_trainedOf_19 : decode cX8_trainedOf 19 = .ok (.invokevirtual 119, 3) := by decide +kernel
theorem dX8_trainedOf_22 : decode cX8_trainedOf 22 = .ok (.aload_n 0, 1) := by decide +kernel
theorem dX8_trainedOf_23 : decode cX8_trainedOf 23 = .ok (.iconst 2, 1) := by decide +kernel
theorem dX8_trainedOf_24 : decode cX8_trainedOf 24 = .ok (.iload 6, 2) := by decide +kernel
theorem dX8_trainedOf_26 : decode cX8_trainedOf 26 = .ok (.iconst (-1), 1) := by decide +kernel
theorem dX8_trainedOf_27 : decode cX8_trainedOf 27 = .ok (.invokevirtual 115, 3) := by decide +kernel
theorem dX8_trainedOf_30 : decode cX8_trainedOf 30 = .ok (.bipush 24, 2) := by decide +kernel
theorem dX8_trainedOf_32 : decode cX8_trainedOf 32 = .ok (.aload_n 0, 1) := by decide +kernel
theorem dX8_trainedOf_33 : decode cX8_trainedOf 33 = .ok (.getfield 31, 3) := by decide +kernel
theorem dX8_trainedOf_36 : decode cX8_trainedOf 36 = .ok (.iload_n 1, 1) := by decide +kernel
theorem dX8_trainedOf_37 : decode cX8_trainedOf 37 = .ok (.iaload, 1) := by decide +kernel
theorem dX8_trainedOf_38 : decode cX8_trainedOf 38 = .ok (.aload_n 0, 1) := by decide +kernel
theorem dX8_trainedOf_39 : decode cX8_trainedOf 39 = .ok (.getfield 31, 3) := by decide +kernel
theorem dX8_trainedOf_42 : decode cX8_trainedOf 42 = .ok (.iconst 2, 1) := by decide +kernel
theorem dX8_trainedOf_43 : decode cX8_trainedOf 43 = .ok (.iaload, 1) := by decide +kernel
theorem dX8_trainedOf_44 : decode cX8_trainedOf 44 = .ok (.ixor, 1) := by decide +kernel
theorem dX8_trainedOf_45 : decode cX8_trainedOf 45 = .ok (.invokestatic 201, 3) := by decide +kernel
theorem dX8_trainedOf_48 : decode cX8_trainedOf 48 = .ok (.isub, 1) := by decide +kernel
theorem dX8_trainedOf_49 : decode cX8_trainedOf 49 = .ok (.istore 7, 2) := by decide +kernel
theorem dX8_trainedOf_51 : decode cX8_trainedOf 51 = .ok (.iload 6, 2) := by decide +kernel
theorem dX8_trainedOf_53 : decode cX8_trainedOf 53 = .ok (.ifCond .ne 8, 3) := by decide +kernel
theorem dX8_trainedOf_56 : decode cX8_trainedOf 56 = .ok (.iload 7, 2) := by decide +kernel
theorem dX8_trainedOf_58 : decode cX8_trainedOf 58 = .ok (.goto 5, 3) := by decide +kernel
theorem dX8_trainedOf_61 : decode cX8_trainedOf 61 = .ok (.iload 5, 2) := by decide +kernel
theorem dX8_trainedOf_63 : decode cX8_trainedOf 63 = .ok (.istore 5, 2) := by decide +kernel
theorem dX8_trainedOf_65 : decode cX8_trainedOf 65 = .ok (.iload 7, 2) := by decide +kernel
theorem dX8_trainedOf_67 : decode cX8_trainedOf 67 = .ok (.iload 4, 2) := by decide +kernel
theorem dX8_trainedOf_69 : decode cX8_trainedOf 69 = .ok (.if_icmp .le 8, 3) := by decide +kernel
theorem dX8_trainedOf_72 : decode cX8_trainedOf 72 = .ok (.iload 6, 2) := by decide +kernel
theorem dX8_trainedOf_74 : decode cX8_trainedOf 74 = .ok (.goto 4, 3) := by decide +kernel
theorem dX8_trainedOf_77 : decode cX8_trainedOf 77 = .ok (.iload_n 3, 1) := by decide +kernel
theorem dX8_trainedOf_78 : decode cX8_trainedOf 78 = .ok (.istore_n 3, 1) := by decide +kernel
theorem dX8_trainedOf_79 : decode cX8_trainedOf 79 = .ok (.iload 7, 2) := by decide +kernel
theorem dX8_trainedOf_81 : decode cX8_trainedOf 81 = .ok (.iload 4, 2) := by decide +kernel
theorem dX8_trainedOf_83 : decode cX8_trainedOf 83 = .ok (.if_icmp .le 8, 3) := by decide +kernel
theorem dX8_trainedOf_86 : decode cX8_trainedOf 86 = .ok (.iload 7, 2) := by decide +kernel
theorem dX8_trainedOf_88 : decode cX8_trainedOf 88 = .ok (.goto 5, 3) := by decide +kernel
theorem dX8_trainedOf_91 : decode cX8_trainedOf 91 = .ok (.iload 4, 2) := by decide +kernel
theorem dX8_trainedOf_93 : decode cX8_trainedOf 93 = .ok (.istore 4, 2) := by decide +kernel
theorem dX8_trainedOf_95 : decode cX8_trainedOf 95 = .ok (.iinc 6 1, 3) := by decide +kernel
theorem dX8_trainedOf_98 : decode cX8_trainedOf 98 = .ok (.goto (-87), 3) := by decide +kernel
theorem dX8_trainedOf_101 : decode cX8_trainedOf 101 = .ok (.iload_n 2, 1) := by decide +kernel
theorem dX8_trainedOf_102 : decode cX8_trainedOf 102 = .ok (.ifCond .ne 8, 3) := by decide +kernel
theorem dX8_trainedOf_105 : decode cX8_trainedOf 105 = .ok (.iload 5, 2) := by decide +kernel
theorem dX8_trainedOf_107 : decode cX8_trainedOf 107 = .ok (.goto 14, 3) := by decide +kernel
theorem dX8_trainedOf_110 : decode cX8_trainedOf 110 = .ok (.iload_n 2, 1) := by decide +kernel
theorem dX8_trainedOf_111 : decode cX8_trainedOf 111 = .ok (.iconst 1, 1) := by decide +kernel
theorem dX8_trainedOf_112 : decode cX8_trainedOf 112 = .ok (.if_icmp .ne 8, 3) := by decide +kernel
theorem dX8_trainedOf_115 : decode cX8_trainedOf 115 = .ok (.iload 4, 2) := by decide +kernel
theorem dX8_trainedOf_117 : decode cX8_trainedOf 117 = .ok (.goto 4, 3) := by decide +kernel
theorem dX8_trainedOf_120 : decode cX8_trainedOf 120 = .ok (.iload_n 3, 1) := by decide +kernel
theorem dX8_trainedOf_121 : decode cX8_trainedOf 121 = .ok (.ireturn, 1) := by decide +kernel
set_option maxRecDepth 20000 in
theorem ggX8_trained_X8_in : GoodIn wsX8_trained wsX8_in := goodIn_r _ [4] (by decide +kernel) (by decide +kernel)
set_option maxRecDepth 20000 in
theorem gX8_trained_X8_in : GoodIn wsX8_trained (va_wsS RX8 71 yX8_in wsX8_in) := goodIn_app (goodIn_of _ (by decide +kernel)) ggX8_trained_X8_in
set_option maxRecDepth 20000 in
theorem ggX8_trained_X8_trainedOf : GoodIn wsX8_trained wsX8_trainedOf := goodIn_r _ [8, 9, 10, 11, 12, 3, 13, 14, 15, 16, 17, 18, 19, 20, 21, 22, 23, 24, 25, 26, 27, 28, 29, 30, 31, 32, 33, 1, 2, 4, 34, 35, 36, 37, 38, 39, 40, 41, 42, 43, 44, 45, 46, 47, 48, 49, 50, 51, 52, 53, 54, 55, 56, 57, 58, 59, 60, 61, 62, 63, 64, 65, 66, 67, 68, 69] (by decide +kernel) (by decide +kernel)
set_option maxRecDepth 20000 in
theorem gX8_trained_X8_trainedOf : GoodIn wsX8_trained (wsV RX8 204 RX8 yX8_trainedOf wsX8_trainedOf) := goodIn_app (goodIn_of _ (by decide +kernel)) ggX8_trained_X8_trainedOf
theorem dX8_trained_0 : decode cX8_trained 0 = .ok (.iload_n 1, 1) := by decide +kernel
theorem dX8_trained_1 : decode cX8_trained 1 = .ok (.iconst 0, 1) := by decide +kernel
theorem dX8_trained_2 : decode cX8_trained 2 = .ok (.iconst 1, 1) := by decide +kernel
theorem dX8_trained_3 : decode cX8_trained 3 = .ok (.invokestatic 71, 3) := by decide +kernel
theorem dX8_trained_6 : decode cX8_trained 6 = .ok (.ifCond .eq 21, 3) := by decide +kernel
theorem dX8_trained_9 : decode cX8_trained 9 = .ok (.iload_n 2, 1) := by decide +kernel
theorem dX8_trained_10 : decode cX8_trained 10 = .ok (.iconst 0, 1) := by decide +kernel
theorem dX8_trained_11 : decode cX8_trained 11 = .ok (.iconst 2, 1) := by decide +kernel
theorem dX8_trained_12 : decode cX8_trained 12 = .ok (.invokestatic 71, 3) := by decide +kernel
theorem dX8_trained_15 : decode cX8_trained 15 = .ok (.ifCond .eq 12, 3) := by decide +kernel
theorem dX8_trained_18 : decode cX8_trained 18 = .ok (.aload_n 0, 1) := by decide +kernel
theorem dX8_trained_19 : decode cX8_trained 19 = .ok (.iload_n 1, 1) := by decide +kernel
theorem dX8_trained_20 : decode cX8_trained 20 = .ok (.iload_n 2, 1) := by decide +kernel
theorem dX8_trained_21 : decode cX8_trained 21 = .ok (.invokevirtual 204, 3) := by decide +kernel
theorem dX8_trained_24 : decode cX8_trained 24 = .ok (.goto 5, 3) := by decide +kernel
theorem dX8_trained_27 : decode cX8_trained 27 = .ok (.bipush (-2), 2) := by decide +kernel
theorem dX8_trained_29 : decode cX8_trained 29 = .ok (.ireturn, 1) := by decide +kernel
theorem dX8_meets_0 : decode cX8_meets 0 = .ok (.aload_n 0, 1) := by decide +kernel
theorem dX8_meets_1 : decode cX8_meets 1 = .ok (.iload_n 1, 1) := by decide +kernel
theorem dX8_meets_2 : decode cX8_meets 2 = .ok (.putfield 207, 3) := by decide +kernel
theorem dX8_meets_5 : decode cX8_meets 5 = .ok (.bipush (-10), 2) := by decide +kernel
theorem dX8_meets_7 : decode cX8_meets 7 = .ok (.iload_n 1, 1) := by decide +kernel
theorem dX8_meets_8 : decode cX8_meets 8 = .ok (.isub, 1) := by decide +kernel
theorem dX8_meets_9 : decode cX8_meets 9 = .ok (.ireturn, 1) := by decide +kernel
set_option maxRecDepth 20000 in
theorem ggX8_isSheet_X8_in : GoodIn wsX8_isSheet wsX8_in := goodIn_r _ [4] (by decide +kernel) (by decide +kernel)
set_option maxRecDepth 20000 in
theorem gX8_isSheet_X8_in : GoodIn wsX8_isSheet (va_wsS RX8 71 yX8_in wsX8_in) := goodIn_app (goodIn_of _ (by decide +kernel)) ggX8_isSheet_X8_in
theorem dX8_isSheet_0 : decode cX8_isSheet 0 = .ok (.iload_n 0, 1) := by decide +kernel
theorem dX8_isSheet_1 : decode cX8_isSheet 1 = .ok (.iconst 0, 1) := by decide +kernel
theorem dX8_isSheet_2 : decode cX8_isSheet 2 = .ok (.iconst 3, 1) := by decide +kernel
theorem dX8_isSheet_3 : decode cX8_isSheet 3 = .ok (.invokestatic 71, 3) := by decide +kernel
theorem dX8_isSheet_6 : decode cX8_isSheet 6 = .ok (.ireturn, 1) := by decide +kernel
set_option maxRecDepth 20000 in
theorem ggX8_sheet_X8_isSheet : GoodIn wsX8_sheet wsX8_isSheet := goodIn_r _ [8, 9, 10, 7, 11] (by decide +kernel) (by decide +kernel)
set_option maxRecDepth 20000 in
theorem gX8_sheet_X8_isSheet : GoodIn wsX8_sheet (va_wsS RX8 95 yX8_isSheet wsX8_isSheet) := goodIn_app (goodIn_of _ (by decide +kernel)) ggX8_sheet_X8_isSheet
set_option maxRecDepth 20000 in
theorem ggX8_sheet_X8_in : GoodIn wsX8_sheet wsX8_in := goodIn_r _ [11] (by decide +kernel) (by decide +kernel)
set_option maxRecDepth 20000 in
theorem gX8_sheet_X8_in : GoodIn wsX8_sheet (va_wsS RX8 71 yX8_in wsX8_in) := goodIn_app (goodIn_of _ (by decide +kernel)) ggX8_sheet_X8_in
set_option maxRecDepth 20000 in
theorem ggX8_sheet_X8_meets : GoodIn wsX8_sheet wsX8_meets := goodIn_r _ [15, 16, 17, 18, 19, 20, 21, 22, 23, 24, 25, 26, 27, 28, 29, 30, 31, 32, 33, 34, 35, 36, 37, 38, 39] (by decide +kernel) (by decide +kernel)
set_option maxRecDepth 20000 in
theorem gX8_sheet_X8_meets : GoodIn wsX8_sheet (wsV RX8 98 RX8 yX8_meets wsX8_meets) := goodIn_app (goodIn_of _ (by decide +kernel)) ggX8_sheet_X8_meets
theorem dX8_sheet_0 : decode cX8_sheet 0 = .ok (.iload_n 1, 1) := by decide +kernel
theorem dX8_sheet_1 : decode cX8_sheet 1 = .ok (.invokestatic 95, 3) := by decide +kernel
theorem dX8_sheet_4 : decode cX8_sheet 4 = .ok (.ifCond .eq 18, 3) := by decide +kernel
theorem dX8_sheet_7 : decode cX8_sheet 7 = .ok (.iload_n 2, 1) := by decide +kernel
theorem dX8_sheet_8 : decode cX8_sheet 8 = .ok (.iconst 0, 1) := by decide +kernel
theorem dX8_sheet_9 : decode cX8_sheet 9 = .ok (.iconst 2, 1) := by decide +kernel
theorem dX8_sheet_10 : decode cX8_sheet 10 = .ok (.invokestatic 71, 3) := by decide +kernel
theorem dX8_sheet_13 : decode cX8_sheet 13 = .ok (.ifCond .eq 9, 3) := by decide +kernel
theorem dX8_sheet_16 : decode cX8_sheet 16 = .ok (.iload_n 3, 1) := by decide +kernel
theorem dX8_sheet_17 : decode cX8_sheet 17 = .ok (.bipush 48, 2) := by decide +kernel
theorem dX8_sheet_19 : decode cX8_sheet 19 = .ok (.if_icmp .le 6, 3) := by decide +kernel
theorem dX8_sheet_22 : decode cX8_sheet 22 = .ok (.bipush (-2), 2) := by decide +kernel
theorem dX8_sheet_24 : decode cX8_sheet 24 = .ok (.ireturn, 1) := by decide +kernel
theorem dX8_sheet_25 : decode cX8_sheet 25 = .ok (.iload_n 3, 1) := by decide +kernel
theorem dX8_sheet_26 : decode cX8_sheet 26 = .ok (.ifCond .ge 9, 3) := by decide +kernel
theorem dX8_sheet_29 : decode cX8_sheet 29 = .ok (.aload_n 0, 1) := by decide +kernel
theorem dX8_sheet_30 : decode cX8_sheet 30 = .ok (.iconst 5, 1) := by decide +kernel
theorem dX8_sheet_31 : decode cX8_sheet 31 = .ok (.invokevirtual 98, 3) := by decide +kernel
theorem dX8_sheet_34 : decode cX8_sheet 34 = .ok (.ireturn, 1) := by decide +kernel
theorem dX8_sheet_35 : decode cX8_sheet 35 = .ok (.aload_n 0, 1) := by decide +kernel
theorem dX8_sheet_36 : decode cX8_sheet 36 = .ok (.getfield 50, 3) := by decide +kernel
theorem dX8_sheet_39 : decode cX8_sheet 39 = .ok (.iload_n 1, 1) := by decide +kernel
theorem dX8_sheet_40 : decode cX8_sheet 40 = .ok (.iconst 1, 1) := by decide +kernel
theorem dX8_sheet_41 : decode cX8_sheet 41 = .ok (.bastore, 1) := by decide +kernel
theorem dX8_sheet_42 : decode cX8_sheet 42 = .ok (.aload_n 0, 1) := by decide +kernel
theorem dX8_sheet_43 : decode cX8_sheet 43 = .ok (.getfield 53, 3) := by decide +kernel
theorem dX8_sheet_46 : decode cX8_sheet 46 = .ok (.iload_n 1, 1) := by decide +kernel
theorem dX8_sheet_47 : decode cX8_sheet 47 = .ok (.iload_n 2, 1) := by decide +kernel
theorem dX8_sheet_48 : decode cX8_sheet 48 = .ok (.iastore, 1) := by decide +kernel
theorem dX8_sheet_49 : decode cX8_sheet 49 = .ok (.aload_n 0, 1) := by decide +kernel
theorem dX8_sheet_50 : decode cX8_sheet 50 = .ok (.getfield 56, 3) := by decide +kernel
theorem dX8_sheet_53 : decode cX8_sheet 53 = .ok (.iload_n 1, 1) := by decide +kernel
theorem dX8_sheet_54 : decode cX8_sheet 54 = .ok (.iload_n 3, 1) := by decide +kernel
theorem dX8_sheet_55 : decode cX8_sheet 55 = .ok (.iastore, 1) := by decide +kernel
theorem dX8_sheet_56 : decode cX8_sheet 56 = .ok (.iconst 0, 1) := by decide +kernel
theorem dX8_sheet_57 : decode cX8_sheet 57 = .ok (.istore 4, 2) := by decide +kernel
theorem dX8_sheet_59 : decode cX8_sheet 59 = .ok (.iload 4, 2) := by decide +kernel
theorem dX8_sheet_61 : decode cX8_sheet 61 = .ok (.bipush 48, 2) := by decide +kernel
theorem dX8_sheet_63 : decode cX8_sheet 63 = .ok (.if_icmp .ge 22, 3) := by decide +kernel
theorem dX8_sheet_66 : decode cX8_sheet 66 = .ok (.aload_n 0, 1) := by decide +kernel
theorem dX8_sheet_67 : decode cX8_sheet 67 = .ok (.getfield 59, 3) := by decide +kernel
theorem dX8_sheet_70 : decode cX8_sheet 70 = .ok (.bipush 48, 2) := by decide +kernel
theorem dX8_sheet_72 : decode cX8_sheet 72 = .ok (.iload_n 1, 1) := by decide +kernel
theorem dX8_sheet_73 : decode cX8_sheet 73 = .ok (.imul, 1) := by decide +kernel
theorem dX8_sheet_74 : decode cX8_sheet 74 = .ok (.iload 4, 2) := by decide +kernel
theorem dX8_sheet_76 : decode cX8_sheet 76 = .ok (.iadd, 1) := by decide +kernel
theorem dX8_sheet_77 : decode cX8_sheet 77 = .ok (.iconst 0, 1) := by decide +kernel
theorem dX8_sheet_78 : decode cX8_sheet 78 = .ok (.iastore, 1) := by decide +kernel
theorem dX8_sheet_79 : decode cX8_sheet 79 = .ok (.iinc 4 1, 3) := by decide +kernel
theorem dX8_sheet_82 : decode cX8_sheet 82 = .ok (.goto (-23), 3) := by decide +kernel
theorem dX8_sheet_85 : decode cX8_sheet 85 = .ok (.iload_n 3, 1) := by decide +kernel
theorem dX8_sheet_86 : decode cX8_sheet 86 = .ok (.ireturn, 1) := by decide +kernel
set_option maxRecDepth 20000 in
theorem ggX8_lose_X8_isSheet : GoodIn wsX8_lose wsX8_isSheet := goodIn_r _ [6, 7, 8, 5, 9] (by decide +kernel) (by decide +kernel)
set_option maxRecDepth 20000 in
theorem gX8_lose_X8_isSheet : GoodIn wsX8_lose (va_wsS RX8 95 yX8_isSheet wsX8_isSheet) := goodIn_app (goodIn_of _ (by decide +kernel)) ggX8_lose_X8_isSheet
set_option maxRecDepth 20000 in
theorem ggX8_lose_X8_meets : GoodIn wsX8_lose wsX8_meets := goodIn_r _ [13, 14, 15, 16, 17, 18, 19, 20, 21, 22, 23, 24, 25, 26, 27, 28, 29, 30, 31, 32, 33, 34, 35, 36, 37] (by decide +kernel) (by decide +kernel)
set_option maxRecDepth 20000 in
theorem gX8_lose_X8_meets : GoodIn wsX8_lose (wsV RX8 98 RX8 yX8_meets wsX8_meets) := goodIn_app (goodIn_of _ (by decide +kernel)) ggX8_lose_X8_meets
theorem dX8_lose_0 : decode cX8_lose 0 = .ok (.iload_n 1, 1) := by decide +kernel
theorem dX8_lose_1 : decode cX8_lose 1 = .ok (.invokestatic 95, 3) := by decide +kernel
theorem dX8_lose_4 : decode cX8_lose 4 = .ok (.ifCond .ne 6, 3) := by decide +kernel
theorem dX8_lose_7 : decode cX8_lose 7 = .ok (.bipush (-2), 2) := by decide +kernel
theorem dX8_lose_9 : decode cX8_lose 9 = .ok (.ireturn, 1) := by decide +kernel
theorem dX8_lose_10 : decode cX8_lose 10 = .ok (.aload_n 0, 1) := by decide +kernel
theorem dX8_lose_11 : decode cX8_lose 11 = .ok (.getfield 50, 3) := by decide +kernel
theorem dX8_lose_14 : decode cX8_lose 14 = .ok (.iload_n 1, 1) := by decide +kernel
theorem dX8_lose_15 : decode cX8_lose 15 = .ok (.baload, 1) := by decide +kernel
theorem dX8_lose_16 : decode cX8_lose 16 = .ok (.ifCond .ne 9, 3) := by decide +kernel
theorem dX8_lose_19 : decode cX8_lose 19 = .ok (.aload_n 0, 1) := by decide +kernel
theorem dX8_lose_20 : decode cX8_lose 20 = .ok (.iconst 1, 1) := by decide +kernel
theorem dX8_lose_21 : decode cX8_lose 21 = .ok (.invokevirtual 98, 3) := by decide +kernel
theorem dX8_lose_24 : decode cX8_lose 24 = .ok (.ireturn, 1) := by decide +kernel
theorem dX8_lose_25 : decode cX8_lose 25 = .ok (.aload_n 0, 1) := by decide +kernel
theorem dX8_lose_26 : decode cX8_lose 26 = .ok (.getfield 50, 3) := by decide +kernel
theorem dX8_lose_29 : decode cX8_lose 29 = .ok (.iload_n 1, 1) := by decide +kernel
theorem dX8_lose_30 : decode cX8_lose 30 = .ok (.iconst 0, 1) := by decide +kernel
theorem dX8_lose_31 : decode cX8_lose 31 = .ok (.bastore, 1) := by decide +kernel
theorem dX8_lose_32 : decode cX8_lose 32 = .ok (.aload_n 0, 1) := by decide +kernel
theorem dX8_lose_33 : decode cX8_lose 33 = .ok (.getfield 56, 3) := by decide +kernel
theorem dX8_lose_36 : decode cX8_lose 36 = .ok (.iload_n 1, 1) := by decide +kernel
theorem dX8_lose_37 : decode cX8_lose 37 = .ok (.iaload, 1) := by decide +kernel
theorem dX8_lose_38 : decode cX8_lose 38 = .ok (.ireturn, 1) := by decide +kernel
set_option maxRecDepth 20000 in
theorem ggX8_lacks_X8_in : GoodIn wsX8_lacks wsX8_in := goodIn_r _ [7] (by decide +kernel) (by decide +kernel)
set_option maxRecDepth 20000 in
theorem gX8_lacks_X8_in : GoodIn wsX8_lacks (va_wsS RX8 71 yX8_in wsX8_in) := goodIn_app (goodIn_of _ (by decide +kernel)) ggX8_lacks_X8_in
theorem dX8_lacks_0 : decode cX8_lacks 0 = .ok (.aload_n 0, 1) := by decide +kernel
theorem dX8_lacks_1 : decode cX8_lacks 1 = .ok (.getfield 50, 3) := by decide +kernel
theorem dX8_lacks_4 : decode cX8_lacks 4 = .ok (.iload_n 1, 1) := by decide +kernel
theorem dX8_lacks_5 : decode cX8_lacks 5 = .ok (.baload, 1) := by decide +kernel
theorem dX8_lacks_6 : decode cX8_lacks 6 = .ok (.ifCond .ne 7, 3) := by decide +kernel
theorem dX8_lacks_9 : decode cX8_lacks 9 = .ok (.iconst 1, 1) := by decide +kernel
theorem dX8_lacks_10 : decode cX8_lacks 10 = .ok (.goto 38, 3) := by decide +kernel
theorem dX8_lacks_13 : decode cX8_lacks 13 = .ok (.aload_n 0, 1) := by decide +kernel
theorem dX8_lacks_14 : decode cX8_lacks 14 = .ok (.getfield 53, 3) := by decide +kernel
theorem dX8_lacks_17 : decode cX8_lacks 17 = .ok (.iload_n 1, 1) := by decide +kernel
theorem dX8_lacks_18 : decode cX8_lacks 18 = .ok (.iaload, 1) := by decide +kernel
theorem dX8_lacks_19 : decode cX8_lacks 19 = .ok (.iload_n 2, 1) := by decide +kernel
theorem dX8_lacks_20 : decode cX8_lacks 20 = .ok (.if_icmp .eq 7, 3) := by decide +kernel
theorem dX8_lacks_23 : decode cX8_lacks 23 = .ok (.iconst 3, 1) := by decide +kernel
theorem dX8_lacks_24 : decode cX8_lacks 24 = .ok (.goto 24, 3) := by decide +kernel
theorem dX8_lacks_27 : decode cX8_lacks 27 = .ok (.iload_n 3, 1) := by decide +kernel
theorem dX8_lacks_28 : decode cX8_lacks 28 = .ok (.iconst 0, 1) := by decide +kernel
theorem dX8_lacks_29 : decode cX8_lacks 29 = .ok (.aload_n 0, 1) := by decide +kernel
theorem dX8_lacks_30 : decode cX8_lacks 30 = .ok (.getfield 56, 3) := by decide +kernel
theorem dX8_lacks_33 : decode cX8_lacks 33 = .ok (.iload_n 1, 1) := by decide +kernel
theorem dX8_lacks_34 : decode cX8_lacks 34 = .ok (.iaload, 1) := by decide +kernel
theorem dX8_lacks_35 : decode cX8_lacks 35 = .ok (.iconst 1, 1) := by decide +kernel
theorem dX8_lacks_36 : decode cX8_lacks 36 = .ok (.isub, 1) := by decide +kernel
theorem dX8_lacks_37 : decode cX8_lacks 37 = .ok (.invokestatic 71, 3) := by decide +kernel
theorem dX8_lacks_40 : decode cX8_lacks 40 = .ok (.ifCond .eq 7, 3) := by decide +kernel
theorem dX8_lacks_43 : decode cX8_lacks 43 = .ok (.iconst 0, 1) := by decide +kernel
theorem dX8_lacks_44 : decode cX8_lacks 44 = .ok (.goto 4, 3) := by decide +kernel
theorem dX8_lacks_47 : decode cX8_lacks 47 = .ok (.iconst 2, 1) := by decide +kernel
theorem dX8_lacks_48 : decode cX8_lacks 48 = .ok (.ireturn, 1) := by decide +kernel
theorem dX8_keep_0 : decode cX8_keep 0 = .ok (.aload_n 0, 1) := by decide +kernel
theorem dX8_keep_1 : decode cX8_keep 1 = .ok (.getfield 59, 3) := by decide +kernel
theorem dX8_keep_4 : decode cX8_keep 4 = .ok (.bipush 48, 2) := by decide +kernel
theorem dX8_keep_6 : decode cX8_keep 6 = .ok (.iload_n 1, 1) := by decide +kernel
theorem dX8_keep_7 : decode cX8_keep 7 = .ok (.imul, 1) := by decide +kernel
theorem dX8_keep_8 : decode cX8_keep 8 = .ok (.iload_n 2, 1) := by decide +kernel
theorem dX8_keep_9 : decode cX8_keep 9 = .ok (.iadd, 1) := by decide +kernel
theorem dX8_keep_10 : decode cX8_keep 10 = .ok (.aload_n 0, 1) := by decide +kernel
theorem dX8_keep_11 : decode cX8_keep 11 = .ok (.getfield 53, 3) := by decide +kernel
theorem dX8_keep_14 : decode cX8_keep 14 = .ok (.iload_n 1, 1) := by decide +kernel
theorem dX8_keep_15 : decode cX8_keep 15 = .ok (.iaload, 1) := by decide +kernel
theorem dX8_keep_16 : decode cX8_keep 16 = .ok (.ifCond .ne 8, 3) := by decide +kernel
theorem dX8_keep_19 : decode cX8_keep 19 = .ok (.iload_n 3, 1) := by decide +kernel
theorem dX8_keep_20 : decode cX8_keep 20 = .ok (.i2b, 1) := by decide +kernel
theorem dX8_keep_21 : decode cX8_keep 21 = .ok (.goto 19, 3) := by decide +kernel
theorem dX8_keep_24 : decode cX8_keep 24 = .ok (.aload_n 0, 1) := by decide +kernel
theorem dX8_keep_25 : decode cX8_keep 25 = .ok (.getfield 53, 3) := by decide +kernel
theorem dX8_keep_28 : decode cX8_keep 28 = .ok (.iload_n 1, 1) := by decide +kernel
theorem dX8_keep_29 : decode cX8_keep 29 = .ok (.iaload, 1) := by decide +kernel
theorem dX8_keep_30 : decode cX8_keep 30 = .ok (.iconst 1, 1) := by decide +kernel
theorem dX8_keep_31 : decode cX8_keep 31 = .ok (.if_icmp .ne 8, 3) := by decide +kernel
theorem dX8_keep_34 : decode cX8_keep 34 = .ok (.iload_n 3, 1) := by decide +kernel
theorem dX8_keep_35 : decode cX8_keep 35 = .ok (.i2s, 1) := by decide +kernel
theorem dX8_keep_36 : decode cX8_keep 36 = .ok (.goto 4, 3) := by decide +kernel
theorem dX8_keep_39 : decode cX8_keep 39 = .ok (.iload_n 3, 1) := by decide +kernel
theorem dX8_keep_40 : decode cX8_keep 40 = .ok (.iastore, 1) := by decide +kernel
theorem dX8_keep_41 : decode cX8_keep 41 = .ok (.return_, 1) := by decide +kernel
set_option maxRecDepth 20000 in
theorem ggX8_put_X8_isSheet : GoodIn wsX8_put wsX8_isSheet := goodIn_r _ [4, 5, 6, 3, 7] (by decide +kernel) (by decide +kernel)
set_option maxRecDepth 20000 in
theorem gX8_put_X8_isSheet : GoodIn wsX8_put (va_wsS RX8 95 yX8_isSheet wsX8_isSheet) := goodIn_app (goodIn_of _ (by decide +kernel)) ggX8_put_X8_isSheet
set_option maxRecDepth 20000 in
theorem ggX8_put_X8_in : GoodIn wsX8_put wsX8_in := goodIn_r _ [7] (by decide +kernel) (by decide +kernel)
set_option maxRecDepth 20000 in
theorem gX8_put_X8_in : GoodIn wsX8_put (va_wsS RX8 71 yX8_in wsX8_in) := goodIn_app (goodIn_of _ (by decide +kernel)) ggX8_put_X8_in
set_option maxRecDepth 20000 in
theorem ggX8_put_X8_lacks : GoodIn wsX8_put wsX8_lacks := goodIn_r _ [11, 12, 13, 14, 5, 6, 3, 7, 25, 26, 27, 28, 29, 30, 31, 32, 33, 34, 35, 36, 37, 38, 39, 40, 41, 42, 43, 44, 45, 46, 47] (by decide +kernel) (by decide +kernel)
set_option maxRecDepth 20000 in
theorem gX8_put_X8_lacks : GoodIn wsX8_put (wsV RX8 210 RX8 yX8_lacks wsX8_lacks) := goodIn_app (goodIn_of _ (by decide +kernel)) ggX8_put_X8_lacks
set_option maxRecDepth 20000 in
theorem ggX8_put_X8_meets : GoodIn wsX8_put wsX8_meets := goodIn_r _ [18, 19, 25, 26, 27, 28, 29, 30, 31, 32, 33, 34, 35, 36, 37, 38, 39, 40, 41, 42, 43, 44, 45, 46, 47] (by decide +kernel) (by decide +kernel)
set_option maxRecDepth 20000 in
theorem gX8_put_X8_meets : GoodIn wsX8_put (wsV RX8 98 RX8 yX8_meets wsX8_meets) := goodIn_app (goodIn_of _ (by decide +kernel)) ggX8_put_X8_meets
set_option maxRecDepth 20000 in
theorem ggX8_put_X8_keep : GoodIn wsX8_put wsX8_keep := goodIn_r _ [23, 24, 13, 25, 26, 27, 28, 29, 30, 31, 32, 33, 34, 35, 36, 37, 38, 39, 40, 41, 42, 43, 44, 45, 46, 47] (by decide +kernel) (by decide +kernel)
set_option maxRecDepth 20000 in
theorem gX8_put_X8_keep : GoodIn wsX8_put (wsV RX8 213 RX8 yX8_keep wsX8_keep) := goodIn_app (goodIn_of _ (by decide +kernel)) ggX8_put_X8_keep
theorem dX8_put_0 : decode cX8_put 0 = .ok (.iload_n 1, 1) := by decide +kernel
theorem dX8_put_1 : decode cX8_put 1 = .ok (.invokestatic 95, 3) := by decide +kernel
theorem dX8_put_4 : decode cX8_put 4 = .ok (.ifCond .eq 12, 3) := by decide +kernel
theorem dX8_put_7 : decode cX8_put 7 = .ok (.iload_n 2, 1) := by decide +kernel
theorem dX8_put_8 : decode cX8_put 8 = .ok (.iconst 0, 1) := by decide +kernel
theorem dX8_put_9 : decode cX8_put 9 = .ok (.iconst 2, 1) := by decide +kernel
theorem dX8_put_10 : decode cX8_put 10 = .ok (.invokestatic 71, 3) := by decide +kernel
theorem dX8_put_13 : decode cX8_put 13 = .ok (.ifCond .ne 6, 3) := by decide +kernel
theorem dX8_put_16 : decode cX8_put 16 = .ok (.bipush (-2), 2) := by decide +kernel
theorem dX8_put_18 : decode cX8_put 18 = .ok (.ireturn, 1) := by decide +kernel
theorem dX8_put_19 : decode cX8_put 19 = .ok (.aload_n 0, 1) := by decide +kernel
theorem dX8_put_20 : decode cX8_put 20 = .ok (.iload_n 1, 1) := by decide +kernel
theorem dX8_put_21 : decode cX8_put 21 = .ok (.iload_n 2, 1) := by decide +kernel
theorem dX8_put_22 : decode cX8_put 22 = .ok (.iload_n 3, 1) := by decide +kernel
theorem dX8_put_23 : decode cX8_put 23 = .ok (.invokevirtual 210, 3) := by decide +kernel
theorem dX8_put_26 : decode cX8_put 26 = .ok (.istore 5, 2) := by decide +kernel
theorem dX8_put_28 : decode cX8_put 28 = .ok (.iload 5, 2) := by decide +kernel
theorem dX8_put_30 : decode cX8_put 30 = .ok (.ifCond .le 10, 3) := by decide +kernel
theorem dX8_put_33 : decode cX8_put 33 = .ok (.aload_n 0, 1) := by decide +kernel
theorem dX8_put_34 : decode cX8_put 34 = .ok (.iload 5, 2) := by decide +kernel
theorem dX8_put_36 : decode cX8_put 36 = .ok (.invokevirtual 98, 3) := by decide +kernel
theorem dX8_put_39 : decode cX8_put 39 = .ok (.ireturn, 1) := by decide +kernel
theorem dX8_put_40 : decode cX8_put 40 = .ok (.aload_n 0, 1) := by decide +kernel
theorem dX8_put_41 : decode cX8_put 41 = .ok (.iload_n 1, 1) := by decide +kernel
theorem dX8_put_42 : decode cX8_put 42 = .ok (.iload_n 3, 1) := by decide +kernel
theorem dX8_put_43 : decode cX8_put 43 = .ok (.iload 4, 2) := by decide +kernel
theorem dX8_put_45 : decode cX8_put 45 = .ok (.invokevirtual 213, 3) := by decide +kernel
theorem dX8_put_48 : decode cX8_put 48 = .ok (.iconst 1, 1) := by decide +kernel
theorem dX8_put_49 : decode cX8_put 49 = .ok (.ireturn, 1) := by decide +kernel
set_option maxRecDepth 20000 in
theorem ggX8_get_X8_isSheet : GoodIn wsX8_get wsX8_isSheet := goodIn_r _ [7, 8, 9, 6, 10] (by decide +kernel) (by decide +kernel)
set_option maxRecDepth 20000 in
theorem gX8_get_X8_isSheet : GoodIn wsX8_get (va_wsS RX8 95 yX8_isSheet wsX8_isSheet) := goodIn_app (goodIn_of _ (by decide +kernel)) ggX8_get_X8_isSheet
set_option maxRecDepth 20000 in
theorem ggX8_get_X8_in : GoodIn wsX8_get wsX8_in := goodIn_r _ [10] (by decide +kernel) (by decide +kernel)
set_option maxRecDepth 20000 in
theorem gX8_get_X8_in : GoodIn wsX8_get (va_wsS RX8 71 yX8_in wsX8_in) := goodIn_app (goodIn_of _ (by decide +kernel)) ggX8_get_X8_in
set_option maxRecDepth 20000 in
theorem ggX8_get_X8_lacks : GoodIn wsX8_get wsX8_lacks := goodIn_r _ [14, 15, 16, 17, 8, 9, 6, 10, 18, 19, 20, 21, 22, 23, 24, 25, 26, 27, 28, 29, 30, 31, 32, 33, 34, 35, 36, 37, 38, 39, 40] (by decide +kernel) (by decide +kernel)
set_option maxRecDepth 20000 in
theorem gX8_get_X8_lacks : GoodIn wsX8_get (wsV RX8 210 RX8 yX8_lacks wsX8_lacks) := goodIn_app (goodIn_of _ (by decide +kernel)) ggX8_get_X8_lacks
theorem dX8_get_0 : decode cX8_get 0 = .ok (.iload_n 1, 1) := by decide +kernel
theorem dX8_get_1 : decode cX8_get 1 = .ok (.invokestatic 95, 3) := by decide +kernel
theorem dX8_get_4 : decode cX8_get 4 = .ok (.ifCond .eq 12, 3) := by decide +kernel
theorem dX8_get_7 : decode cX8_get 7 = .ok (.iload_n 2, 1) := by decide +kernel
theorem dX8_get_8 : decode cX8_get 8 = .ok (.iconst 0, 1) := by decide +kernel
theorem dX8_get_9 : decode cX8_get 9 = .ok (.iconst 2, 1) := by decide +kernel
theorem dX8_get_10 : decode cX8_get 10 = .ok (.invokestatic 71, 3) := by decide +kernel
theorem dX8_get_13 : decode cX8_get 13 = .ok (.ifCond .ne 6, 3) := by decide +kernel
theorem dX8_get_16 : decode cX8_get 16 = .ok (.ldc 216, 2) := by decide +kernel
theorem dX8_get_18 : decode cX8_get 18 = .ok (.ireturn, 1) := by decide +kernel
theorem dX8_get_19 : decode cX8_get 19 = .ok (.aload_n 0, 1) := by decide +kernel
theorem dX8_get_20 : decode cX8_get 20 = .ok (.iload_n 1, 1) := by decide +kernel
theorem dX8_get_21 : decode cX8_get 21 = .ok (.iload_n 2, 1) := by decide +kernel
theorem dX8_get_22 : decode cX8_get 22 = .ok (.iload_n 3, 1) := by decide +kernel
theorem dX8_get_23 : decode cX8_get 23 = .ok (.invokevirtual 210, 3) := by decide +kernel
theorem dX8_get_26 : decode cX8_get 26 = .ok (.istore 4, 2) := by decide +kernel
theorem dX8_get_28 : decode cX8_get 28 = .ok (.iload 4, 2) := by decide +kernel
theorem dX8_get_30 : decode cX8_get 30 = .ok (.ifCond .le 12, 3) := by decide +kernel
theorem dX8_get_33 : decode cX8_get 33 = .ok (.aload_n 0, 1) := by decide +kernel
theorem dX8_get_34 : decode cX8_get 34 = .ok (.iload 4, 2) := by decide +kernel
theorem dX8_get_36 : decode cX8_get 36 = .ok (.putfield 207, 3) := by decide +kernel
theorem dX8_get_39 : decode cX8_get 39 = .ok (.ldc 216, 2) := by decide +kernel
theorem dX8_get_41 : decode cX8_get 41 = .ok (.ireturn, 1) := by decide +kernel
theorem dX8_get_42 : decode cX8_get 42 = .ok (.aload_n 0, 1) := by decide +kernel
theorem dX8_get_43 : decode cX8_get 43 = .ok (.getfield 59, 3) := by decide +kernel
theorem dX8_get_46 : decode cX8_get 46 = .ok (.bipush 48, 2) := by decide +kernel
theorem dX8_get_48 : decode cX8_get 48 = .ok (.iload_n 1, 1) := by decide +kernel
theorem dX8_get_49 : decode cX8_get 49 = .ok (.imul, 1) := by decide +kernel
theorem dX8_get_50 : decode cX8_get 50 = .ok (.iload_n 3, 1) := by decide +kernel
theorem dX8_get_51 : decode cX8_get 51 = .ok (.iadd, 1) := by decide +kernel
theorem dX8_get_52 : decode cX8_get 52 = .ok (.iaload, 1) := by decide +kernel
theorem dX8_get_53 : decode cX8_get 53 = .ok (.ireturn, 1) := by decide +kernel
set_option maxRecDepth 20000 in
theorem ggX8_copy_X8_isSheet : GoodIn wsX8_copy wsX8_isSheet := goodIn_r _ [9, 10, 11, 8, 12] (by decide +kernel) (by decide +kernel)
set_option maxRecDepth 20000 in
theorem gX8_copy_X8_isSheet : GoodIn wsX8_copy (va_wsS RX8 95 yX8_isSheet wsX8_isSheet) := goodIn_app (goodIn_of _ (by decide +kernel)) ggX8_copy_X8_isSheet
set_option maxRecDepth 20000 in
theorem ggX8_copy_X8_meets : GoodIn wsX8_copy wsX8_meets := goodIn_r _ [16, 17, 18, 19, 20, 21, 22, 23, 24, 25, 26, 27, 28, 29, 30, 31, 32, 33, 34, 35, 36, 37, 38, 39, 40] (by decide +kernel) (by decide +kernel)
set_option maxRecDepth 20000 in
theorem gX8_copy_X8_meets : GoodIn wsX8_copy (wsV RX8 98 RX8 yX8_meets wsX8_meets) := goodIn_app (goodIn_of _ (by decide +kernel)) ggX8_copy_X8_meets
theorem dX8_copy_0 : decode cX8_copy 0 = .ok (.iload_n 1, 1) := by decide +kernel
theorem dX8_copy_1 : decode cX8_copy 1 = .ok (.invokestatic 95, 3) := by decide +kernel
theorem dX8_copy_4 : decode cX8_copy 4 = .ok (.ifCond .eq 10, 3) := by decide +kernel
theorem dX8_copy_7 : decode cX8_copy 7 = .ok (.iload_n 3, 1) := by decide +kernel
theorem dX8_copy_8 : decode cX8_copy 8 = .ok (.invokestatic 95, 3) := by decide +kernel
theorem dX8_copy_11 : decode cX8_copy 11 = .ok (.ifCond .ne 6, 3) := by decide +kernel
theorem dX8_copy_14 : decode cX8_copy 14 = .ok (.bipush (-2), 2) := by decide +kernel
theorem dX8_copy_16 : decode cX8_copy 16 = .ok (.ireturn, 1) := by decide +kernel
theorem dX8_copy_17 : decode cX8_copy 17 = .ok (.aload_n 0, 1) := by decide +kernel
theorem dX8_copy_18 : decode cX8_copy 18 = .ok (.getfield 50, 3) := by decide +kernel
theorem dX8_copy_21 : decode cX8_copy 21 = .ok (.iload_n 1, 1) := by decide +kernel
theorem dX8_copy_22 : decode cX8_copy 22 = .ok (.baload, 1) := by decide +kernel
theorem dX8_copy_23 : decode cX8_copy 23 = .ok (.ifCond .eq 12, 3) := by decide +kernel
theorem dX8_copy_26 : decode cX8_copy 26 = .ok (.aload_n 0, 1) := by decide +kernel
theorem dX8_copy_27 : decode cX8_copy 27 = .ok (.getfield 50, 3) := by decide +kernel
theorem dX8_copy_30 : decode cX8_copy 30 = .ok (.iload_n 3, 1) := by decide +kernel
theorem dX8_copy_31 : decode cX8_copy 31 = .ok (.baload, 1) := by decide +kernel
theorem dX8_copy_32 : decode cX8_copy 32 = .ok (.ifCond .ne 9, 3) := by decide +kernel
theorem dX8_copy_35 : decode cX8_copy 35 = .ok (.aload_n 0, 1) := by decide +kernel
theorem dX8_copy_36 : decode cX8_copy 36 = .ok (.iconst 1, 1) := by decide +kernel
theorem dX8_copy_37 : decode cX8_copy 37 = .ok (.invokevirtual 98, 3) := by decide +kernel
theorem dX8_copy_40 : decode cX8_copy 40 = .ok (.ireturn, 1) := by decide +kernel
theorem dX8_copy_41 : decode cX8_copy 41 = .ok (.aload_n 0, 1) := by decide +kernel
theorem dX8_copy_42 : decode cX8_copy 42 = .ok (.getfield 53, 3) := by decide +kernel
theorem dX8_copy_45 : decode cX8_copy 45 = .ok (.iload_n 1, 1) := by decide +kernel
theorem dX8_copy_46 : decode cX8_copy 46 = .ok (.iaload, 1) := by decide +kernel
theorem dX8_copy_47 : decode cX8_copy 47 = .ok (.aload_n 0, 1) := by decide +kernel
theorem dX8_copy_48 : decode cX8_copy 48 = .ok (.getfield 53, 3) := by decide +kernel
theorem dX8_copy_51 : decode cX8_copy 51 = .ok (.iload_n 3, 1) := by decide +kernel
theorem dX8_copy_52 : decode cX8_copy 52 = .ok (.iaload, 1) := by decide +kernel
theorem dX8_copy_53 : decode cX8_copy 53 = .ok (.if_icmp .eq 9, 3) := by decide +kernel
theorem dX8_copy_56 : decode cX8_copy 56 = .ok (.aload_n 0, 1) := by decide +kernel
theorem dX8_copy_57 : decode cX8_copy 57 = .ok (.iconst 4, 1) := by decide +kernel
theorem dX8_copy_58 : decode cX8_copy 58 = .ok (.invokevirtual 98, 3) := by decide +kernel
theorem dX8_copy_61 : decode cX8_copy 61 = .ok (.ireturn, 1) := by decide +kernel
theorem dX8_copy_62 : decode cX8_copy 62 = .ok (.iload_n 2, 1) := by decide +kernel
theorem dX8_copy_63 : decode cX8_copy 63 = .ok (.ifCond .lt 48, 3) := by decide +kernel
theorem dX8_copy_66 : decode cX8_copy 66 = .ok (.iload 4, 2) := by decide +kernel
theorem dX8_copy_68 : decode cX8_copy 68 = .ok (.ifCond .lt 43, 3) := by decide +kernel
theorem dX8_copy_71 : decode cX8_copy 71 = .ok (.iload 5, 2) := by decide +kernel
theorem dX8_copy_73 : decode cX8_copy 73 = .ok (.ifCond .lt 38, 3) := by decide +kernel
theorem dX8_copy_76 : decode cX8_copy 76 = .ok (.iload_n 2, 1) := by decide +kernel
theorem dX8_copy_77 : decode cX8_copy 77 = .ok (.i2l, 1) := by decide +kernel
theorem dX8_copy_78 : decode cX8_copy 78 = .ok (.iload 5, 2) := by decide +kernel
theorem dX8_copy_80 : decode cX8_copy 80 = .ok (.i2l, 1) := by decide +kernel
theorem dX8_copy_81 : decode cX8_copy 81 = .ok (.ladd, 1) := by decide +kernel
theorem dX8_copy_82 : decode cX8_copy 82 = .ok (.aload_n 0, 1) := by decide +kernel
theorem dX8_copy_83 : decode cX8_copy 83 = .ok (.getfield 56, 3) := by decide +kernel
theorem dX8_copy_86 : decode cX8_copy 86 = .ok (.iload_n 1, 1) := by decide +kernel
theorem dX8_copy_87 : decode cX8_copy 87 = .ok (.iaload, 1) := by decide +kernel
theorem dX8_copy_88 : decode cX8_copy 88 = .ok (.i2l, 1) := by decide +kernel
theorem dX8_copy_89 : decode cX8_copy 89 = .ok (.lcmp, 1) := by decide +kernel
theorem dX8_copy_90 : decode cX8_copy 90 = .ok (.ifCond .gt 21, 3) := by decide +kernel
theorem dX8_copy_93 : decode cX8_copy 93 = .ok (.iload 4, 2) := by decide +kernel
theorem dX8_copy_95 : decode cX8_copy 95 = .ok (.i2l, 1) := by decide +kernel
theorem dX8_copy_96 : decode cX8_copy 96 = .ok (.iload 5, 2) := by decide +kernel
theorem dX8_copy_98 : decode cX8_copy 98 = .ok (.i2l, 1) := by decide +kernel
theorem dX8_copy_99 : decode cX8_copy 99 = .ok (.ladd, 1) := by decide +kernel
theorem dX8_copy_100 : decode cX8_copy 100 = .ok (.aload_n 0, 1) := by decide +kernel
theorem dX8_copy_101 : decode cX8_copy 101 = .ok (.getfield 56, 3) := by decide +kernel
theorem dX8_copy_104 : decode cX8_copy 104 = .ok (.iload_n 3, 1) := by decide +kernel
theorem dX8_copy_105 : decode cX8_copy 105 = .ok (.iaload, 1) := by decide +kernel
theorem dX8_copy_106 : decode cX8_copy 106 = .ok (.i2l, 1) := by decide +kernel
theorem dX8_copy_107 : decode cX8_copy 107 = .ok (.lcmp, 1) := by decide +kernel
theorem dX8_copy_108 : decode cX8_copy 108 = .ok (.ifCond .le 9, 3) := by decide +kernel
theorem dX8_copy_111 : decode cX8_copy 111 = .ok (.aload_n 0, 1) := by decide +kernel
theorem dX8_copy_112 : decode cX8_copy 112 = .ok (.iconst 2, 1) := by decide +kernel
theorem dX8_copy_113 : decode cX8_copy 113 = .ok (.invokevirtual 98, 3) := by decide +kernel
theorem dX8_copy_116 : decode cX8_copy 116 = .ok (.ireturn, 1) := by decide +kernel
theorem dX8_copy_117 : decode cX8_copy 117 = .ok (.iconst 0, 1) := by decide +kernel
theorem dX8_copy_118 : decode cX8_copy 118 = .ok (.istore 6, 2) := by decide +kernel
theorem dX8_copy_120 : decode cX8_copy 120 = .ok (.iload 6, 2) := by decide +kernel
theorem dX8_copy_122 : decode cX8_copy 122 = .ok (.iload 5, 2) := by decide +kernel
theorem dX8_copy_124 : decode cX8_copy 124 = .ok (.if_icmp .ge 30, 3) := by decide +kernel
theorem dX8_copy_127 : decode cX8_copy 127 = .ok (.aload_n 0, 1) := by decide +kernel
theorem dX8_copy_128 : decode cX8_copy 128 = .ok (.getfield 62, 3) := by decide +kernel
theorem dX8_copy_131 : decode cX8_copy 131 = .ok (.iload 6, 2) := by decide +kernel
theorem dX8_copy_133 : decode cX8_copy 133 = .ok (.aload_n 0, 1) := by decide +kernel
theorem dX8_copy_134 : decode cX8_copy 134 = .ok (.getfield 59, 3) := by decide +kernel
theorem dX8_copy_137 : decode cX8_copy 137 = .ok (.bipush 48, 2) := by decide +kernel
theorem dX8_copy_139 : decode cX8_copy 139 = .ok (.iload_n 1, 1) := by decide +kernel
theorem dX8_copy_140 : decode cX8_copy 140 = .ok (.imul, 1) := by decide +kernel
theorem dX8_copy_141 : decode cX8_copy 141 = .ok (.iload_n 2, 1) := by decide +kernel
theorem dX8_copy_142 : decode cX8_copy 142 = .ok (.iadd, 1) := by decide +kernel
theorem dX8_copy_143 : decode cX8_copy 143 = .ok (.iload 6, 2) := by decide +kernel
theorem dX8_copy_145 : decode cX8_copy 145 = .ok (.iadd, 1) := by decide +kernel
theorem dX8_copy_146 : decode cX8_copy 146 = .ok (.iaload, 1) := by decide +kernel
theorem dX8_copy_147 : decode cX8_copy 147 = .ok (.iastore, 1) := by decide +kernel
theorem dX8_copy_148 : decode cX8_copy 148 = .ok (.iinc 6 1, 3) := by decide +kernel
theorem dX8_copy_151 : decode cX8_copy 151 = .ok (.goto (-31), 3) := by decide +kernel
theorem dX8_copy_154 : decode cX8_copy 154 = .ok (.iconst 0, 1) := by decide +kernel
theorem dX8_copy_155 : decode cX8_copy 155 = .ok (.istore 6, 2) := by decide +kernel
theorem dX8_copy_157 : decode cX8_copy 157 = .ok (.iload 6, 2) := by decide +kernel
theorem dX8_copy_159 : decode cX8_copy 159 = .ok (.iload 5, 2) := by decide +kernel
theorem dX8_copy_161 : decode cX8_copy 161 = .ok (.if_icmp .ge 31, 3) := by decide +kernel
theorem dX8_copy_164 : decode cX8_copy 164 = .ok (.aload_n 0, 1) := by decide +kernel
theorem dX8_copy_165 : decode cX8_copy 165 = .ok (.getfield 59, 3) := by decide +kernel
theorem dX8_copy_168 : decode cX8_copy 168 = .ok (.bipush 48, 2) := by decide +kernel
theorem dX8_copy_170 : decode cX8_copy 170 = .ok (.iload_n 3, 1) := by decide +kernel
theorem dX8_copy_171 : decode cX8_copy 171 = .ok (.imul, 1) := by decide +kernel
theorem dX8_copy_172 : decode cX8_copy 172 = .ok (.iload 4, 2) := by decide +kernel
theorem dX8_copy_174 : decode cX8_copy 174 = .ok (.iadd, 1) := by decide +kernel
theorem dX8_copy_175 : decode cX8_copy 175 = .ok (.iload 6, 2) := by decide +kernel
theorem dX8_copy_177 : decode cX8_copy 177 = .ok (.iadd, 1) := by decide +kernel
theorem dX8_copy_178 : decode cX8_copy 178 = .ok (.aload_n 0, 1) := by decide +kernel
theorem dX8_copy_179 : decode cX8_copy 179 = .ok (.getfield 62, 3) := by decide +kernel
theorem dX8_copy_182 : decode cX8_copy 182 = .ok (.iload 6, 2) := by decide +kernel
theorem dX8_copy_184 : decode cX8_copy 184 = .ok (.iaload, 1) := by decide +kernel
theorem dX8_copy_185 : decode cX8_copy 185 = .ok (.iastore, 1) := by decide +kernel
theorem dX8_copy_186 : decode cX8_copy 186 = .ok (.iinc 6 1, 3) := by decide +kernel
theorem dX8_copy_189 : decode cX8_copy 189 = .ok (.goto (-32), 3) := by decide +kernel
theorem dX8_copy_192 : decode cX8_copy 192 = .ok (.iconst 1, 1) := by decide +kernel
theorem dX8_copy_193 : decode cX8_copy 193 = .ok (.ireturn, 1) := by decide +kernel
set_option maxRecDepth 20000 in
theorem ggX8_write_X8_isGeneral : GoodIn wsX8_write wsX8_isGeneral := goodIn_r _ [7, 8, 9, 6, 10] (by decide +kernel) (by decide +kernel)
set_option maxRecDepth 20000 in
theorem gX8_write_X8_isGeneral : GoodIn wsX8_write (va_wsS RX8 75 yX8_isGeneral wsX8_isGeneral) := goodIn_app (goodIn_of _ (by decide +kernel)) ggX8_write_X8_isGeneral
set_option maxRecDepth 20000 in
theorem ggX8_write_X8_isSheet : GoodIn wsX8_write wsX8_isSheet := goodIn_r _ [13, 8, 9, 6, 10] (by decide +kernel) (by decide +kernel)
set_option maxRecDepth 20000 in
theorem gX8_write_X8_isSheet : GoodIn wsX8_write (va_wsS RX8 95 yX8_isSheet wsX8_isSheet) := goodIn_app (goodIn_of _ (by decide +kernel)) ggX8_write_X8_isSheet
set_option maxRecDepth 20000 in
theorem ggX8_write_X8_meets : GoodIn wsX8_write wsX8_meets := goodIn_r _ [17, 18, 59, 60, 61, 62, 63, 64, 65, 66, 67, 68, 69, 70, 71, 72, 73, 74, 75, 76, 77, 78, 79, 80, 81] (by decide +kernel) (by decide +kernel)
set_option maxRecDepth 20000 in
theorem gX8_write_X8_meets : GoodIn wsX8_write (wsV RX8 98 RX8 yX8_meets wsX8_meets) := goodIn_app (goodIn_of _ (by decide +kernel)) ggX8_write_X8_meets
set_option maxRecDepth 20000 in
theorem ggX8_write_X8_laysAll : GoodIn wsX8_write wsX8_laysAll := goodIn_r _ [22, 23, 24, 25, 6, 26, 27, 28, 29, 30, 3, 31, 32, 33, 34, 35, 36, 37, 38, 39, 40, 41, 42, 8, 9, 10, 43, 44, 45, 46, 47, 48, 49, 50, 51, 52, 59, 60, 61, 62, 63, 64, 65, 66, 67, 68, 69, 70, 71, 72, 73, 74, 75, 76, 77, 78, 79, 80, 81] (by decide +kernel) (by decide +kernel)
set_option maxRecDepth 20000 in
theorem gX8_write_X8_laysAll : GoodIn wsX8_write (wsV RX8 119 RX8 yX8_laysAll wsX8_laysAll) := goodIn_app (goodIn_of _ (by decide +kernel)) ggX8_write_X8_laysAll
set_option maxRecDepth 20000 in
theorem ggX8_write_X8_keep : GoodIn wsX8_write wsX8_keep := goodIn_r _ [56, 57, 58, 59, 60, 61, 62, 63, 64, 65, 66, 67, 68, 69, 70, 71, 72, 73, 74, 75, 76, 77, 78, 79, 80, 81] (by decide +kernel) (by decide +kernel)
set_option maxRecDepth 20000 in
theorem gX8_write_X8_keep : GoodIn wsX8_write (wsV RX8 213 RX8 yX8_keep wsX8_keep) := goodIn_app (goodIn_of _ (by decide +kernel)) ggX8_write_X8_keep
theorem dX8_write_0 : decode cX8_write 0 = .ok (.iload_n 1, 1) := by decide +kernel
theorem dX8_write_1 : decode cX8_write 1 = .ok (.invokestatic 75, 3) := by decide +kernel
theorem dX8_write_4 : decode cX8_write 4 = .ok (.ifCond .eq 10, 3) := by decide +kernel
theorem dX8_write_7 : decode cX8_write 7 = .ok (.iload_n 2, 1) := by decide +kernel
theorem dX8_write_8 : decode cX8_write 8 = .ok (.invokestatic 95, 3) := by decide +kernel
theorem dX8_write_11 : decode cX8_write 11 = .ok (.ifCond .ne 6, 3) := by decide +kernel
theorem dX8_write_14 : decode cX8_write 14 = .ok (.bipush (-2), 2) := by decide +kernel
theorem dX8_write_16 : decode cX8_write 16 = .ok (.ireturn, 1) := by decide +kernel
theorem dX8_write_17 : decode cX8_write 17 = .ok (.aload_n 0, 1) := by decide +kernel
theorem dX8_write_18 : decode cX8_write 18 = .ok (.getfield 50, 3) := by decide +kernel
theorem dX8_write_21 : decode cX8_write 21 = .ok (.iload_n 2, 1) := by decide +kernel
theorem dX8_write_22 : decode cX8_write 22 = .ok (.baload, 1) := by decide +kernel
theorem dX8_write_23 : decode cX8_write 23 = .ok (.ifCond .ne 9, 3) := by decide +kernel
theorem dX8_write_26 : decode cX8_write 26 = .ok (.aload_n 0, 1) := by decide +kernel
theorem dX8_write_27 : decode cX8_write 27 = .ok (.iconst 1, 1) := by decide +kernel
theorem dX8_write_28 : decode cX8_write 28 = .ok (.invokevirtual 98, 3) := by decide +kernel
theorem dX8_write_31 : decode cX8_write 31 = .ok (.ireturn, 1) := by decide +kernel
theorem dX8_write_32 : decode cX8_write 32 = .ok (.aload_n 0, 1) := by decide +kernel
theorem dX8_write_33 : decode cX8_write 33 = .ok (.invokevirtual 119, 3) := by decide +kernel
theorem dX8_write_36 : decode cX8_write 36 = .ok (.iconst 0, 1) := by decide +kernel
theorem dX8_write_37 : decode cX8_write 37 = .ok (.istore_n 3, 1) := by decide +kernel
theorem dX8_write_38 : decode cX8_write 38 = .ok (.iload_n 3, 1) := by decide +kernel
theorem dX8_write_39 : decode cX8_write 39 = .ok (.aload_n 0, 1) := by decide +kernel
theorem dX8_write_40 : decode cX8_write 40 = .ok (.getfield 56, 3) := by decide +kernel
theorem dX8_write_43 : decode cX8_write 43 = .ok (.iload_n 2, 1) := by decide +kernel
theorem dX8_write_44 : decode cX8_write 44 = .ok (.iaload, 1) := by decide +kernel
theorem dX8_write_45 : decode cX8_write 45 = .ok (.if_icmp .ge 32, 3) := by decide +kernel
theorem dX8_write_48 : decode cX8_write 48 = .ok (.iload_n 3, 1) := by decide +kernel
theorem dX8_write_49 : decode cX8_write 49 = .ok (.bipush 24, 2) := by decide +kernel
theorem dX8_write_51 : decode cX8_write 51 = .ok (.if_icmp .ge 26, 3) := by decide +kernel
theorem dX8_write_54 : decode cX8_write 54 = .ok (.aload_n 0, 1) := by decide +kernel
theorem dX8_write_55 : decode cX8_write 55 = .ok (.iload_n 2, 1) := by decide +kernel
theorem dX8_write_56 : decode cX8_write 56 = .ok (.iload_n 3, 1) := by decide +kernel
theorem dX8_write_57 : decode cX8_write 57 = .ok (.aload_n 0, 1) := by decide +kernel
theorem dX8_write_58 : decode cX8_write 58 = .ok (.getfield 28, 3) := by decide +kernel
theorem dX8_write_61 : decode cX8_write 61 = .ok (.bipush 24, 2) := by decide +kernel
theorem dX8_write_63 : decode cX8_write 63 = .ok (.iload_n 1, 1) := by decide +kernel
theorem dX8_write_64 : decode cX8_write 64 = .ok (.imul, 1) := by decide +kernel
theorem dX8_write_65 : decode cX8_write 65 = .ok (.iload_n 3, 1) := by decide +kernel
theorem dX8_write_66 : decode cX8_write 66 = .ok (.iadd, 1) := by decide +kernel
theorem dX8_write_67 : decode cX8_write 67 = .ok (.iaload, 1) := by decide +kernel
theorem dX8_write_68 : decode cX8_write 68 = .ok (.invokevirtual 213, 3) := by decide +kernel
theorem dX8_write_71 : decode cX8_write 71 = .ok (.iinc 3 1, 3) := by decide +kernel
theorem dX8_write_74 : decode cX8_write 74 = .ok (.goto (-36), 3) := by decide +kernel
theorem dX8_write_77 : decode cX8_write 77 = .ok (.iload_n 3, 1) := by decide +kernel
theorem dX8_write_78 : decode cX8_write 78 = .ok (.ireturn, 1) := by decide +kernel
set_option maxRecDepth 20000 in
theorem ggX8_sumOf_X8_toldMany : GoodIn wsX8_sumOf wsX8_toldMany := goodIn_r _ [8, 9, 10, 11, 12, 7, 13, 2, 14, 15, 16, 20, 21, 22, 23, 24, 25, 26, 27, 28, 29, 30, 31, 32, 33, 34, 35, 36, 37, 38, 39, 40, 41, 42] (by decide +kernel) (by decide +kernel)
set_option maxRecDepth 20000 in
theorem gX8_sumOf_X8_toldMany : GoodIn wsX8_sumOf (wsV RX8 104 RX8 yX8_toldMany wsX8_toldMany) := goodIn_app (goodIn_of _ (by decide +kernel)) ggX8_sumOf_X8_toldMany
set_option maxRecDepth 20000 in
theorem ggX8_sumOf_X8_dishBy : GoodIn wsX8_sumOf wsX8_dishBy := goodIn_r _ [16] (by decide +kernel) (by decide +kernel)
set_option maxRecDepth 20000 in
theorem gX8_sumOf_X8_dishBy : GoodIn wsX8_sumOf (va_wsS RX8 79 yX8_dishBy wsX8_dishBy) := goodIn_app (goodIn_of _ (by decide +kernel)) ggX8_sumOf_X8_dishBy
set_option maxRecDepth 20000 in
theorem ggX8_sumOf_X8_ones : GoodIn wsX8_sumOf wsX8_ones := goodIn_r _ [19] (by decide +kernel) (by decide +kernel)
set_option maxRecDepth 20000 in
theorem gX8_sumOf_X8_ones : GoodIn wsX8_sumOf (va_wsS RX8 201 yX8_ones wsX8_ones) := goodIn_app (goodIn_of _ (by decide +kernel)) ggX8_sumOf_X8_ones
theorem dX8_sumOf_0 : decode cX8_sumOf 0 = .ok (.iconst 0, 1) := by decide +kernel
theorem dX8_sumOf_1 : decode cX8_sumOf 1 = .ok (.istore_n 2, 1) := by decide +kernel
theorem dX8_sumOf_2 : decode cX8_sumOf 2 = .ok (.iconst 0, 1) := by decide +kernel
theorem dX8_sumOf_3 : decode cX8_sumOf 3 = .ok (.istore_n 3, 1) := by decide +kernel
theorem dX8_sumOf_4 : decode cX8_sumOf 4 = .ok (.iload_n 3, 1) := by decide +kernel
theorem dX8_sumOf_5 : decode cX8_sumOf 5 = .ok (.iconst 2, 1) := by decide +kernel
theorem dX8_sumOf_6 : decode cX8_sumOf 6 = .ok (.if_icmp .ge 57, 3) := by decide +kernel
theorem dX8_sumOf_9 : decode cX8_sumOf 9 = .ok (.iconst 0, 1) := by decide +kernel
theorem dX8_sumOf_10 : decode cX8_sumOf 10 = .ok (.istore 4, 2) := by decide +kernel
theorem dX8_sumOf_12 : decode cX8_sumOf 12 = .ok (.iload 4, 2) := by decide +kernel
theorem dX8_sumOf_14 : decode cX8_sumOf 14 = .ok (.aload_n 0, 1) := by decide +kernel
theorem dX8_sumOf_15 : decode cX8_sumOf 15 = .ok (.iload_n 3, 1) := by decide +kernel
theorem dX8_sumOf_16 : decode cX8_sumOf 16 = .ok (.invokevirtual 104, 3) := by decide +kernel
theorem dX8_sumOf_19 : decode cX8_sumOf 19 = .ok (.if_icmp .ge 38, 3) := by decide +kernel
theorem dX8_sumOf_22 : decode cX8_sumOf 22 = .ok (.iload_n 1, 1) := by decide +kernel
theorem dX8_sumOf_23 : decode cX8_sumOf 23 = .ok (.bipush 6, 2) := by decide +kernel
theorem dX8_sumOf_25 : decode cX8_sumOf 25 = .ok (.if_icmp .ne 32, 3) := by decide +kernel
theorem dX8_sumOf_28 : decode cX8_sumOf 28 = .ok (.iload_n 2, 1) := by decide +kernel
theorem dX8_sumOf_29 : decode cX8_sumOf 29 = .ok (.aload_n 0, 1) := by decide +kernel
theorem dX8_sumOf_30 : decode cX8_sumOf 30 = .ok (.getfield 22, 3) := by decide +kernel
theorem dX8_sumOf_33 : decode cX8_sumOf 33 = .ok (.aload_n 0, 1) := by decide +kernel
theorem dX8_sumOf_34 : decode cX8_sumOf 34 = .ok (.getfield 13, 3) := by decide +kernel
theorem dX8_sumOf_37 : decode cX8_sumOf 37 = .ok (.bipush 24, 2) := by decide +kernel
theorem dX8_sumOf_39 : decode cX8_sumOf 39 = .ok (.iload_n 3, 1) := by decide +kernel
theorem dX8_sumOf_40 : decode cX8_sumOf 40 = .ok (.imul, 1) := by decide +kernel
theorem dX8_sumOf_41 : decode cX8_sumOf 41 = .ok (.iload 4, 2) := by decide +kernel
theorem dX8_sumOf_43 : decode cX8_sumOf 43 = .ok (.iadd, 1) := by decide +kernel
theorem dX8_sumOf_44 : decode cX8_sumOf 44 = .ok (.iaload, 1) := by decide +kernel
theorem dX8_sumOf_45 : decode cX8_sumOf 45 = .ok (.invokestatic 79, 3) := by decide +kernel
theorem dX8_sumOf_48 : decode cX8_sumOf 48 = .ok (.iaload, 1) := by decide +kernel
theorem dX8_sumOf_49 : decode cX8_sumOf 49 = .ok (.iadd, 1) := by decide +kernel
theorem dX8_sumOf_50 : decode cX8_sumOf 50 = .ok (.istore_n 2, 1) := by decide +kernel
theorem dX8_sumOf_51 : decode cX8_sumOf 51 = .ok (.iinc 4 1, 3) := by decide +kernel
theorem dX8_sumOf_54 : decode cX8_sumOf 54 = .ok (.goto (-42), 3) := by decide +kernel
theorem dX8_sumOf_57 : decode cX8_sumOf 57 = .ok (.iinc 3 1, 3) := by decide +kernel
theorem dX8_sumOf_60 : decode cX8_sumOf 60 = .ok (.goto (-56), 3) := by decide +kernel
theorem dX8_sumOf_63 : decode cX8_sumOf 63 = .ok (.iload_n 1, 1) := by decide +kernel
theorem dX8_sumOf_64 : decode cX8_sumOf 64 = .ok (.iconst 3, 1) := by decide +kernel
theorem dX8_sumOf_65 : decode cX8_sumOf 65 = .ok (.if_icmp .ge 11, 3) := by decide +kernel
theorem dX8_sumOf_68 : decode cX8_sumOf 68 = .ok (.aload_n 0, 1) := by decide +kernel
theorem dX8_sumOf_69 : decode cX8_sumOf 69 = .ok (.iload_n 1, 1) := by decide +kernel
theorem dX8_sumOf_70 : decode cX8_sumOf 70 = .ok (.invokevirtual 104, 3) := by decide +kernel
theorem dX8_sumOf_73 : decode cX8_sumOf 73 = .ok (.goto 20, 3) := by decide +kernel
theorem dX8_sumOf_76 : decode cX8_sumOf 76 = .ok (.iload_n 1, 1) := by decide +kernel
theorem dX8_sumOf_77 : decode cX8_sumOf 77 = .ok (.bipush 7, 2) := by decide +kernel
theorem dX8_sumOf_79 : decode cX8_sumOf 79 = .ok (.if_icmp .ne 13, 3) := by decide +kernel
theorem dX8_sumOf_82 : decode cX8_sumOf 82 = .ok (.aload_n 0, 1) := by decide +kernel
theorem dX8_sumOf_83 : decode cX8_sumOf 83 = .ok (.getfield 92, 3) := by decide +kernel
theorem dX8_sumOf_86 : decode cX8_sumOf 86 = .ok (.invokestatic 201, 3) := by decide +kernel
theorem dX8_sumOf_89 : decode cX8_sumOf 89 = .ok (.goto 4, 3) := by decide +kernel
theorem dX8_sumOf_92 : decode cX8_sumOf 92 = .ok (.iload_n 2, 1) := by decide +kernel
theorem dX8_sumOf_93 : decode cX8_sumOf 93 = .ok (.ireturn, 1) := by decide +kernel
set_option maxRecDepth 20000 in
theorem ggX8_count_X8_sumOf : GoodIn wsX8_count wsX8_sumOf := goodIn_r _ [9, 10, 11, 12, 13, 14, 15, 8, 16, 17, 18, 19, 20, 21, 22, 23, 24, 25, 26, 27, 28, 29, 30, 31, 32, 33, 34, 35, 36, 37, 38, 39, 40, 41, 42, 43, 44, 45, 46, 47, 48, 49, 50] (by decide +kernel) (by decide +kernel)
set_option maxRecDepth 20000 in
theorem gX8_count_X8_sumOf : GoodIn wsX8_count (wsV RX8 217 RX8 yX8_sumOf wsX8_sumOf) := goodIn_app (goodIn_of _ (by decide +kernel)) ggX8_count_X8_sumOf
theorem dX8_count_0 : decode cX8_count 0 = .ok (.iload_n 1, 1) := by decide +kernel
theorem dX8_count_1 : decode cX8_count 1 = .ok (.tableswitch 77 0 8 #[51, 51, 51, 57, 62, 67, 51, 51, 72], 51) := by decide +kernel
theorem dX8_count_52 : decode cX8_count 52 = .ok (.aload_n 0, 1) := by decide +kernel
theorem dX8_count_53 : decode cX8_count 53 = .ok (.iload_n 1, 1) := by decide +kernel
theorem dX8_count_54 : decode cX8_count 54 = .ok (.invokevirtual 217, 3) := by decide +kernel
theorem dX8_count_57 : decode cX8_count 57 = .ok (.ireturn, 1) := by decide +kernel
theorem dX8_count_58 : decode cX8_count 58 = .ok (.aload_n 0, 1) := by decide +kernel
theorem dX8_count_59 : decode cX8_count 59 = .ok (.getfield 65, 3) := by decide +kernel
theorem dX8_count_62 : decode cX8_count 62 = .ok (.ireturn, 1) := by decide +kernel
theorem dX8_count_63 : decode cX8_count 63 = .ok (.aload_n 0, 1) := by decide +kernel
theorem dX8_count_64 : decode cX8_count 64 = .ok (.getfield 89, 3) := by decide +kernel
theorem dX8_count_67 : decode cX8_count 67 = .ok (.ireturn, 1) := by decide +kernel
theorem dX8_count_68 : decode cX8_count 68 = .ok (.aload_n 0, 1) := by decide +kernel
theorem dX8_count_69 : decode cX8_count 69 = .ok (.getfield 189, 3) := by decide +kernel
theorem dX8_count_72 : decode cX8_count 72 = .ok (.ireturn, 1) := by decide +kernel
theorem dX8_count_73 : decode cX8_count 73 = .ok (.aload_n 0, 1) := by decide +kernel
theorem dX8_count_74 : decode cX8_count 74 = .ok (.getfield 207, 3) := by decide +kernel
theorem dX8_count_77 : decode cX8_count 77 = .ok (.ireturn, 1) := by decide +kernel
theorem dX8_count_78 : decode cX8_count 78 = .ok (.bipush (-2), 2) := by decide +kernel
theorem dX8_count_80 : decode cX8_count 80 = .ok (.ireturn, 1) := by decide +kernel
set_option maxRecDepth 20000 in
theorem ggX8_digest_X8_count : GoodIn wsX8_digest wsX8_count := goodIn_r _ [7, 8, 9, 10, 11, 12, 13, 14, 6, 15, 16, 17, 18, 19, 20, 21, 22, 23, 24, 25, 26, 27, 28, 29, 30, 31, 32, 33, 137, 138, 139, 140, 141, 142, 143, 144, 145, 146, 147, 148, 149, 150, 151, 152, 153, 154, 155, 156, 157, 158, 159] (by decide +kernel) (by decide +kernel)
set_option maxRecDepth 20000 in
theorem gX8_digest_X8_count : GoodIn wsX8_digest (wsV RX8 224 RX8 yX8_count wsX8_count) := goodIn_app (goodIn_of _ (by decide +kernel)) ggX8_digest_X8_count
set_option maxRecDepth 20000 in
theorem ggX8_digest_X8_faultOf : GoodIn wsX8_digest wsX8_faultOf := goodIn_r _ [27, 23, 17, 28, 29, 6, 30, 137, 138, 139, 140, 141, 142, 143, 144, 145, 146, 147, 148, 149, 150, 151, 152, 153, 154, 155, 156, 157, 158, 159] (by decide +kernel) (by decide +kernel)
set_option maxRecDepth 20000 in
theorem gX8_digest_X8_faultOf : GoodIn wsX8_digest (wsV RX8 83 RX8 yX8_faultOf wsX8_faultOf) := goodIn_app (goodIn_of _ (by decide +kernel)) ggX8_digest_X8_faultOf
set_option maxRecDepth 20000 in
theorem ggX8_digest_X8_hiccupsOf : GoodIn wsX8_digest wsX8_hiccupsOf := goodIn_r _ [37, 38, 39, 40, 41, 6, 42, 43, 44, 45, 46, 47, 17, 48, 49, 19, 20, 21, 22, 23, 24, 25, 26, 27, 28, 29, 30, 50, 51, 52, 53, 54, 55, 56, 57, 58, 59, 60, 61, 8, 137, 138, 139, 140, 141, 142, 143, 144, 145, 146, 147, 148, 149, 150, 151, 152, 153, 154, 155, 156, 157, 158, 159] (by decide +kernel) (by decide +kernel)
set_option maxRecDepth 20000 in
theorem gX8_digest_X8_hiccupsOf : GoodIn wsX8_digest (wsV RX8 131 RX8 yX8_hiccupsOf wsX8_hiccupsOf) := goodIn_app (goodIn_of _ (by decide +kernel)) ggX8_digest_X8_hiccupsOf
set_option maxRecDepth 20000 in
theorem ggX8_digest_X8_levelOf : GoodIn wsX8_digest wsX8_levelOf := goodIn_r _ [65, 49, 39, 40, 41, 6, 42, 43, 44, 45, 46, 47, 38, 17, 48, 19, 20, 21, 22, 23, 24, 25, 26, 27, 28, 29, 30, 50, 51, 52, 53, 54, 55, 56, 57, 58, 59, 60, 61, 8, 137, 138, 139, 140, 141, 142, 143, 144, 145, 146, 147, 148, 149, 150, 151, 152, 153, 154, 155, 156, 157, 158, 159] (by decide +kernel) (by decide +kernel)
set_option maxRecDepth 20000 in
theorem gX8_digest_X8_levelOf : GoodIn wsX8_digest (wsV RX8 128 RX8 yX8_levelOf wsX8_levelOf) := goodIn_app (goodIn_of _ (by decide +kernel)) ggX8_digest_X8_levelOf
set_option maxRecDepth 20000 in
theorem ggX8_digest_X8_heardOf : GoodIn wsX8_digest wsX8_heardOf := goodIn_r _ [69, 70, 39, 40, 41, 6, 42, 43, 44, 45, 46, 47, 38, 17, 48, 49, 19, 20, 21, 22, 23, 24, 25, 26, 27, 28, 29, 30, 50, 51, 52, 53, 54, 55, 56, 57, 58, 59, 60, 61, 8, 71, 72, 73, 74, 137, 138, 139, 140, 141, 142, 143, 144, 145, 146, 147, 148, 149, 150, 151, 152, 153, 154, 155, 156, 157, 158, 159] (by decide +kernel) (by decide +kernel)
set_option maxRecDepth 20000 in
theorem gX8_digest_X8_heardOf : GoodIn wsX8_digest (wsV RX8 169 RX8 yX8_heardOf wsX8_heardOf) := goodIn_app (goodIn_of _ (by decide +kernel)) ggX8_digest_X8_heardOf
set_option maxRecDepth 20000 in
theorem ggX8_digest_X8_frightOf : GoodIn wsX8_digest wsX8_frightOf := goodIn_r _ [78, 10, 79, 38, 80, 81, 43, 44, 45, 6, 46, 47, 17, 48, 49, 19, 20, 21, 22, 23, 24, 25, 26, 27, 28, 29, 30, 50, 51, 52, 53, 54, 55, 56, 57, 58, 59, 60, 61, 8, 137, 138, 139, 140, 141, 142, 143, 144, 145, 146, 147, 148, 149, 150, 151, 152, 153, 154, 155, 156, 157, 158, 159] (by decide +kernel) (by decide +kernel)
set_option maxRecDepth 20000 in
theorem gX8_digest_X8_frightOf : GoodIn wsX8_digest (wsV RX8 192 RX8 yX8_frightOf wsX8_frightOf) := goodIn_app (goodIn_of _ (by decide +kernel)) ggX8_digest_X8_frightOf
set_option maxRecDepth 20000 in
theorem ggX8_digest_X8_brokenBy : GoodIn wsX8_digest wsX8_brokenBy := goodIn_r _ [85, 38, 86, 39, 40, 41, 6, 42, 43, 44, 45, 46, 47, 17, 48, 49, 19, 20, 21, 22, 23, 24, 25, 26, 27, 28, 29, 30, 50, 51, 52, 53, 54, 55, 56, 57, 58, 59, 60, 61, 8, 137, 138, 139, 140, 141, 142, 143, 144, 145, 146, 147, 148, 149, 150, 151, 152, 153, 154, 155, 156, 157, 158, 159] (by decide +kernel) (by decide +kernel)
set_option maxRecDepth 20000 in
theorem gX8_digest_X8_brokenBy : GoodIn wsX8_digest (wsV RX8 135 RX8 yX8_brokenBy wsX8_brokenBy) := goodIn_app (goodIn_of _ (by decide +kernel)) ggX8_digest_X8_brokenBy
set_option maxRecDepth 20000 in
theorem ggX8_digest_X8_judgedNow : GoodIn wsX8_digest wsX8_judgedNow := goodIn_r _ [90, 9, 82, 83, 84, 6, 85, 38, 86, 39, 40, 41, 42, 43, 44, 45, 46, 47, 17, 48, 49, 19, 20, 21, 22, 23, 24, 25, 26, 27, 28, 29, 30, 50, 51, 52, 53, 54, 55, 56, 57, 58, 59, 60, 61, 8, 91, 92, 93, 137, 138, 139, 140, 141, 142, 143, 144, 145, 146, 147, 148, 149, 150, 151, 152, 153, 154, 155, 156, 157, 158, 159] (by decide +kernel) (by decide +kernel)
set_option maxRecDepth 20000 in
theorem gX8_digest_X8_judgedNow : GoodIn wsX8_digest (wsV RX8 141 RX8 yX8_judgedNow wsX8_judgedNow) := goodIn_app (goodIn_of _ (by decide +kernel)) ggX8_digest_X8_judgedNow
set_option maxRecDepth 20000 in
theorem ggX8_digest_X8_armisticeOf : GoodIn wsX8_digest wsX8_armisticeOf := goodIn_r _ [97, 9, 82, 83, 84, 6, 85, 38, 86, 39, 40, 41, 42, 43, 44, 45, 46, 47, 17, 48, 49, 19, 20, 21, 22, 23, 24, 25, 26, 27, 28, 29, 30, 50, 51, 52, 53, 54, 55, 56, 57, 58, 59, 60, 61, 8, 91, 92, 93, 137, 138, 139, 140, 141, 142, 143, 144, 145, 146, 147, 148, 149, 150, 151, 152, 153, 154, 155, 156, 157, 158, 159] (by decide +kernel) (by decide +kernel)
set_option maxRecDepth 20000 in
theorem gX8_digest_X8_armisticeOf : GoodIn wsX8_digest (wsV RX8 145 RX8 yX8_armisticeOf wsX8_armisticeOf) := goodIn_app (goodIn_of _ (by decide +kernel)) ggX8_digest_X8_armisticeOf
set_option maxRecDepth 20000 in
theorem ggX8_digest_X8_oddsOf : GoodIn wsX8_digest wsX8_oddsOf := goodIn_r _ [101, 102, 39, 40, 41, 6, 42, 43, 44, 45, 46, 47, 38, 17, 48, 49, 19, 20, 21, 22, 23, 24, 25, 26, 27, 28, 29, 30, 50, 51, 52, 53, 54, 55, 56, 57, 58, 59, 60, 61, 8, 71, 72, 73, 74, 103, 104, 105, 137, 138, 139, 140, 141, 142, 143, 144, 145, 146, 147, 148, 149, 150, 151, 152, 153, 154, 155, 156, 157, 158, 159] (by decide +kernel) (by decide +kernel)
set_option maxRecDepth 20000 in
theorem gX8_digest_X8_oddsOf : GoodIn wsX8_digest (wsV RX8 160 RX8 yX8_oddsOf wsX8_oddsOf) := goodIn_app (goodIn_of _ (by decide +kernel)) ggX8_digest_X8_oddsOf
set_option maxRecDepth 20000 in
theorem ggX8_digest_X8_quietOf : GoodIn wsX8_digest wsX8_quietOf := goodIn_r _ [109, 38, 110, 111, 16, 47, 49, 39, 40, 41, 6, 42, 43, 44, 45, 46, 17, 48, 19, 20, 21, 22, 23, 24, 25, 26, 27, 28, 29, 30, 50, 51, 52, 53, 54, 55, 56, 57, 58, 59, 60, 61, 8, 91, 92, 93, 112, 113, 114, 115, 9, 18, 137, 138, 139, 140, 141, 142, 143, 144, 145, 146, 147, 148, 149, 150, 151, 152, 153, 154, 155, 156, 157, 158, 159] (by decide +kernel) (by decide +kernel)
set_option maxRecDepth 20000 in
theorem gX8_digest_X8_quietOf : GoodIn wsX8_digest (wsV RX8 177 RX8 yX8_quietOf wsX8_quietOf) := goodIn_app (goodIn_of _ (by decide +kernel)) ggX8_digest_X8_quietOf
set_option maxRecDepth 20000 in
theorem ggX8_digest_X8_forceOf : GoodIn wsX8_digest wsX8_forceOf := goodIn_r _ [119, 120, 47, 49, 39, 40, 41, 6, 42, 43, 44, 45, 46, 38, 17, 48, 19, 20, 21, 22, 23, 24, 25, 26, 27, 28, 29, 30, 50, 51, 52, 53, 54, 55, 56, 57, 58, 59, 60, 61, 8, 121, 122, 123, 124, 18, 91, 92, 93, 137, 138, 139, 140, 141, 142, 143, 144, 145, 146, 147, 148, 149, 150, 151, 152, 153, 154, 155, 156, 157, 158, 159] (by decide +kernel) (by decide +kernel)
set_option maxRecDepth 20000 in
theorem gX8_digest_X8_forceOf : GoodIn wsX8_digest (wsV RX8 185 RX8 yX8_forceOf wsX8_forceOf) := goodIn_app (goodIn_of _ (by decide +kernel)) ggX8_digest_X8_forceOf
set_option maxRecDepth 20000 in
theorem ggX8_digest_X8_unlikeNow : GoodIn wsX8_digest wsX8_unlikeNow := goodIn_r _ [128, 10, 38, 79, 80, 81, 39, 40, 41, 6, 42, 43, 44, 45, 46, 47, 17, 48, 49, 19, 20, 21, 22, 23, 24, 25, 26, 27, 28, 29, 30, 50, 51, 52, 53, 54, 55, 56, 57, 58, 59, 60, 61, 8, 137, 138, 139, 140, 141, 142, 143, 144, 145, 146, 147, 148, 149, 150, 151, 152, 153, 154, 155, 156, 157, 158, 159] (by decide +kernel) (by decide +kernel)
set_option maxRecDepth 20000 in
theorem gX8_digest_X8_unlikeNow : GoodIn wsX8_digest (wsV RX8 195 RX8 yX8_unlikeNow wsX8_unlikeNow) := goodIn_app (goodIn_of _ (by decide +kernel)) ggX8_digest_X8_unlikeNow
set_option maxRecDepth 20000 in
theorem ggX8_digest_X8_parrotOf : GoodIn wsX8_digest wsX8_parrotOf := goodIn_r _ [132, 38, 86, 39, 40, 41, 6, 42, 43, 44, 45, 46, 47, 17, 48, 49, 19, 20, 21, 22, 23, 24, 25, 26, 27, 28, 29, 30, 50, 51, 52, 53, 54, 55, 56, 57, 58, 59, 60, 61, 8, 137, 138, 139, 140, 141, 142, 143, 144, 145, 146, 147, 148, 149, 150, 151, 152, 153, 154, 155, 156, 157, 158, 159] (by decide +kernel) (by decide +kernel)
set_option maxRecDepth 20000 in
theorem gX8_digest_X8_parrotOf : GoodIn wsX8_digest (wsV RX8 198 RX8 yX8_parrotOf wsX8_parrotOf) := goodIn_app (goodIn_of _ (by decide +kernel)) ggX8_digest_X8_parrotOf
set_option maxRecDepth 20000 in
theorem ggX8_digest_X8_trainedOf : GoodIn wsX8_digest wsX8_trainedOf := goodIn_r _ [136, 38, 39, 40, 41, 6, 42, 43, 44, 45, 46, 47, 17, 48, 49, 19, 20, 21, 22, 23, 24, 25, 26, 27, 28, 29, 30, 50, 51, 52, 53, 54, 55, 56, 57, 58, 59, 60, 61, 8, 31, 32, 33, 137, 138, 139, 140, 141, 142, 143, 144, 145, 146, 147, 148, 149, 150, 151, 152, 153, 154, 155, 156, 157, 158, 159] (by decide +kernel) (by decide +kernel)
set_option maxRecDepth 20000 in
theorem gX8_digest_X8_trainedOf : GoodIn wsX8_digest (wsV RX8 204 RX8 yX8_trainedOf wsX8_trainedOf) := goodIn_app (goodIn_of _ (by decide +kernel)) ggX8_digest_X8_trainedOf
theorem dX8_digest_0 : decode cX8_digest 0 = .ok (.ldc2_w 220, 3) := by decide +kernel
theorem dX8_digest_3 : decode cX8_digest 3 = .ok (.lstore_n 1, 1) := by decide +kernel
theorem dX8_digest_4 : decode cX8_digest 4 = .ok (.iconst 0, 1) := by decide +kernel
theorem dX8_digest_5 : decode cX8_digest 5 = .ok (.istore_n 3, 1) := by decide +kernel
theorem dX8_digest_6 : decode cX8_digest 6 = .ok (.iload_n 3, 1) := by decide +kernel
theorem dX8_digest_7 : decode cX8_digest 7 = .ok (.bipush 8, 2) := by decide +kernel
theorem dX8_digest_9 : decode cX8_digest 9 = .ok (.if_icmp .ge 22, 3) := by decide +kernel
theorem dX8_digest_12 : decode cX8_digest 12 = .ok (.ldc2_w 222, 3) := by decide +kernel
theorem dX8_digest_15 : decode cX8_digest 15 = .ok (.lload_n 1, 1) := by decide +kernel
theorem dX8_digest_16 : decode cX8_digest 16 = .ok (.lmul, 1) := by decide +kernel
theorem dX8_digest_17 : decode cX8_digest 17 = .ok (.aload_n 0, 1) := by decide +kernel
theorem dX8_digest_18 : decode cX8_digest 18 = .ok (.iload_n 3, 1) := by decide +kernel
theorem dX8_digest_19 : decode cX8_digest 19 = .ok (.invokevirtual 224, 3) := by decide +kernel
theorem dX8_digest_22 : decode cX8_digest 22 = .ok (.i2l, 1) := by decide +kernel
theorem dX8_digest_23 : decode cX8_digest 23 = .ok (.ladd, 1) := by decide +kernel
theorem dX8_digest_24 : decode cX8_digest 24 = .ok (.lstore_n 1, 1) := by decide +kernel
theorem dX8_digest_25 : decode cX8_digest 25 = .ok (.iinc 3 1, 3) := by decide +kernel
theorem dX8_digest_28 : decode cX8_digest 28 = .ok (.goto (-22), 3) := by decide +kernel
theorem dX8_digest_31 : decode cX8_digest 31 = .ok (.iconst 0, 1) := by decide +kernel
theorem dX8_digest_32 : decode cX8_digest 32 = .ok (.istore_n 3, 1) := by decide +kernel
theorem dX8_digest_33 : decode cX8_digest 33 = .ok (.iload_n 3, 1) := by decide +kernel
theorem dX8_digest_34 : decode cX8_digest 34 = .ok (.iconst 3, 1) := by decide +kernel
theorem dX8_digest_35 : decode cX8_digest 35 = .ok (.if_icmp .ge 107, 3) := by decide +kernel
theorem dX8_digest_38 : decode cX8_digest 38 = .ok (.ldc2_w 222, 3) := by decide +kernel
theorem dX8_digest_41 : decode cX8_digest 41 = .ok (.lload_n 1, 1) := by decide +kernel
theorem dX8_digest_42 : decode cX8_digest 42 = .ok (.lmul, 1) := by decide +kernel
theorem dX8_digest_43 : decode cX8_digest 43 = .ok (.aload_n 0, 1) := by decide +kernel
theorem dX8_digest_44 : decode cX8_digest 44 = .ok (.iload_n 3, 1) := by decide +kernel
theorem dX8_digest_45 : decode cX8_digest 45 = .ok (.invokevirtual 83, 3) := by decide +kernel
theorem dX8_digest_48 : decode cX8_digest 48 = .ok (.i2l, 1) := by decide +kernel
theorem dX8_digest_49 : decode cX8_digest 49 = .ok (.ladd, 1) := by decide +kernel
theorem dX8_digest_50 : decode cX8_digest 50 = .ok (.lstore_n 1, 1) := by decide +kernel
theorem dX8_digest_51 : decode cX8_digest 51 = .ok (.ldc2_w 222, 3) := by decide +kernel
theorem dX8_digest_54 : decode cX8_digest 54 = .ok (.lload_n 1, 1) := by decide +kernel
theorem dX8_digest_55 : decode cX8_digest 55 = .ok (.lmul, 1) := by decide +kernel
theorem dX8_digest_56 : decode cX8_digest 56 = .ok (.aload_n 0, 1) := by decide +kernel
theorem dX8_digest_57 : decode cX8_digest 57 = .ok (.iload_n 3, 1) := by decide +kernel
theorem dX8_digest_58 : decode cX8_digest 58 = .ok (.invokevirtual 131, 3) := by decide +kernel
theorem dX8_digest_61 : decode cX8_digest 61 = .ok (.i2l, 1) := by decide +kernel
theorem dX8_digest_62 : decode cX8_digest 62 = .ok (.ladd, 1) := by decide +kernel
theorem dX8_digest_63 : decode cX8_digest 63 = .ok (.lstore_n 1, 1) := by decide +kernel
theorem dX8_digest_64 : decode cX8_digest 64 = .ok (.ldc2_w 222, 3) := by decide +kernel
theorem dX8_digest_67 : decode cX8_digest 67 = .ok (.lload_n 1, 1) := by decide +kernel
theorem dX8_digest_68 : decode cX8_digest 68 = .ok (.lmul, 1) := by decide +kernel
theorem dX8_digest_69 : decode cX8_digest 69 = .ok (.aload_n 0, 1) := by decide +kernel
theorem dX8_digest_70 : decode cX8_digest 70 = .ok (.iload_n 3, 1) := by decide +kernel
theorem dX8_digest_71 : decode cX8_digest 71 = .ok (.iconst 0, 1) := by decide +kernel
theorem dX8_digest_72 : decode cX8_digest 72 = .ok (.invokevirtual 128, 3) := by decide +kernel
theorem dX8_digest_75 : decode cX8_digest 75 = .ok (.i2l, 1) := by decide +kernel
theorem dX8_digest_76 : decode cX8_digest 76 = .ok (.ladd, 1) := by decide +kernel
theorem dX8_digest_77 : decode cX8_digest 77 = .ok (.lstore_n 1, 1) := by decide +kernel
theorem dX8_digest_78 : decode cX8_digest 78 = .ok (.ldc2_w 222, 3) := by decide +kernel
theorem dX8_digest_81 : decode cX8_digest 81 = .ok (.lload_n 1, 1) := by decide +kernel
theorem dX8_digest_82 : decode cX8_digest 82 = .ok (.lmul, 1) := by decide +kernel
theorem dX8_digest_83 : decode cX8_digest 83 = .ok (.aload_n 0, 1) := by decide +kernel
theorem dX8_digest_84 : decode cX8_digest 84 = .ok (.iload_n 3, 1) := by decide +kernel
theorem dX8_digest_85 : decode cX8_digest 85 = .ok (.bipush 9, 2) := by decide +kernel
theorem dX8_digest_87 : decode cX8_digest 87 = .ok (.invokevirtual 128, 3) := by decide +kernel
theorem dX8_digest_90 : decode cX8_digest 90 = .ok (.i2l, 1) := by decide +kernel
theorem dX8_digest_91 : decode cX8_digest 91 = .ok (.ladd, 1) := by decide +kernel
theorem dX8_digest_92 : decode cX8_digest 92 = .ok (.lstore_n 1, 1) := by decide +kernel
theorem dX8_digest_93 : decode cX8_digest 93 = .ok (.ldc2_w 222, 3) := by decide +kernel
theorem dX8_digest_96 : decode cX8_digest 96 = .ok (.lload_n 1, 1) := by decide +kernel
theorem dX8_digest_97 : decode cX8_digest 97 = .ok (.lmul, 1) := by decide +kernel
theorem dX8_digest_98 : decode cX8_digest 98 = .ok (.aload_n 0, 1) := by decide +kernel
theorem dX8_digest_99 : decode cX8_digest 99 = .ok (.iload_n 3, 1) := by decide +kernel
theorem dX8_digest_100 : decode cX8_digest 100 = .ok (.bipush 23, 2) := by decide +kernel
theorem dX8_digest_102 : decode cX8_digest 102 = .ok (.invokevirtual 128, 3) := by decide +kernel
theorem dX8_digest_105 : decode cX8_digest 105 = .ok (.i2l, 1) := by decide +kernel
theorem dX8_digest_106 : decode cX8_digest 106 = .ok (.ladd, 1) := by decide +kernel
theorem dX8_digest_107 : decode cX8_digest 107 = .ok (.lstore_n 1, 1) := by decide +kernel
theorem dX8_digest_108 : decode cX8_digest 108 = .ok (.ldc2_w 222, 3) := by decide +kernel
theorem dX8_digest_111 : decode cX8_digest 111 = .ok (.lload_n 1, 1) := by decide +kernel
theorem dX8_digest_112 : decode cX8_digest 112 = .ok (.lmul, 1) := by decide +kernel
theorem dX8_digest_113 : decode cX8_digest 113 = .ok (.aload_n 0, 1) := by decide +kernel
theorem dX8_digest_114 : decode cX8_digest 114 = .ok (.iload_n 3, 1) := by decide +kernel
theorem dX8_digest_115 : decode cX8_digest 115 = .ok (.bipush 7, 2) := by decide +kernel
theorem dX8_digest_117 : decode cX8_digest 117 = .ok (.invokevirtual 169, 3) := by decide +kernel
theorem dX8_digest_120 : decode cX8_digest 120 = .ok (.i2l, 1) := by decide +kernel
theorem dX8_digest_121 : decode cX8_digest 121 = .ok (.ladd, 1) := by decide +kernel
theorem dX8_digest_122 : decode cX8_digest 122 = .ok (.lstore_n 1, 1) := by decide +kernel
theorem dX8_digest_123 : decode cX8_digest 123 = .ok (.ldc2_w 222, 3) := by decide +kernel
theorem dX8_digest_126 : decode cX8_digest 126 = .ok (.lload_n 1, 1) := by decide +kernel
theorem dX8_digest_127 : decode cX8_digest 127 = .ok (.lmul, 1) := by decide +kernel
theorem dX8_digest_128 : decode cX8_digest 128 = .ok (.aload_n 0, 1) := by decide +kernel
theorem dX8_digest_129 : decode cX8_digest 129 = .ok (.iload_n 3, 1) := by decide +kernel
theorem dX8_digest_130 : decode cX8_digest 130 = .ok (.invokevirtual 192, 3) := by decide +kernel
theorem dX8_digest_133 : decode cX8_digest 133 = .ok (.i2l, 1) := by decide +kernel
theorem dX8_digest_134 : decode cX8_digest 134 = .ok (.ladd, 1) := by decide +kernel
theorem dX8_digest_135 : decode cX8_digest 135 = .ok (.lstore_n 1, 1) := by decide +kernel
theorem dX8_digest_136 : decode cX8_digest 136 = .ok (.iinc 3 1, 3) := by decide +kernel
theorem dX8_digest_139 : decode cX8_digest 139 = .ok (.goto (-106), 3) := by decide +kernel
theorem dX8_digest_142 : decode cX8_digest 142 = .ok (.iconst 0, 1) := by decide +kernel
theorem dX8_digest_143 : decode cX8_digest 143 = .ok (.istore_n 3, 1) := by decide +kernel
theorem dX8_digest_144 : decode cX8_digest 144 = .ok (.iload_n 3, 1) := by decide +kernel
theorem dX8_digest_145 : decode cX8_digest 145 = .ok (.iconst 3, 1) := by decide +kernel
theorem dX8_digest_146 : decode cX8_digest 146 = .ok (.if_icmp .ge 22, 3) := by decide +kernel
theorem dX8_digest_149 : decode cX8_digest 149 = .ok (.ldc2_w 222, 3) := by decide +kernel
theorem dX8_digest_152 : decode cX8_digest 152 = .ok (.lload_n 1, 1) := by decide +kernel
theorem dX8_digest_153 : decode cX8_digest 153 = .ok (.lmul, 1) := by decide +kernel
theorem dX8_digest_154 : decode cX8_digest 154 = .ok (.aload_n 0, 1) := by decide +kernel
theorem dX8_digest_155 : decode cX8_digest 155 = .ok (.iload_n 3, 1) := by decide +kernel
theorem dX8_digest_156 : decode cX8_digest 156 = .ok (.invokevirtual 135, 3) := by decide +kernel
theorem dX8_digest_159 : decode cX8_digest 159 = .ok (.i2l, 1) := by decide +kernel
theorem dX8_digest_160 : decode cX8_digest 160 = .ok (.ladd, 1) := by decide +kernel
theorem dX8_digest_161 : decode cX8_digest 161 = .ok (.lstore_n 1, 1) := by decide +kernel
theorem dX8_digest_162 : decode cX8_digest 162 = .ok (.iinc 3 1, 3) := by decide +kernel
theorem dX8_digest_165 : decode cX8_digest 165 = .ok (.goto (-21), 3) := by decide +kernel
theorem dX8_digest_168 : decode cX8_digest 168 = .ok (.ldc2_w 222, 3) := by decide +kernel
theorem dX8_digest_171 : decode cX8_digest 171 = .ok (.lload_n 1, 1) := by decide +kernel
theorem dX8_digest_172 : decode cX8_digest 172 = .ok (.lmul, 1) := by decide +kernel
theorem dX8_digest_173 : decode cX8_digest 173 = .ok (.aload_n 0, 1) := by decide +kernel
theorem dX8_digest_174 : decode cX8_digest 174 = .ok (.invokevirtual 141, 3) := by decide +kernel
theorem dX8_digest_177 : decode cX8_digest 177 = .ok (.i2l, 1) := by decide +kernel
theorem dX8_digest_178 : decode cX8_digest 178 = .ok (.ladd, 1) := by decide +kernel
theorem dX8_digest_179 : decode cX8_digest 179 = .ok (.lstore_n 1, 1) := by decide +kernel
theorem dX8_digest_180 : decode cX8_digest 180 = .ok (.ldc2_w 222, 3) := by decide +kernel
theorem dX8_digest_183 : decode cX8_digest 183 = .ok (.lload_n 1, 1) := by decide +kernel
theorem dX8_digest_184 : decode cX8_digest 184 = .ok (.lmul, 1) := by decide +kernel
theorem dX8_digest_185 : decode cX8_digest 185 = .ok (.aload_n 0, 1) := by decide +kernel
theorem dX8_digest_186 : decode cX8_digest 186 = .ok (.iconst 0, 1) := by decide +kernel
theorem dX8_digest_187 : decode cX8_digest 187 = .ok (.invokevirtual 145, 3) := by decide +kernel
theorem dX8_digest_190 : decode cX8_digest 190 = .ok (.i2l, 1) := by decide +kernel
theorem dX8_digest_191 : decode cX8_digest 191 = .ok (.ladd, 1) := by decide +kernel
theorem dX8_digest_192 : decode cX8_digest 192 = .ok (.lstore_n 1, 1) := by decide +kernel
theorem dX8_digest_193 : decode cX8_digest 193 = .ok (.ldc2_w 222, 3) := by decide +kernel
theorem dX8_digest_196 : decode cX8_digest 196 = .ok (.lload_n 1, 1) := by decide +kernel
theorem dX8_digest_197 : decode cX8_digest 197 = .ok (.lmul, 1) := by decide +kernel
theorem dX8_digest_198 : decode cX8_digest 198 = .ok (.aload_n 0, 1) := by decide +kernel
theorem dX8_digest_199 : decode cX8_digest 199 = .ok (.iconst 1, 1) := by decide +kernel
theorem dX8_digest_200 : decode cX8_digest 200 = .ok (.invokevirtual 145, 3) := by decide +kernel
theorem dX8_digest_203 : decode cX8_digest 203 = .ok (.i2l, 1) := by decide +kernel
theorem dX8_digest_204 : decode cX8_digest 204 = .ok (.ladd, 1) := by decide +kernel
theorem dX8_digest_205 : decode cX8_digest 205 = .ok (.lstore_n 1, 1) := by decide +kernel
theorem dX8_digest_206 : decode cX8_digest 206 = .ok (.ldc2_w 222, 3) := by decide +kernel
theorem dX8_digest_209 : decode cX8_digest 209 = .ok (.lload_n 1, 1) := by decide +kernel
theorem dX8_digest_210 : decode cX8_digest 210 = .ok (.lmul, 1) := by decide +kernel
theorem dX8_digest_211 : decode cX8_digest 211 = .ok (.aload_n 0, 1) := by decide +kernel
theorem dX8_digest_212 : decode cX8_digest 212 = .ok (.iconst 4, 1) := by decide +kernel
theorem dX8_digest_213 : decode cX8_digest 213 = .ok (.iconst 5, 1) := by decide +kernel
theorem dX8_digest_214 : decode cX8_digest 214 = .ok (.iconst 0, 1) := by decide +kernel
theorem dX8_digest_215 : decode cX8_digest 215 = .ok (.invokevirtual 160, 3) := by decide +kernel
theorem dX8_digest_218 : decode cX8_digest 218 = .ok (.ladd, 1) := by decide +kernel
theorem dX8_digest_219 : decode cX8_digest 219 = .ok (.lstore_n 1, 1) := by decide +kernel
theorem dX8_digest_220 : decode cX8_digest 220 = .ok (.ldc2_w 222, 3) := by decide +kernel
theorem dX8_digest_223 : decode cX8_digest 223 = .ok (.lload_n 1, 1) := by decide +kernel
theorem dX8_digest_224 : decode cX8_digest 224 = .ok (.lmul, 1) := by decide +kernel
theorem dX8_digest_225 : decode cX8_digest 225 = .ok (.aload_n 0, 1) := by decide +kernel
theorem dX8_digest_226 : decode cX8_digest 226 = .ok (.iconst 4, 1) := by decide +kernel
theorem dX8_digest_227 : decode cX8_digest 227 = .ok (.iconst 5, 1) := by decide +kernel
theorem dX8_digest_228 : decode cX8_digest 228 = .ok (.iconst 1, 1) := by decide +kernel
theorem dX8_digest_229 : decode cX8_digest 229 = .ok (.invokevirtual 160, 3) := by decide +kernel
theorem dX8_digest_232 : decode cX8_digest 232 = .ok (.ladd, 1) := by decide +kernel
theorem dX8_digest_233 : decode cX8_digest 233 = .ok (.lstore_n 1, 1) := by decide +kernel
theorem dX8_digest_234 : decode cX8_digest 234 = .ok (.iconst 0, 1) := by decide +kernel
theorem dX8_digest_235 : decode cX8_digest 235 = .ok (.istore_n 3, 1) := by decide +kernel
theorem dX8_digest_236 : decode cX8_digest 236 = .ok (.iload_n 3, 1) := by decide +kernel
theorem dX8_digest_237 : decode cX8_digest 237 = .ok (.iconst 2, 1) := by decide +kernel
theorem dX8_digest_238 : decode cX8_digest 238 = .ok (.if_icmp .ge 43, 3) := by decide +kernel
theorem dX8_digest_241 : decode cX8_digest 241 = .ok (.ldc2_w 222, 3) := by decide +kernel
theorem dX8_digest_244 : decode cX8_digest 244 = .ok (.lload_n 1, 1) := by decide +kernel
theorem dX8_digest_245 : decode cX8_digest 245 = .ok (.lmul, 1) := by decide +kernel
theorem dX8_digest_246 : decode cX8_digest 246 = .ok (.aload_n 0, 1) := by decide +kernel
theorem dX8_digest_247 : decode cX8_digest 247 = .ok (.iload_n 3, 1) := by decide +kernel
theorem dX8_digest_248 : decode cX8_digest 248 = .ok (.iconst 2, 1) := by decide +kernel
theorem dX8_digest_249 : decode cX8_digest 249 = .ok (.bipush 9, 2) := by decide +kernel
theorem dX8_digest_251 : decode cX8_digest 251 = .ok (.iconst (-1), 1) := by decide +kernel
theorem dX8_digest_252 : decode cX8_digest 252 = .ok (.invokevirtual 177, 3) := by decide +kernel
theorem dX8_digest_255 : decode cX8_digest 255 = .ok (.i2l, 1) := by decide +kernel
theorem dX8_digest_256 : decode cX8_digest 256 = .ok (.ladd, 1) := by decide +kernel
theorem dX8_digest_257 : decode cX8_digest 257 = .ok (.lstore_n 1, 1) := by decide +kernel
theorem dX8_digest_258 : decode cX8_digest 258 = .ok (.ldc2_w 222, 3) := by decide +kernel
theorem dX8_digest_261 : decode cX8_digest 261 = .ok (.lload_n 1, 1) := by decide +kernel
theorem dX8_digest_262 : decode cX8_digest 262 = .ok (.lmul, 1) := by decide +kernel
theorem dX8_digest_263 : decode cX8_digest 263 = .ok (.aload_n 0, 1) := by decide +kernel
theorem dX8_digest_264 : decode cX8_digest 264 = .ok (.iload_n 3, 1) := by decide +kernel
theorem dX8_digest_265 : decode cX8_digest 265 = .ok (.iconst 2, 1) := by decide +kernel
theorem dX8_digest_266 : decode cX8_digest 266 = .ok (.bipush 9, 2) := by decide +kernel
theorem dX8_digest_268 : decode cX8_digest 268 = .ok (.iconst 0, 1) := by decide +kernel
theorem dX8_digest_269 : decode cX8_digest 269 = .ok (.invokevirtual 177, 3) := by decide +kernel
theorem dX8_digest_272 : decode cX8_digest 272 = .ok (.i2l, 1) := by decide +kernel
theorem dX8_digest_273 : decode cX8_digest 273 = .ok (.ladd, 1) := by decide +kernel
theorem dX8_digest_274 : decode cX8_digest 274 = .ok (.lstore_n 1, 1) := by decide +kernel
theorem dX8_digest_275 : decode cX8_digest 275 = .ok (.iinc 3 1, 3) := by decide +kernel
theorem dX8_digest_278 : decode cX8_digest 278 = .ok (.goto (-42), 3) := by decide +kernel
theorem dX8_digest_281 : decode cX8_digest 281 = .ok (.ldc2_w 222, 3) := by decide +kernel
theorem dX8_digest_284 : decode cX8_digest 284 = .ok (.lload_n 1, 1) := by decide +kernel
theorem dX8_digest_285 : decode cX8_digest 285 = .ok (.lmul, 1) := by decide +kernel
theorem dX8_digest_286 : decode cX8_digest 286 = .ok (.aload_n 0, 1) := by decide +kernel
theorem dX8_digest_287 : decode cX8_digest 287 = .ok (.iconst 3, 1) := by decide +kernel
theorem dX8_digest_288 : decode cX8_digest 288 = .ok (.bipush 6, 2) := by decide +kernel
theorem dX8_digest_290 : decode cX8_digest 290 = .ok (.iconst 0, 1) := by decide +kernel
theorem dX8_digest_291 : decode cX8_digest 291 = .ok (.invokevirtual 185, 3) := by decide +kernel
theorem dX8_digest_294 : decode cX8_digest 294 = .ok (.i2l, 1) := by decide +kernel
theorem dX8_digest_295 : decode cX8_digest 295 = .ok (.ladd, 1) := by decide +kernel
theorem dX8_digest_296 : decode cX8_digest 296 = .ok (.lstore_n 1, 1) := by decide +kernel
theorem dX8_digest_297 : decode cX8_digest 297 = .ok (.ldc2_w 222, 3) := by decide +kernel
theorem dX8_digest_300 : decode cX8_digest 300 = .ok (.lload_n 1, 1) := by decide +kernel
theorem dX8_digest_301 : decode cX8_digest 301 = .ok (.lmul, 1) := by decide +kernel
theorem dX8_digest_302 : decode cX8_digest 302 = .ok (.aload_n 0, 1) := by decide +kernel
theorem dX8_digest_303 : decode cX8_digest 303 = .ok (.iconst 3, 1) := by decide +kernel
theorem dX8_digest_304 : decode cX8_digest 304 = .ok (.bipush 6, 2) := by decide +kernel
theorem dX8_digest_306 : decode cX8_digest 306 = .ok (.iconst 1, 1) := by decide +kernel
theorem dX8_digest_307 : decode cX8_digest 307 = .ok (.invokevirtual 185, 3) := by decide +kernel
theorem dX8_digest_310 : decode cX8_digest 310 = .ok (.i2l, 1) := by decide +kernel
theorem dX8_digest_311 : decode cX8_digest 311 = .ok (.ladd, 1) := by decide +kernel
theorem dX8_digest_312 : decode cX8_digest 312 = .ok (.lstore_n 1, 1) := by decide +kernel
theorem dX8_digest_313 : decode cX8_digest 313 = .ok (.ldc2_w 222, 3) := by decide +kernel
theorem dX8_digest_316 : decode cX8_digest 316 = .ok (.lload_n 1, 1) := by decide +kernel
theorem dX8_digest_317 : decode cX8_digest 317 = .ok (.lmul, 1) := by decide +kernel
theorem dX8_digest_318 : decode cX8_digest 318 = .ok (.aload_n 0, 1) := by decide +kernel
theorem dX8_digest_319 : decode cX8_digest 319 = .ok (.invokevirtual 195, 3) := by decide +kernel
theorem dX8_digest_322 : decode cX8_digest 322 = .ok (.i2l, 1) := by decide +kernel
theorem dX8_digest_323 : decode cX8_digest 323 = .ok (.ladd, 1) := by decide +kernel
theorem dX8_digest_324 : decode cX8_digest 324 = .ok (.lstore_n 1, 1) := by decide +kernel
theorem dX8_digest_325 : decode cX8_digest 325 = .ok (.ldc2_w 222, 3) := by decide +kernel
theorem dX8_digest_328 : decode cX8_digest 328 = .ok (.lload_n 1, 1) := by decide +kernel
theorem dX8_digest_329 : decode cX8_digest 329 = .ok (.lmul, 1) := by decide +kernel
theorem dX8_digest_330 : decode cX8_digest 330 = .ok (.aload_n 0, 1) := by decide +kernel
theorem dX8_digest_331 : decode cX8_digest 331 = .ok (.iconst 0, 1) := by decide +kernel
theorem dX8_digest_332 : decode cX8_digest 332 = .ok (.invokevirtual 198, 3) := by decide +kernel
theorem dX8_digest_335 : decode cX8_digest 335 = .ok (.i2l, 1) := by decide +kernel
theorem dX8_digest_336 : decode cX8_digest 336 = .ok (.ladd, 1) := by decide +kernel
theorem dX8_digest_337 : decode cX8_digest 337 = .ok (.lstore_n 1, 1) := by decide +kernel
theorem dX8_digest_338 : decode cX8_digest 338 = .ok (.ldc2_w 222, 3) := by decide +kernel
theorem dX8_digest_341 : decode cX8_digest 341 = .ok (.lload_n 1, 1) := by decide +kernel
theorem dX8_digest_342 : decode cX8_digest 342 = .ok (.lmul, 1) := by decide +kernel
theorem dX8_digest_343 : decode cX8_digest 343 = .ok (.aload_n 0, 1) := by decide +kernel
theorem dX8_digest_344 : decode cX8_digest 344 = .ok (.iconst 1, 1) := by decide +kernel
theorem dX8_digest_345 : decode cX8_digest 345 = .ok (.invokevirtual 198, 3) := by decide +kernel
theorem dX8_digest_348 : decode cX8_digest 348 = .ok (.i2l, 1) := by decide +kernel
theorem dX8_digest_349 : decode cX8_digest 349 = .ok (.ladd, 1) := by decide +kernel
theorem dX8_digest_350 : decode cX8_digest 350 = .ok (.lstore_n 1, 1) := by decide +kernel
theorem dX8_digest_351 : decode cX8_digest 351 = .ok (.iconst 0, 1) := by decide +kernel
theorem dX8_digest_352 : decode cX8_digest 352 = .ok (.istore_n 3, 1) := by decide +kernel
theorem dX8_digest_353 : decode cX8_digest 353 = .ok (.iload_n 3, 1) := by decide +kernel
theorem dX8_digest_354 : decode cX8_digest 354 = .ok (.iconst 3, 1) := by decide +kernel
theorem dX8_digest_355 : decode cX8_digest 355 = .ok (.if_icmp .ge 23, 3) := by decide +kernel
theorem dX8_digest_358 : decode cX8_digest 358 = .ok (.ldc2_w 222, 3) := by decide +kernel
theorem dX8_digest_361 : decode cX8_digest 361 = .ok (.lload_n 1, 1) := by decide +kernel
theorem dX8_digest_362 : decode cX8_digest 362 = .ok (.lmul, 1) := by decide +kernel
theorem dX8_digest_363 : decode cX8_digest 363 = .ok (.aload_n 0, 1) := by decide +kernel
theorem dX8_digest_364 : decode cX8_digest 364 = .ok (.iconst 0, 1) := by decide +kernel
theorem dX8_digest_365 : decode cX8_digest 365 = .ok (.iload_n 3, 1) := by decide +kernel
theorem dX8_digest_366 : decode cX8_digest 366 = .ok (.invokevirtual 204, 3) := by decide +kernel
theorem dX8_digest_369 : decode cX8_digest 369 = .ok (.i2l, 1) := by decide +kernel
theorem dX8_digest_370 : decode cX8_digest 370 = .ok (.ladd, 1) := by decide +kernel
theorem dX8_digest_371 : decode cX8_digest 371 = .ok (.lstore_n 1, 1) := by decide +kernel
theorem dX8_digest_372 : decode cX8_digest 372 = .ok (.iinc 3 1, 3) := by decide +kernel
theorem dX8_digest_375 : decode cX8_digest 375 = .ok (.goto (-22), 3) := by decide +kernel
theorem dX8_digest_378 : decode cX8_digest 378 = .ok (.lload_n 1, 1) := by decide +kernel
theorem dX8_digest_379 : decode cX8_digest 379 = .ok (.lreturn, 1) := by decide +kernel
theorem dJ6_bitCount_0f7a4_0 : decode cJ6_bitCount_0f7a4 0 = .ok (.iload_n 0, 1) := by decide +kernel
theorem dJ6_bitCount_0f7a4_1 : decode cJ6_bitCount_0f7a4 1 = .ok (.iload_n 0, 1) := by decide +kernel
theorem dJ6_bitCount_0f7a4_2 : decode cJ6_bitCount_0f7a4 2 = .ok (.iconst 1, 1) := by decide +kernel
theorem dJ6_bitCount_0f7a4_3 : decode cJ6_bitCount_0f7a4 3 = .ok (.iushr, 1) := by decide +kernel
theorem dJ6_bitCount_0f7a4_4 : decode cJ6_bitCount_0f7a4 4 = .ok (.ldc_w 265, 3) := by decide +kernel
theorem dJ6_bitCount_0f7a4_7 : decode cJ6_bitCount_0f7a4 7 = .ok (.iand, 1) := by decide +kernel
theorem dJ6_bitCount_0f7a4_8 : decode cJ6_bitCount_0f7a4 8 = .ok (.isub, 1) := by decide +kernel
theorem dJ6_bitCount_0f7a4_9 : decode cJ6_bitCount_0f7a4 9 = .ok (.istore_n 0, 1) := by decide +kernel
theorem dJ6_bitCount_0f7a4_10 : decode cJ6_bitCount_0f7a4 10 = .ok (.iload_n 0, 1) := by decide +kernel
theorem dJ6_bitCount_0f7a4_11 : decode cJ6_bitCount_0f7a4 11 = .ok (.ldc_w 266, 3) := by decide +kernel
theorem dJ6_bitCount_0f7a4_14 : decode cJ6_bitCount_0f7a4 14 = .ok (.iand, 1) := by decide +kernel
theorem dJ6_bitCount_0f7a4_15 : decode cJ6_bitCount_0f7a4 15 = .ok (.iload_n 0, 1) := by decide +kernel
theorem dJ6_bitCount_0f7a4_16 : decode cJ6_bitCount_0f7a4 16 = .ok (.iconst 2, 1) := by decide +kernel
theorem dJ6_bitCount_0f7a4_17 : decode cJ6_bitCount_0f7a4 17 = .ok (.iushr, 1) := by decide +kernel
theorem dJ6_bitCount_0f7a4_18 : decode cJ6_bitCount_0f7a4 18 = .ok (.ldc_w 266, 3) := by decide +kernel
theorem dJ6_bitCount_0f7a4_21 : decode cJ6_bitCount_0f7a4 21 = .ok (.iand, 1) := by decide +kernel
theorem dJ6_bitCount_0f7a4_22 : decode cJ6_bitCount_0f7a4 22 = .ok (.iadd, 1) := by decide +kernel
theorem dJ6_bitCount_0f7a4_23 : decode cJ6_bitCount_0f7a4 23 = .ok (.istore_n 0, 1) := by decide +kernel
theorem dJ6_bitCount_0f7a4_24 : decode cJ6_bitCount_0f7a4 24 = .ok (.iload_n 0, 1) := by decide +kernel
theorem dJ6_bitCount_0f7a4_25 : decode cJ6_bitCount_0f7a4 25 = .ok (.iload_n 0, 1) := by decide +kernel
theorem dJ6_bitCount_0f7a4_26 : decode cJ6_bitCount_0f7a4 26 = .ok (.iconst 4, 1) := by decide +kernel
theorem dJ6_bitCount_0f7a4_27 : decode cJ6_bitCount_0f7a4 27 = .ok (.iushr, 1) := by decide +kernel
theorem dJ6_bitCount_0f7a4_28 : decode cJ6_bitCount_0f7a4 28 = .ok (.iadd, 1) := by decide +kernel
theorem dJ6_bitCount_0f7a4_29 : decode cJ6_bitCount_0f7a4 29 = .ok (.ldc_w 267, 3) := by decide +kernel
theorem dJ6_bitCount_0f7a4_32 : decode cJ6_bitCount_0f7a4 32 = .ok (.iand, 1) := by decide +kernel
theorem dJ6_bitCount_0f7a4_33 : decode cJ6_bitCount_0f7a4 33 = .ok (.istore_n 0, 1) := by decide +kernel
theorem dJ6_bitCount_0f7a4_34 : decode cJ6_bitCount_0f7a4 34 = .ok (.iload_n 0, 1) := by decide +kernel
theorem dJ6_bitCount_0f7a4_35 : decode cJ6_bitCount_0f7a4 35 = .ok (.iload_n 0, 1) := by decide +kernel
theorem dJ6_bitCount_0f7a4_36 : decode cJ6_bitCount_0f7a4 36 = .ok (.bipush 8, 2) := by decide +kernel
theorem dJ6_bitCount_0f7a4_38 : decode cJ6_bitCount_0f7a4 38 = .ok (.iushr, 1) := by decide +kernel
theorem dJ6_bitCount_0f7a4_39 : decode cJ6_bitCount_0f7a4 39 = .ok (.iadd, 1) := by decide +kernel
theorem dJ6_bitCount_0f7a4_40 : decode cJ6_bitCount_0f7a4 40 = .ok (.istore_n 0, 1) := by decide +kernel
theorem dJ6_bitCount_0f7a4_41 : decode cJ6_bitCount_0f7a4 41 = .ok (.iload_n 0, 1) := by decide +kernel
theorem dJ6_bitCount_0f7a4_42 : decode cJ6_bitCount_0f7a4 42 = .ok (.iload_n 0, 1) := by decide +kernel
theorem dJ6_bitCount_0f7a4_43 : decode cJ6_bitCount_0f7a4 43 = .ok (.bipush 16, 2) := by decide +kernel
theorem dJ6_bitCount_0f7a4_45 : decode cJ6_bitCount_0f7a4 45 = .ok (.iushr, 1) := by decide +kernel
theorem dJ6_bitCount_0f7a4_46 : decode cJ6_bitCount_0f7a4 46 = .ok (.iadd, 1) := by decide +kernel
theorem dJ6_bitCount_0f7a4_47 : decode cJ6_bitCount_0f7a4 47 = .ok (.istore_n 0, 1) := by decide +kernel
theorem dJ6_bitCount_0f7a4_48 : decode cJ6_bitCount_0f7a4 48 = .ok (.iload_n 0, 1) := by decide +kernel
theorem dJ6_bitCount_0f7a4_49 : decode cJ6_bitCount_0f7a4 49 = .ok (.bipush 63, 2) := by decide +kernel
theorem dJ6_bitCount_0f7a4_51 : decode cJ6_bitCount_0f7a4 51 = .ok (.iand, 1) := by decide +kernel
