set_option maxRecDepth 20000 in
theorem ggX7_init_X7_firstTold : GoodIn wsX7_init wsX7_firstTold := goodIn_r _ [18] (by decide +kernel) (by decide +kernel)
set_option maxRecDepth 20000 in
theorem gX7_init_X7_firstTold : GoodIn wsX7_init (va_wsS RX7 38 yX7_firstTold wsX7_firstTold) := goodIn_app (goodIn_of _ (by decide +kernel)) ggX7_init_X7_firstTold
theorem dX7_init_0 : decode cX7_init 0 = .ok (.aload_n 0, 1) := by decide +kernel
theorem dX7_init_1 : decode cX7_init 1 = .ok (.invokespecial 1, 3) := by decide +kernel
theorem dX7_init_4 : decode cX7_init 4 = .ok (.aload_n 0, 1) := by decide +kernel
theorem dX7_init_5 : decode cX7_init 5 = .ok (.bipush 75, 2) := by decide +kernel
theorem dX7_init_7 : decode cX7_init 7 = .ok (.newarray .int, 2) := by decide +kernel
theorem dX7_init_9 : decode cX7_init 9 = .ok (.putfield 7, 3) := by decide +kernel
theorem dX7_init_12 : decode cX7_init 12 = .ok (.aload_n 0, 1) := by decide +kernel
theorem dX7_init_13 : decode cX7_init 13 = .ok (.sipush 150, 3) := by decide +kernel
theorem dX7_init_16 : decode cX7_init 16 = .ok (.newarray .int, 2) := by decide +kernel
theorem dX7_init_18 : decode cX7_init 18 = .ok (.putfield 13, 3) := by decide +kernel
theorem dX7_init_21 : decode cX7_init 21 = .ok (.aload_n 0, 1) := by decide +kernel
theorem dX7_init_22 : decode cX7_init 22 = .ok (.iconst 2, 1) := by decide +kernel
theorem dX7_init_23 : decode cX7_init 23 = .ok (.newarray .boolean, 2) := by decide +kernel
theorem dX7_init_25 : decode cX7_init 25 = .ok (.putfield 16, 3) := by decide +kernel
theorem dX7_init_28 : decode cX7_init 28 = .ok (.aload_n 0, 1) := by decide +kernel
theorem dX7_init_29 : decode cX7_init 29 = .ok (.sipush 160, 3) := by decide +kernel
theorem dX7_init_32 : decode cX7_init 32 = .ok (.newarray .int, 2) := by decide +kernel
theorem dX7_init_34 : decode cX7_init 34 = .ok (.putfield 20, 3) := by decide +kernel
theorem dX7_init_37 : decode cX7_init 37 = .ok (.aload_n 0, 1) := by decide +kernel
theorem dX7_init_38 : decode cX7_init 38 = .ok (.iconst 4, 1) := by decide +kernel
theorem dX7_init_39 : decode cX7_init 39 = .ok (.newarray .int, 2) := by decide +kernel
theorem dX7_init_41 : decode cX7_init 41 = .ok (.putfield 23, 3) := by decide +kernel
theorem dX7_init_44 : decode cX7_init 44 = .ok (.aload_n 0, 1) := by decide +kernel
theorem dX7_init_45 : decode cX7_init 45 = .ok (.iconst 4, 1) := by decide +kernel
theorem dX7_init_46 : decode cX7_init 46 = .ok (.newarray .int, 2) := by decide +kernel
theorem dX7_init_48 : decode cX7_init 48 = .ok (.putfield 26, 3) := by decide +kernel
theorem dX7_init_51 : decode cX7_init 51 = .ok (.aload_n 0, 1) := by decide +kernel
theorem dX7_init_52 : decode cX7_init 52 = .ok (.iconst 4, 1) := by decide +kernel
theorem dX7_init_53 : decode cX7_init 53 = .ok (.newarray .int, 2) := by decide +kernel
theorem dX7_init_55 : decode cX7_init 55 = .ok (.putfield 29, 3) := by decide +kernel
theorem dX7_init_58 : decode cX7_init 58 = .ok (.aload_n 0, 1) := by decide +kernel
theorem dX7_init_59 : decode cX7_init 59 = .ok (.sipush 1204, 3) := by decide +kernel
theorem dX7_init_62 : decode cX7_init 62 = .ok (.newarray .int, 2) := by decide +kernel
theorem dX7_init_64 : decode cX7_init 64 = .ok (.putfield 32, 3) := by decide +kernel
theorem dX7_init_67 : decode cX7_init 67 = .ok (.aload_n 0, 1) := by decide +kernel
theorem dX7_init_68 : decode cX7_init 68 = .ok (.sipush 600, 3) := by decide +kernel
theorem dX7_init_71 : decode cX7_init 71 = .ok (.newarray .int, 2) := by decide +kernel
theorem dX7_init_73 : decode cX7_init 73 = .ok (.putfield 35, 3) := by decide +kernel
theorem dX7_init_76 : decode cX7_init 76 = .ok (.aload_n 0, 1) := by decide +kernel
theorem dX7_init_77 : decode cX7_init 77 = .ok (.getfield 7, 3) := by decide +kernel
theorem dX7_init_80 : decode cX7_init 80 = .ok (.iconst 0, 1) := by decide +kernel
theorem dX7_init_81 : decode cX7_init 81 = .ok (.bipush 12, 2) := by decide +kernel
theorem dX7_init_83 : decode cX7_init 83 = .ok (.iastore, 1) := by decide +kernel
theorem dX7_init_84 : decode cX7_init 84 = .ok (.aload_n 0, 1) := by decide +kernel
theorem dX7_init_85 : decode cX7_init 85 = .ok (.getfield 7, 3) := by decide +kernel
theorem dX7_init_88 : decode cX7_init 88 = .ok (.iconst 1, 1) := by decide +kernel
theorem dX7_init_89 : decode cX7_init 89 = .ok (.bipush 80, 2) := by decide +kernel
theorem dX7_init_91 : decode cX7_init 91 = .ok (.iastore, 1) := by decide +kernel
theorem dX7_init_92 : decode cX7_init 92 = .ok (.aload_n 0, 1) := by decide +kernel
theorem dX7_init_93 : decode cX7_init 93 = .ok (.getfield 7, 3) := by decide +kernel
theorem dX7_init_96 : decode cX7_init 96 = .ok (.iconst 2, 1) := by decide +kernel
theorem dX7_init_97 : decode cX7_init 97 = .ok (.bipush 20, 2) := by decide +kernel
theorem dX7_init_99 : decode cX7_init 99 = .ok (.iastore, 1) := by decide +kernel
theorem dX7_init_100 : decode cX7_init 100 = .ok (.aload_n 0, 1) := by decide +kernel
theorem dX7_init_101 : decode cX7_init 101 = .ok (.getfield 7, 3) := by decide +kernel
theorem dX7_init_104 : decode cX7_init 104 = .ok (.iconst 3, 1) := by decide +kernel
theorem dX7_init_105 : decode cX7_init 105 = .ok (.bipush 40, 2) := by decide +kernel
theorem dX7_init_107 : decode cX7_init 107 = .ok (.iastore, 1) := by decide +kernel
theorem dX7_init_108 : decode cX7_init 108 = .ok (.aload_n 0, 1) := by decide +kernel
theorem dX7_init_109 : decode cX7_init 109 = .ok (.getfield 7, 3) := by decide +kernel
theorem dX7_init_112 : decode cX7_init 112 = .ok (.bipush 15, 2) := by decide +kernel
theorem dX7_init_114 : decode cX7_init 114 = .ok (.iconst 1, 1) := by decide +kernel
theorem dX7_init_115 : decode cX7_init 115 = .ok (.iastore, 1) := by decide +kernel
theorem dX7_init_116 : decode cX7_init 116 = .ok (.aload_n 0, 1) := by decide +kernel
theorem dX7_init_117 : decode cX7_init 117 = .ok (.getfield 7, 3) := by decide +kernel
theorem dX7_init_120 : decode cX7_init 120 = .ok (.bipush 16, 2) := by decide +kernel
theorem dX7_init_122 : decode cX7_init 122 = .ok (.sipush 600, 3) := by decide +kernel
theorem dX7_init_125 : decode cX7_init 125 = .ok (.iastore, 1) := by decide +kernel
theorem dX7_init_126 : decode cX7_init 126 = .ok (.aload_n 0, 1) := by decide +kernel
theorem dX7_init_127 : decode cX7_init 127 = .ok (.getfield 7, 3) := by decide +kernel
theorem dX7_init_130 : decode cX7_init 130 = .ok (.bipush 17, 2) := by decide +kernel
theorem dX7_init_132 : decode cX7_init 132 = .ok (.sipush 200, 3) := by decide +kernel
theorem dX7_init_135 : decode cX7_init 135 = .ok (.iastore, 1) := by decide +kernel
theorem dX7_init_136 : decode cX7_init 136 = .ok (.aload_n 0, 1) := by decide +kernel
theorem dX7_init_137 : decode cX7_init 137 = .ok (.getfield 7, 3) := by decide +kernel
theorem dX7_init_140 : decode cX7_init 140 = .ok (.bipush 18, 2) := by decide +kernel
theorem dX7_init_142 : decode cX7_init 142 = .ok (.iconst 5, 1) := by decide +kernel
theorem dX7_init_143 : decode cX7_init 143 = .ok (.iastore, 1) := by decide +kernel
theorem dX7_init_144 : decode cX7_init 144 = .ok (.aload_n 0, 1) := by decide +kernel
theorem dX7_init_145 : decode cX7_init 145 = .ok (.getfield 7, 3) := by decide +kernel
theorem dX7_init_148 : decode cX7_init 148 = .ok (.bipush 19, 2) := by decide +kernel
theorem dX7_init_150 : decode cX7_init 150 = .ok (.bipush 9, 2) := by decide +kernel
theorem dX7_init_152 : decode cX7_init 152 = .ok (.iastore, 1) := by decide +kernel
theorem dX7_init_153 : decode cX7_init 153 = .ok (.aload_n 0, 1) := by decide +kernel
theorem dX7_init_154 : decode cX7_init 154 = .ok (.getfield 7, 3) := by decide +kernel
theorem dX7_init_157 : decode cX7_init 157 = .ok (.bipush 20, 2) := by decide +kernel
theorem dX7_init_159 : decode cX7_init 159 = .ok (.bipush 10, 2) := by decide +kernel
theorem dX7_init_161 : decode cX7_init 161 = .ok (.iastore, 1) := by decide +kernel
theorem dX7_init_162 : decode cX7_init 162 = .ok (.iconst 0, 1) := by decide +kernel
theorem dX7_init_163 : decode cX7_init 163 = .ok (.istore_n 1, 1) := by decide +kernel
theorem dX7_init_164 : decode cX7_init 164 = .ok (.iload_n 1, 1) := by decide +kernel
theorem dX7_init_165 : decode cX7_init 165 = .ok (.bipush 11, 2) := by decide +kernel
theorem dX7_init_167 : decode cX7_init 167 = .ok (.if_icmp .ge 21, 3) := by decide +kernel
theorem dX7_init_170 : decode cX7_init 170 = .ok (.aload_n 0, 1) := by decide +kernel
theorem dX7_init_171 : decode cX7_init 171 = .ok (.getfield 7, 3) := by decide +kernel
theorem dX7_init_174 : decode cX7_init 174 = .ok (.iconst 4, 1) := by decide +kernel
theorem dX7_init_175 : decode cX7_init 175 = .ok (.iload_n 1, 1) := by decide +kernel
theorem dX7_init_176 : decode cX7_init 176 = .ok (.iadd, 1) := by decide +kernel
theorem dX7_init_177 : decode cX7_init 177 = .ok (.iload_n 1, 1) := by decide +kernel
theorem dX7_init_178 : decode cX7_init 178 = .ok (.invokestatic 38, 3) := by decide +kernel
theorem dX7_init_181 : decode cX7_init 181 = .ok (.iastore, 1) := by decide +kernel
theorem dX7_init_182 : decode cX7_init 182 = .ok (.iinc 1 1, 3) := by decide +kernel
theorem dX7_init_185 : decode cX7_init 185 = .ok (.goto (-21), 3) := by decide +kernel
theorem dX7_init_188 : decode cX7_init 188 = .ok (.return_, 1) := by decide +kernel
theorem dX7_firstTold_0 : decode cX7_firstTold 0 = .ok (.iload_n 0, 1) := by decide +kernel
theorem dX7_firstTold_1 : decode cX7_firstTold 1 = .ok (.tableswitch 93 0 9 #[55, 57, 61, 65, 69, 73, 77, 81, 85, 89], 55) := by decide +kernel
theorem dX7_firstTold_56 : decode cX7_firstTold 56 = .ok (.iconst 0, 1) := by decide +kernel
theorem dX7_firstTold_57 : decode cX7_firstTold 57 = .ok (.ireturn, 1) := by decide +kernel
theorem dX7_firstTold_58 : decode cX7_firstTold 58 = .ok (.sipush 450, 3) := by decide +kernel
theorem dX7_firstTold_61 : decode cX7_firstTold 61 = .ok (.ireturn, 1) := by decide +kernel
theorem dX7_firstTold_62 : decode cX7_firstTold 62 = .ok (.sipush 600, 3) := by decide +kernel
theorem dX7_firstTold_65 : decode cX7_firstTold 65 = .ok (.ireturn, 1) := by decide +kernel
theorem dX7_firstTold_66 : decode cX7_firstTold 66 = .ok (.sipush 690, 3) := by decide +kernel
theorem dX7_firstTold_69 : decode cX7_firstTold 69 = .ok (.ireturn, 1) := by decide +kernel
theorem dX7_firstTold_70 : decode cX7_firstTold 70 = .ok (.sipush 740, 3) := by decide +kernel
theorem dX7_firstTold_73 : decode cX7_firstTold 73 = .ok (.ireturn, 1) := by decide +kernel
theorem dX7_firstTold_74 : decode cX7_firstTold 74 = .ok (.sipush 780, 3) := by decide +kernel
theorem dX7_firstTold_77 : decode cX7_firstTold 77 = .ok (.ireturn, 1) := by decide +kernel
theorem dX7_firstTold_78 : decode cX7_firstTold 78 = .ok (.sipush 820, 3) := by decide +kernel
theorem dX7_firstTold_81 : decode cX7_firstTold 81 = .ok (.ireturn, 1) := by decide +kernel
theorem dX7_firstTold_82 : decode cX7_firstTold 82 = .ok (.sipush 860, 3) := by decide +kernel
theorem dX7_firstTold_85 : decode cX7_firstTold 85 = .ok (.ireturn, 1) := by decide +kernel
theorem dX7_firstTold_86 : decode cX7_firstTold 86 = .ok (.sipush 900, 3) := by decide +kernel
theorem dX7_firstTold_89 : decode cX7_firstTold 89 = .ok (.ireturn, 1) := by decide +kernel
theorem dX7_firstTold_90 : decode cX7_firstTold 90 = .ok (.sipush 950, 3) := by decide +kernel
theorem dX7_firstTold_93 : decode cX7_firstTold 93 = .ok (.ireturn, 1) := by decide +kernel
theorem dX7_firstTold_94 : decode cX7_firstTold 94 = .ok (.sipush 1000, 3) := by decide +kernel
theorem dX7_firstTold_97 : decode cX7_firstTold 97 = .ok (.ireturn, 1) := by decide +kernel
theorem dX7_in_0 : decode cX7_in 0 = .ok (.iload_n 0, 1) := by decide +kernel
theorem dX7_in_1 : decode cX7_in 1 = .ok (.iload_n 1, 1) := by decide +kernel
theorem dX7_in_2 : decode cX7_in 2 = .ok (.if_icmp .lt 12, 3) := by decide +kernel
theorem dX7_in_5 : decode cX7_in 5 = .ok (.iload_n 0, 1) := by decide +kernel
theorem dX7_in_6 : decode cX7_in 6 = .ok (.iload_n 2, 1) := by decide +kernel
theorem dX7_in_7 : decode cX7_in 7 = .ok (.if_icmp .gt 7, 3) := by decide +kernel
theorem dX7_in_10 : decode cX7_in 10 = .ok (.iconst 1, 1) := by decide +kernel
theorem dX7_in_11 : decode cX7_in 11 = .ok (.goto 4, 3) := by decide +kernel
theorem dX7_in_14 : decode cX7_in 14 = .ok (.iconst 0, 1) := by decide +kernel
theorem dX7_in_15 : decode cX7_in 15 = .ok (.ireturn, 1) := by decide +kernel
set_option maxRecDepth 20000 in
theorem ggX7_wash_X7_in : GoodIn wsX7_wash wsX7_in := goodIn_r _ [5] (by decide +kernel) (by decide +kernel)
set_option maxRecDepth 20000 in
theorem gX7_wash_X7_in : GoodIn wsX7_wash (va_wsS RX7 42 yX7_in wsX7_in) := goodIn_app (goodIn_of _ (by decide +kernel)) ggX7_wash_X7_in
theorem dX7_wash_0 : decode cX7_wash 0 = .ok (.iload_n 1, 1) := by decide +kernel
theorem dX7_wash_1 : decode cX7_wash 1 = .ok (.iconst 1, 1) := by decide +kernel
theorem dX7_wash_2 : decode cX7_wash 2 = .ok (.bipush 30, 2) := by decide +kernel
theorem dX7_wash_4 : decode cX7_wash 4 = .ok (.invokestatic 42, 3) := by decide +kernel
theorem dX7_wash_7 : decode cX7_wash 7 = .ok (.ifCond .eq 35, 3) := by decide +kernel
theorem dX7_wash_10 : decode cX7_wash 10 = .ok (.iload_n 2, 1) := by decide +kernel
theorem dX7_wash_11 : decode cX7_wash 11 = .ok (.iconst 0, 1) := by decide +kernel
theorem dX7_wash_12 : decode cX7_wash 12 = .ok (.sipush 300, 3) := by decide +kernel
theorem dX7_wash_15 : decode cX7_wash 15 = .ok (.invokestatic 42, 3) := by decide +kernel
theorem dX7_wash_18 : decode cX7_wash 18 = .ok (.ifCond .eq 24, 3) := by decide +kernel
theorem dX7_wash_21 : decode cX7_wash 21 = .ok (.iload_n 3, 1) := by decide +kernel
theorem dX7_wash_22 : decode cX7_wash 22 = .ok (.iconst 0, 1) := by decide +kernel
theorem dX7_wash_23 : decode cX7_wash 23 = .ok (.bipush 99, 2) := by decide +kernel
theorem dX7_wash_25 : decode cX7_wash 25 = .ok (.invokestatic 42, 3) := by decide +kernel
theorem dX7_wash_28 : decode cX7_wash 28 = .ok (.ifCond .eq 14, 3) := by decide +kernel
theorem dX7_wash_31 : decode cX7_wash 31 = .ok (.iload 4, 2) := by decide +kernel
theorem dX7_wash_33 : decode cX7_wash 33 = .ok (.iconst 0, 1) := by decide +kernel
theorem dX7_wash_34 : decode cX7_wash 34 = .ok (.bipush 99, 2) := by decide +kernel
theorem dX7_wash_36 : decode cX7_wash 36 = .ok (.invokestatic 42, 3) := by decide +kernel
theorem dX7_wash_39 : decode cX7_wash 39 = .ok (.ifCond .ne 6, 3) := by decide +kernel
theorem dX7_wash_42 : decode cX7_wash 42 = .ok (.bipush (-2), 2) := by decide +kernel
theorem dX7_wash_44 : decode cX7_wash 44 = .ok (.ireturn, 1) := by decide +kernel
theorem dX7_wash_45 : decode cX7_wash 45 = .ok (.aload_n 0, 1) := by decide +kernel
theorem dX7_wash_46 : decode cX7_wash 46 = .ok (.getfield 7, 3) := by decide +kernel
theorem dX7_wash_49 : decode cX7_wash 49 = .ok (.iconst 0, 1) := by decide +kernel
theorem dX7_wash_50 : decode cX7_wash 50 = .ok (.iaload, 1) := by decide +kernel
theorem dX7_wash_51 : decode cX7_wash 51 = .ok (.istore 5, 2) := by decide +kernel
theorem dX7_wash_53 : decode cX7_wash 53 = .ok (.aload_n 0, 1) := by decide +kernel
theorem dX7_wash_54 : decode cX7_wash 54 = .ok (.getfield 7, 3) := by decide +kernel
theorem dX7_wash_57 : decode cX7_wash 57 = .ok (.iconst 0, 1) := by decide +kernel
theorem dX7_wash_58 : decode cX7_wash 58 = .ok (.iload_n 1, 1) := by decide +kernel
theorem dX7_wash_59 : decode cX7_wash 59 = .ok (.iastore, 1) := by decide +kernel
theorem dX7_wash_60 : decode cX7_wash 60 = .ok (.aload_n 0, 1) := by decide +kernel
theorem dX7_wash_61 : decode cX7_wash 61 = .ok (.getfield 7, 3) := by decide +kernel
theorem dX7_wash_64 : decode cX7_wash 64 = .ok (.iconst 1, 1) := by decide +kernel
theorem dX7_wash_65 : decode cX7_wash 65 = .ok (.iload_n 2, 1) := by decide +kernel
theorem dX7_wash_66 : decode cX7_wash 66 = .ok (.iastore, 1) := by decide +kernel
theorem dX7_wash_67 : decode cX7_wash 67 = .ok (.aload_n 0, 1) := by decide +kernel
theorem dX7_wash_68 : decode cX7_wash 68 = .ok (.getfield 7, 3) := by decide +kernel
theorem dX7_wash_71 : decode cX7_wash 71 = .ok (.iconst 2, 1) := by decide +kernel
theorem dX7_wash_72 : decode cX7_wash 72 = .ok (.iload_n 3, 1) := by decide +kernel
theorem dX7_wash_73 : decode cX7_wash 73 = .ok (.iastore, 1) := by decide +kernel
theorem dX7_wash_74 : decode cX7_wash 74 = .ok (.aload_n 0, 1) := by decide +kernel
theorem dX7_wash_75 : decode cX7_wash 75 = .ok (.getfield 7, 3) := by decide +kernel
theorem dX7_wash_78 : decode cX7_wash 78 = .ok (.iconst 3, 1) := by decide +kernel
theorem dX7_wash_79 : decode cX7_wash 79 = .ok (.iload 4, 2) := by decide +kernel
theorem dX7_wash_81 : decode cX7_wash 81 = .ok (.iastore, 1) := by decide +kernel
theorem dX7_wash_82 : decode cX7_wash 82 = .ok (.iload 5, 2) := by decide +kernel
theorem dX7_wash_84 : decode cX7_wash 84 = .ok (.ireturn, 1) := by decide +kernel
set_option maxRecDepth 20000 in
theorem ggX7_table_X7_in : GoodIn wsX7_table wsX7_in := goodIn_r _ [5] (by decide +kernel) (by decide +kernel)
set_option maxRecDepth 20000 in
theorem gX7_table_X7_in : GoodIn wsX7_table (va_wsS RX7 42 yX7_in wsX7_in) := goodIn_app (goodIn_of _ (by decide +kernel)) ggX7_table_X7_in
theorem dX7_table_0 : decode cX7_table 0 = .ok (.iload_n 1, 1) := by decide +kernel
theorem dX7_table_1 : decode cX7_table 1 = .ok (.iconst 0, 1) := by decide +kernel
theorem dX7_table_2 : decode cX7_table 2 = .ok (.bipush 10, 2) := by decide +kernel
theorem dX7_table_4 : decode cX7_table 4 = .ok (.invokestatic 42, 3) := by decide +kernel
theorem dX7_table_7 : decode cX7_table 7 = .ok (.ifCond .ne 5, 3) := by decide +kernel
theorem dX7_table_10 : decode cX7_table 10 = .ok (.iconst (-1), 1) := by decide +kernel
theorem dX7_table_11 : decode cX7_table 11 = .ok (.ireturn, 1) := by decide +kernel
theorem dX7_table_12 : decode cX7_table 12 = .ok (.iload_n 2, 1) := by decide +kernel
theorem dX7_table_13 : decode cX7_table 13 = .ok (.iconst 0, 1) := by decide +kernel
theorem dX7_table_14 : decode cX7_table 14 = .ok (.sipush 1000, 3) := by decide +kernel
theorem dX7_table_17 : decode cX7_table 17 = .ok (.invokestatic 42, 3) := by decide +kernel
theorem dX7_table_20 : decode cX7_table 20 = .ok (.ifCond .ne 6, 3) := by decide +kernel
theorem dX7_table_23 : decode cX7_table 23 = .ok (.bipush (-2), 2) := by decide +kernel
theorem dX7_table_25 : decode cX7_table 25 = .ok (.ireturn, 1) := by decide +kernel
theorem dX7_table_26 : decode cX7_table 26 = .ok (.aload_n 0, 1) := by decide +kernel
theorem dX7_table_27 : decode cX7_table 27 = .ok (.getfield 7, 3) := by decide +kernel
theorem dX7_table_30 : decode cX7_table 30 = .ok (.iconst 4, 1) := by decide +kernel
theorem dX7_table_31 : decode cX7_table 31 = .ok (.iload_n 1, 1) := by decide +kernel
theorem dX7_table_32 : decode cX7_table 32 = .ok (.iadd, 1) := by decide +kernel
theorem dX7_table_33 : decode cX7_table 33 = .ok (.iaload, 1) := by decide +kernel
theorem dX7_table_34 : decode cX7_table 34 = .ok (.istore_n 3, 1) := by decide +kernel
theorem dX7_table_35 : decode cX7_table 35 = .ok (.aload_n 0, 1) := by decide +kernel
theorem dX7_table_36 : decode cX7_table 36 = .ok (.getfield 7, 3) := by decide +kernel
theorem dX7_table_39 : decode cX7_table 39 = .ok (.iconst 4, 1) := by decide +kernel
theorem dX7_table_40 : decode cX7_table 40 = .ok (.iload_n 1, 1) := by decide +kernel
theorem dX7_table_41 : decode cX7_table 41 = .ok (.iadd, 1) := by decide +kernel
theorem dX7_table_42 : decode cX7_table 42 = .ok (.iload_n 2, 1) := by decide +kernel
theorem dX7_table_43 : decode cX7_table 43 = .ok (.iastore, 1) := by decide +kernel
theorem dX7_table_44 : decode cX7_table 44 = .ok (.iload_n 3, 1) := by decide +kernel
theorem dX7_table_45 : decode cX7_table 45 = .ok (.ireturn, 1) := by decide +kernel
theorem dX7_leastOf_0 : decode cX7_leastOf 0 = .ok (.iload_n 0, 1) := by decide +kernel
theorem dX7_leastOf_1 : decode cX7_leastOf 1 = .ok (.iconst 3, 1) := by decide +kernel
theorem dX7_leastOf_2 : decode cX7_leastOf 2 = .ok (.if_icmp .eq 8, 3) := by decide +kernel
theorem dX7_leastOf_5 : decode cX7_leastOf 5 = .ok (.iload_n 0, 1) := by decide +kernel
theorem dX7_leastOf_6 : decode cX7_leastOf 6 = .ok (.iconst 4, 1) := by decide +kernel
theorem dX7_leastOf_7 : decode cX7_leastOf 7 = .ok (.if_icmp .ne 7, 3) := by decide +kernel
theorem dX7_leastOf_10 : decode cX7_leastOf 10 = .ok (.iconst 1, 1) := by decide +kernel
theorem dX7_leastOf_11 : decode cX7_leastOf 11 = .ok (.goto 4, 3) := by decide +kernel
theorem dX7_leastOf_14 : decode cX7_leastOf 14 = .ok (.iconst 0, 1) := by decide +kernel
theorem dX7_leastOf_15 : decode cX7_leastOf 15 = .ok (.ireturn, 1) := by decide +kernel
theorem dX7_mostOf_0 : decode cX7_mostOf 0 = .ok (.iload_n 0, 1) := by decide +kernel
theorem dX7_mostOf_1 : decode cX7_mostOf 1 = .ok (.ifCond .eq 8, 3) := by decide +kernel
theorem dX7_mostOf_4 : decode cX7_mostOf 4 = .ok (.iload_n 0, 1) := by decide +kernel
theorem dX7_mostOf_5 : decode cX7_mostOf 5 = .ok (.iconst 3, 1) := by decide +kernel
theorem dX7_mostOf_6 : decode cX7_mostOf 6 = .ok (.if_icmp .ne 8, 3) := by decide +kernel
theorem dX7_mostOf_9 : decode cX7_mostOf 9 = .ok (.bipush 9, 2) := by decide +kernel
theorem dX7_mostOf_11 : decode cX7_mostOf 11 = .ok (.goto 16, 3) := by decide +kernel
theorem dX7_mostOf_14 : decode cX7_mostOf 14 = .ok (.iload_n 0, 1) := by decide +kernel
theorem dX7_mostOf_15 : decode cX7_mostOf 15 = .ok (.iconst 3, 1) := by decide +kernel
theorem dX7_mostOf_16 : decode cX7_mostOf 16 = .ok (.if_icmp .ge 9, 3) := by decide +kernel
theorem dX7_mostOf_19 : decode cX7_mostOf 19 = .ok (.sipush 1000, 3) := by decide +kernel
theorem dX7_mostOf_22 : decode cX7_mostOf 22 = .ok (.goto 5, 3) := by decide +kernel
theorem dX7_mostOf_25 : decode cX7_mostOf 25 = .ok (.bipush 99, 2) := by decide +kernel
theorem dX7_mostOf_27 : decode cX7_mostOf 27 = .ok (.ireturn, 1) := by decide +kernel
set_option maxRecDepth 20000 in
theorem ggX7_rule_X7_in : GoodIn wsX7_rule wsX7_in := goodIn_r _ [5] (by decide +kernel) (by decide +kernel)
set_option maxRecDepth 20000 in
theorem gX7_rule_X7_in : GoodIn wsX7_rule (va_wsS RX7 42 yX7_in wsX7_in) := goodIn_app (goodIn_of _ (by decide +kernel)) ggX7_rule_X7_in
set_option maxRecDepth 20000 in
theorem ggX7_rule_X7_leastOf : GoodIn wsX7_rule wsX7_leastOf := goodIn_r _ [8] (by decide +kernel) (by decide +kernel)
set_option maxRecDepth 20000 in
theorem gX7_rule_X7_leastOf : GoodIn wsX7_rule (va_wsS RX7 46 yX7_leastOf wsX7_leastOf) := goodIn_app (goodIn_of _ (by decide +kernel)) ggX7_rule_X7_leastOf
set_option maxRecDepth 20000 in
theorem ggX7_rule_X7_mostOf : GoodIn wsX7_rule wsX7_mostOf := goodIn_r _ [11] (by decide +kernel) (by decide +kernel)
set_option maxRecDepth 20000 in
theorem gX7_rule_X7_mostOf : GoodIn wsX7_rule (va_wsS RX7 49 yX7_mostOf wsX7_mostOf) := goodIn_app (goodIn_of _ (by decide +kernel)) ggX7_rule_X7_mostOf
theorem dX7_rule_0 : decode cX7_rule 0 = .ok (.iload_n 1, 1) := by decide +kernel
theorem dX7_rule_1 : decode cX7_rule 1 = .ok (.iconst 0, 1) := by decide +kernel
theorem dX7_rule_2 : decode cX7_rule 2 = .ok (.iconst 5, 1) := by decide +kernel
theorem dX7_rule_3 : decode cX7_rule 3 = .ok (.invokestatic 42, 3) := by decide +kernel
theorem dX7_rule_6 : decode cX7_rule 6 = .ok (.ifCond .eq 18, 3) := by decide +kernel
theorem dX7_rule_9 : decode cX7_rule 9 = .ok (.iload_n 2, 1) := by decide +kernel
theorem dX7_rule_10 : decode cX7_rule 10 = .ok (.iload_n 1, 1) := by decide +kernel
theorem dX7_rule_11 : decode cX7_rule 11 = .ok (.invokestatic 46, 3) := by decide +kernel
theorem dX7_rule_14 : decode cX7_rule 14 = .ok (.iload_n 1, 1) := by decide +kernel
theorem dX7_rule_15 : decode cX7_rule 15 = .ok (.invokestatic 49, 3) := by decide +kernel
theorem dX7_rule_18 : decode cX7_rule 18 = .ok (.invokestatic 42, 3) := by decide +kernel
theorem dX7_rule_21 : decode cX7_rule 21 = .ok (.ifCond .ne 6, 3) := by decide +kernel
theorem dX7_rule_24 : decode cX7_rule 24 = .ok (.bipush (-2), 2) := by decide +kernel
theorem dX7_rule_26 : decode cX7_rule 26 = .ok (.ireturn, 1) := by decide +kernel
theorem dX7_rule_27 : decode cX7_rule 27 = .ok (.aload_n 0, 1) := by decide +kernel
theorem dX7_rule_28 : decode cX7_rule 28 = .ok (.getfield 7, 3) := by decide +kernel
theorem dX7_rule_31 : decode cX7_rule 31 = .ok (.bipush 15, 2) := by decide +kernel
theorem dX7_rule_33 : decode cX7_rule 33 = .ok (.iload_n 1, 1) := by decide +kernel
theorem dX7_rule_34 : decode cX7_rule 34 = .ok (.iadd, 1) := by decide +kernel
theorem dX7_rule_35 : decode cX7_rule 35 = .ok (.iaload, 1) := by decide +kernel
theorem dX7_rule_36 : decode cX7_rule 36 = .ok (.istore_n 3, 1) := by decide +kernel
theorem dX7_rule_37 : decode cX7_rule 37 = .ok (.aload_n 0, 1) := by decide +kernel
theorem dX7_rule_38 : decode cX7_rule 38 = .ok (.getfield 7, 3) := by decide +kernel
theorem dX7_rule_41 : decode cX7_rule 41 = .ok (.bipush 15, 2) := by decide +kernel
theorem dX7_rule_43 : decode cX7_rule 43 = .ok (.iload_n 1, 1) := by decide +kernel
theorem dX7_rule_44 : decode cX7_rule 44 = .ok (.iadd, 1) := by decide +kernel
theorem dX7_rule_45 : decode cX7_rule 45 = .ok (.iload_n 2, 1) := by decide +kernel
theorem dX7_rule_46 : decode cX7_rule 46 = .ok (.iastore, 1) := by decide +kernel
theorem dX7_rule_47 : decode cX7_rule 47 = .ok (.iload_n 3, 1) := by decide +kernel
theorem dX7_rule_48 : decode cX7_rule 48 = .ok (.ireturn, 1) := by decide +kernel
theorem dX7_overOf_0 : decode cX7_overOf 0 = .ok (.iload_n 1, 1) := by decide +kernel
theorem dX7_overOf_1 : decode cX7_overOf 1 = .ok (.bipush 100, 2) := by decide +kernel
theorem dX7_overOf_3 : decode cX7_overOf 3 = .ok (.idiv, 1) := by decide +kernel
theorem dX7_overOf_4 : decode cX7_overOf 4 = .ok (.istore_n 2, 1) := by decide +kernel
theorem dX7_overOf_5 : decode cX7_overOf 5 = .ok (.aload_n 0, 1) := by decide +kernel
theorem dX7_overOf_6 : decode cX7_overOf 6 = .ok (.getfield 7, 3) := by decide +kernel
theorem dX7_overOf_9 : decode cX7_overOf 9 = .ok (.iconst 4, 1) := by decide +kernel
theorem dX7_overOf_10 : decode cX7_overOf 10 = .ok (.iload_n 2, 1) := by decide +kernel
theorem dX7_overOf_11 : decode cX7_overOf 11 = .ok (.iadd, 1) := by decide +kernel
theorem dX7_overOf_12 : decode cX7_overOf 12 = .ok (.iaload, 1) := by decide +kernel
theorem dX7_overOf_13 : decode cX7_overOf 13 = .ok (.istore_n 3, 1) := by decide +kernel
theorem dX7_overOf_14 : decode cX7_overOf 14 = .ok (.iload_n 2, 1) := by decide +kernel
theorem dX7_overOf_15 : decode cX7_overOf 15 = .ok (.bipush 10, 2) := by decide +kernel
theorem dX7_overOf_17 : decode cX7_overOf 17 = .ok (.if_icmp .ne 7, 3) := by decide +kernel
theorem dX7_overOf_20 : decode cX7_overOf 20 = .ok (.iload_n 3, 1) := by decide +kernel
theorem dX7_overOf_21 : decode cX7_overOf 21 = .ok (.goto 25, 3) := by decide +kernel
theorem dX7_overOf_24 : decode cX7_overOf 24 = .ok (.iload_n 3, 1) := by decide +kernel
theorem dX7_overOf_25 : decode cX7_overOf 25 = .ok (.aload_n 0, 1) := by decide +kernel
theorem dX7_overOf_26 : decode cX7_overOf 26 = .ok (.getfield 7, 3) := by decide +kernel
theorem dX7_overOf_29 : decode cX7_overOf 29 = .ok (.iconst 4, 1) := by decide +kernel
theorem dX7_overOf_30 : decode cX7_overOf 30 = .ok (.iload_n 2, 1) := by decide +kernel
theorem dX7_overOf_31 : decode cX7_overOf 31 = .ok (.iadd, 1) := by decide +kernel
theorem dX7_overOf_32 : decode cX7_overOf 32 = .ok (.iconst 1, 1) := by decide +kernel
theorem dX7_overOf_33 : decode cX7_overOf 33 = .ok (.iadd, 1) := by decide +kernel
theorem dX7_overOf_34 : decode cX7_overOf 34 = .ok (.iaload, 1) := by decide +kernel
theorem dX7_overOf_35 : decode cX7_overOf 35 = .ok (.iload_n 3, 1) := by decide +kernel
theorem dX7_overOf_36 : decode cX7_overOf 36 = .ok (.isub, 1) := by decide +kernel
theorem dX7_overOf_37 : decode cX7_overOf 37 = .ok (.iload_n 1, 1) := by decide +kernel
theorem dX7_overOf_38 : decode cX7_overOf 38 = .ok (.bipush 100, 2) := by decide +kernel
theorem dX7_overOf_40 : decode cX7_overOf 40 = .ok (.irem, 1) := by decide +kernel
theorem dX7_overOf_41 : decode cX7_overOf 41 = .ok (.imul, 1) := by decide +kernel
theorem dX7_overOf_42 : decode cX7_overOf 42 = .ok (.bipush 100, 2) := by decide +kernel
theorem dX7_overOf_44 : decode cX7_overOf 44 = .ok (.idiv, 1) := by decide +kernel
theorem dX7_overOf_45 : decode cX7_overOf 45 = .ok (.iadd, 1) := by decide +kernel
theorem dX7_overOf_46 : decode cX7_overOf 46 = .ok (.ireturn, 1) := by decide +kernel
set_option maxRecDepth 20000 in
theorem ggX7_over_X7_in : GoodIn wsX7_over wsX7_in := goodIn_r _ [4] (by decide +kernel) (by decide +kernel)
set_option maxRecDepth 20000 in
theorem gX7_over_X7_in : GoodIn wsX7_over (va_wsS RX7 42 yX7_in wsX7_in) := goodIn_app (goodIn_of _ (by decide +kernel)) ggX7_over_X7_in
set_option maxRecDepth 20000 in
theorem ggX7_over_X7_overOf : GoodIn wsX7_over wsX7_overOf := goodIn_r _ [8, 9, 10, 11, 12, 13, 14, 15, 16, 17, 18, 19, 20, 21, 22, 23, 24] (by decide +kernel) (by decide +kernel)
set_option maxRecDepth 20000 in
theorem gX7_over_X7_overOf : GoodIn wsX7_over (wsV RX7 52 RX7 yX7_overOf wsX7_overOf) := goodIn_app (goodIn_of _ (by decide +kernel)) ggX7_over_X7_overOf
theorem dX7_over_0 : decode cX7_over 0 = .ok (.iload_n 1, 1) := by decide +kernel
theorem dX7_over_1 : decode cX7_over 1 = .ok (.iconst 0, 1) := by decide +kernel
theorem dX7_over_2 : decode cX7_over 2 = .ok (.sipush 1000, 3) := by decide +kernel
theorem dX7_over_5 : decode cX7_over 5 = .ok (.invokestatic 42, 3) := by decide +kernel
theorem dX7_over_8 : decode cX7_over 8 = .ok (.ifCond .eq 11, 3) := by decide +kernel
theorem dX7_over_11 : decode cX7_over 11 = .ok (.aload_n 0, 1) := by decide +kernel
theorem dX7_over_12 : decode cX7_over 12 = .ok (.iload_n 1, 1) := by decide +kernel
theorem dX7_over_13 : decode cX7_over 13 = .ok (.invokevirtual 52, 3) := by decide +kernel
theorem dX7_over_16 : decode cX7_over 16 = .ok (.goto 5, 3) := by decide +kernel
theorem dX7_over_19 : decode cX7_over 19 = .ok (.bipush (-2), 2) := by decide +kernel
theorem dX7_over_21 : decode cX7_over 21 = .ok (.ireturn, 1) := by decide +kernel
theorem dX7_strengthOf_0 : decode cX7_strengthOf 0 = .ok (.iload_n 0, 1) := by decide +kernel
theorem dX7_strengthOf_1 : decode cX7_strengthOf 1 = .ok (.ifCond .ne 7, 3) := by decide +kernel
theorem dX7_strengthOf_4 : decode cX7_strengthOf 4 = .ok (.iconst 0, 1) := by decide +kernel
theorem dX7_strengthOf_5 : decode cX7_strengthOf 5 = .ok (.goto 6, 3) := by decide +kernel
theorem dX7_strengthOf_8 : decode cX7_strengthOf 8 = .ok (.iload_n 1, 1) := by decide +kernel
theorem dX7_strengthOf_9 : decode cX7_strengthOf 9 = .ok (.iload_n 0, 1) := by decide +kernel
theorem dX7_strengthOf_10 : decode cX7_strengthOf 10 = .ok (.idiv, 1) := by decide +kernel
theorem dX7_strengthOf_11 : decode cX7_strengthOf 11 = .ok (.ireturn, 1) := by decide +kernel
theorem dX7_goOver_0 : decode cX7_goOver 0 = .ok (.iload_n 1, 1) := by decide +kernel
theorem dX7_goOver_1 : decode cX7_goOver 1 = .ok (.aload_n 0, 1) := by decide +kernel
theorem dX7_goOver_2 : decode cX7_goOver 2 = .ok (.getfield 23, 3) := by decide +kernel
theorem dX7_goOver_5 : decode cX7_goOver 5 = .ok (.iconst 1, 1) := by decide +kernel
theorem dX7_goOver_6 : decode cX7_goOver 6 = .ok (.iaload, 1) := by decide +kernel
theorem dX7_goOver_7 : decode cX7_goOver 7 = .ok (.if_icmp .ge 7, 3) := by decide +kernel
theorem dX7_goOver_10 : decode cX7_goOver 10 = .ok (.iload_n 1, 1) := by decide +kernel
theorem dX7_goOver_11 : decode cX7_goOver 11 = .ok (.goto 9, 3) := by decide +kernel
theorem dX7_goOver_14 : decode cX7_goOver 14 = .ok (.aload_n 0, 1) := by decide +kernel
theorem dX7_goOver_15 : decode cX7_goOver 15 = .ok (.getfield 23, 3) := by decide +kernel
theorem dX7_goOver_18 : decode cX7_goOver 18 = .ok (.iconst 1, 1) := by decide +kernel
theorem dX7_goOver_19 : decode cX7_goOver 19 = .ok (.iaload, 1) := by decide +kernel
theorem dX7_goOver_20 : decode cX7_goOver 20 = .ok (.istore_n 2, 1) := by decide +kernel
theorem dX7_goOver_21 : decode cX7_goOver 21 = .ok (.aload_n 0, 1) := by decide +kernel
theorem dX7_goOver_22 : decode cX7_goOver 22 = .ok (.getfield 23, 3) := by decide +kernel
theorem dX7_goOver_25 : decode cX7_goOver 25 = .ok (.iconst 2, 1) := by decide +kernel
theorem dX7_goOver_26 : decode cX7_goOver 26 = .ok (.iaload, 1) := by decide +kernel
theorem dX7_goOver_27 : decode cX7_goOver 27 = .ok (.aload_n 0, 1) := by decide +kernel
theorem dX7_goOver_28 : decode cX7_goOver 28 = .ok (.getfield 7, 3) := by decide +kernel
theorem dX7_goOver_31 : decode cX7_goOver 31 = .ok (.bipush 18, 2) := by decide +kernel
theorem dX7_goOver_33 : decode cX7_goOver 33 = .ok (.iaload, 1) := by decide +kernel
theorem dX7_goOver_34 : decode cX7_goOver 34 = .ok (.imul, 1) := by decide +kernel
theorem dX7_goOver_35 : decode cX7_goOver 35 = .ok (.bipush 10, 2) := by decide +kernel
theorem dX7_goOver_37 : decode cX7_goOver 37 = .ok (.idiv, 1) := by decide +kernel
theorem dX7_goOver_38 : decode cX7_goOver 38 = .ok (.iconst 1, 1) := by decide +kernel
theorem dX7_goOver_39 : decode cX7_goOver 39 = .ok (.iadd, 1) := by decide +kernel
theorem dX7_goOver_40 : decode cX7_goOver 40 = .ok (.istore_n 3, 1) := by decide +kernel
theorem dX7_goOver_41 : decode cX7_goOver 41 = .ok (.iload_n 3, 1) := by decide +kernel
theorem dX7_goOver_42 : decode cX7_goOver 42 = .ok (.aload_n 0, 1) := by decide +kernel
theorem dX7_goOver_43 : decode cX7_goOver 43 = .ok (.getfield 23, 3) := by decide +kernel
theorem dX7_goOver_46 : decode cX7_goOver 46 = .ok (.iconst 2, 1) := by decide +kernel
theorem dX7_goOver_47 : decode cX7_goOver 47 = .ok (.iaload, 1) := by decide +kernel
theorem dX7_goOver_48 : decode cX7_goOver 48 = .ok (.if_icmp .ge 7, 3) := by decide +kernel
theorem dX7_goOver_51 : decode cX7_goOver 51 = .ok (.iload_n 3, 1) := by decide +kernel
theorem dX7_goOver_52 : decode cX7_goOver 52 = .ok (.goto 9, 3) := by decide +kernel
theorem dX7_goOver_55 : decode cX7_goOver 55 = .ok (.aload_n 0, 1) := by decide +kernel
theorem dX7_goOver_56 : decode cX7_goOver 56 = .ok (.getfield 23, 3) := by decide +kernel
theorem dX7_goOver_59 : decode cX7_goOver 59 = .ok (.iconst 2, 1) := by decide +kernel
theorem dX7_goOver_60 : decode cX7_goOver 60 = .ok (.iaload, 1) := by decide +kernel
theorem dX7_goOver_61 : decode cX7_goOver 61 = .ok (.istore_n 3, 1) := by decide +kernel
theorem dX7_goOver_62 : decode cX7_goOver 62 = .ok (.aload_n 0, 1) := by decide +kernel
theorem dX7_goOver_63 : decode cX7_goOver 63 = .ok (.getfield 23, 3) := by decide +kernel
theorem dX7_goOver_66 : decode cX7_goOver 66 = .ok (.iconst 3, 1) := by decide +kernel
theorem dX7_goOver_67 : decode cX7_goOver 67 = .ok (.iaload, 1) := by decide +kernel
theorem dX7_goOver_68 : decode cX7_goOver 68 = .ok (.sipush 1000, 3) := by decide +kernel
theorem dX7_goOver_71 : decode cX7_goOver 71 = .ok (.iload_n 1, 1) := by decide +kernel
theorem dX7_goOver_72 : decode cX7_goOver 72 = .ok (.isub, 1) := by decide +kernel
theorem dX7_goOver_73 : decode cX7_goOver 73 = .ok (.imul, 1) := by decide +kernel
theorem dX7_goOver_74 : decode cX7_goOver 74 = .ok (.sipush 1000, 3) := by decide +kernel
theorem dX7_goOver_77 : decode cX7_goOver 77 = .ok (.aload_n 0, 1) := by decide +kernel
theorem dX7_goOver_78 : decode cX7_goOver 78 = .ok (.getfield 7, 3) := by decide +kernel
theorem dX7_goOver_81 : decode cX7_goOver 81 = .ok (.bipush 19, 2) := by decide +kernel
theorem dX7_goOver_83 : decode cX7_goOver 83 = .ok (.iaload, 1) := by decide +kernel
theorem dX7_goOver_84 : decode cX7_goOver 84 = .ok (.imul, 1) := by decide +kernel
theorem dX7_goOver_85 : decode cX7_goOver 85 = .ok (.idiv, 1) := by decide +kernel
theorem dX7_goOver_86 : decode cX7_goOver 86 = .ok (.istore 4, 2) := by decide +kernel
theorem dX7_goOver_88 : decode cX7_goOver 88 = .ok (.aload_n 0, 1) := by decide +kernel
theorem dX7_goOver_89 : decode cX7_goOver 89 = .ok (.getfield 20, 3) := by decide +kernel
theorem dX7_goOver_92 : decode cX7_goOver 92 = .ok (.iconst 4, 1) := by decide +kernel
theorem dX7_goOver_93 : decode cX7_goOver 93 = .ok (.aload_n 0, 1) := by decide +kernel
theorem dX7_goOver_94 : decode cX7_goOver 94 = .ok (.getfield 55, 3) := by decide +kernel
theorem dX7_goOver_97 : decode cX7_goOver 97 = .ok (.imul, 1) := by decide +kernel
theorem dX7_goOver_98 : decode cX7_goOver 98 = .ok (.iload_n 1, 1) := by decide +kernel
theorem dX7_goOver_99 : decode cX7_goOver 99 = .ok (.iastore, 1) := by decide +kernel
theorem dX7_goOver_100 : decode cX7_goOver 100 = .ok (.aload_n 0, 1) := by decide +kernel
theorem dX7_goOver_101 : decode cX7_goOver 101 = .ok (.getfield 20, 3) := by decide +kernel
theorem dX7_goOver_104 : decode cX7_goOver 104 = .ok (.iconst 4, 1) := by decide +kernel
theorem dX7_goOver_105 : decode cX7_goOver 105 = .ok (.aload_n 0, 1) := by decide +kernel
theorem dX7_goOver_106 : decode cX7_goOver 106 = .ok (.getfield 55, 3) := by decide +kernel
theorem dX7_goOver_109 : decode cX7_goOver 109 = .ok (.imul, 1) := by decide +kernel
theorem dX7_goOver_110 : decode cX7_goOver 110 = .ok (.iconst 1, 1) := by decide +kernel
theorem dX7_goOver_111 : decode cX7_goOver 111 = .ok (.iadd, 1) := by decide +kernel
theorem dX7_goOver_112 : decode cX7_goOver 112 = .ok (.iload_n 2, 1) := by decide +kernel
theorem dX7_goOver_113 : decode cX7_goOver 113 = .ok (.iastore, 1) := by decide +kernel
theorem dX7_goOver_114 : decode cX7_goOver 114 = .ok (.aload_n 0, 1) := by decide +kernel
theorem dX7_goOver_115 : decode cX7_goOver 115 = .ok (.getfield 20, 3) := by decide +kernel
theorem dX7_goOver_118 : decode cX7_goOver 118 = .ok (.iconst 4, 1) := by decide +kernel
theorem dX7_goOver_119 : decode cX7_goOver 119 = .ok (.aload_n 0, 1) := by decide +kernel
theorem dX7_goOver_120 : decode cX7_goOver 120 = .ok (.getfield 55, 3) := by decide +kernel
theorem dX7_goOver_123 : decode cX7_goOver 123 = .ok (.imul, 1) := by decide +kernel
theorem dX7_goOver_124 : decode cX7_goOver 124 = .ok (.iconst 2, 1) := by decide +kernel
theorem dX7_goOver_125 : decode cX7_goOver 125 = .ok (.iadd, 1) := by decide +kernel
theorem dX7_goOver_126 : decode cX7_goOver 126 = .ok (.iload_n 3, 1) := by decide +kernel
theorem dX7_goOver_127 : decode cX7_goOver 127 = .ok (.iastore, 1) := by decide +kernel
theorem dX7_goOver_128 : decode cX7_goOver 128 = .ok (.aload_n 0, 1) := by decide +kernel
theorem dX7_goOver_129 : decode cX7_goOver 129 = .ok (.getfield 20, 3) := by decide +kernel
theorem dX7_goOver_132 : decode cX7_goOver 132 = .ok (.iconst 4, 1) := by decide +kernel
theorem dX7_goOver_133 : decode cX7_goOver 133 = .ok (.aload_n 0, 1) := by decide +kernel
theorem dX7_goOver_134 : decode cX7_goOver 134 = .ok (.getfield 55, 3) := by decide +kernel
theorem dX7_goOver_137 : decode cX7_goOver 137 = .ok (.imul, 1) := by decide +kernel
theorem dX7_goOver_138 : decode cX7_goOver 138 = .ok (.iconst 3, 1) := by decide +kernel
theorem dX7_goOver_139 : decode cX7_goOver 139 = .ok (.iadd, 1) := by decide +kernel
theorem dX7_goOver_140 : decode cX7_goOver 140 = .ok (.iload 4, 2) := by decide +kernel
theorem dX7_goOver_142 : decode cX7_goOver 142 = .ok (.iastore, 1) := by decide +kernel
theorem dX7_goOver_143 : decode cX7_goOver 143 = .ok (.aload_n 0, 1) := by decide +kernel
theorem dX7_goOver_144 : decode cX7_goOver 144 = .ok (.getfield 23, 3) := by decide +kernel
theorem dX7_goOver_147 : decode cX7_goOver 147 = .ok (.iconst 0, 1) := by decide +kernel
theorem dX7_goOver_148 : decode cX7_goOver 148 = .ok (.dup2, 1) := by decide +kernel
theorem dX7_goOver_149 : decode cX7_goOver 149 = .ok (.iaload, 1) := by decide +kernel
theorem dX7_goOver_150 : decode cX7_goOver 150 = .ok (.iconst 1, 1) := by decide +kernel
theorem dX7_goOver_151 : decode cX7_goOver 151 = .ok (.isub, 1) := by decide +kernel
theorem dX7_goOver_152 : decode cX7_goOver 152 = .ok (.iastore, 1) := by decide +kernel
theorem dX7_goOver_153 : decode cX7_goOver 153 = .ok (.aload_n 0, 1) := by decide +kernel
theorem dX7_goOver_154 : decode cX7_goOver 154 = .ok (.getfield 23, 3) := by decide +kernel
theorem dX7_goOver_157 : decode cX7_goOver 157 = .ok (.iconst 1, 1) := by decide +kernel
theorem dX7_goOver_158 : decode cX7_goOver 158 = .ok (.dup2, 1) := by decide +kernel
theorem dX7_goOver_159 : decode cX7_goOver 159 = .ok (.iaload, 1) := by decide +kernel
theorem dX7_goOver_160 : decode cX7_goOver 160 = .ok (.iload_n 2, 1) := by decide +kernel
theorem dX7_goOver_161 : decode cX7_goOver 161 = .ok (.isub, 1) := by decide +kernel
theorem dX7_goOver_162 : decode cX7_goOver 162 = .ok (.iastore, 1) := by decide +kernel
theorem dX7_goOver_163 : decode cX7_goOver 163 = .ok (.aload_n 0, 1) := by decide +kernel
theorem dX7_goOver_164 : decode cX7_goOver 164 = .ok (.getfield 23, 3) := by decide +kernel
theorem dX7_goOver_167 : decode cX7_goOver 167 = .ok (.iconst 2, 1) := by decide +kernel
theorem dX7_goOver_168 : decode cX7_goOver 168 = .ok (.dup2, 1) := by decide +kernel
theorem dX7_goOver_169 : decode cX7_goOver 169 = .ok (.iaload, 1) := by decide +kernel
theorem dX7_goOver_170 : decode cX7_goOver 170 = .ok (.iload_n 3, 1) := by decide +kernel
theorem dX7_goOver_171 : decode cX7_goOver 171 = .ok (.isub, 1) := by decide +kernel
theorem dX7_goOver_172 : decode cX7_goOver 172 = .ok (.iastore, 1) := by decide +kernel
theorem dX7_goOver_173 : decode cX7_goOver 173 = .ok (.aload_n 0, 1) := by decide +kernel
theorem dX7_goOver_174 : decode cX7_goOver 174 = .ok (.getfield 23, 3) := by decide +kernel
theorem dX7_goOver_177 : decode cX7_goOver 177 = .ok (.iconst 3, 1) := by decide +kernel
theorem dX7_goOver_178 : decode cX7_goOver 178 = .ok (.dup2, 1) := by decide +kernel
theorem dX7_goOver_179 : decode cX7_goOver 179 = .ok (.iaload, 1) := by decide +kernel
theorem dX7_goOver_180 : decode cX7_goOver 180 = .ok (.iload 4, 2) := by decide +kernel
theorem dX7_goOver_182 : decode cX7_goOver 182 = .ok (.isub, 1) := by decide +kernel
theorem dX7_goOver_183 : decode cX7_goOver 183 = .ok (.iastore, 1) := by decide +kernel
theorem dX7_goOver_184 : decode cX7_goOver 184 = .ok (.aload_n 0, 1) := by decide +kernel
theorem dX7_goOver_185 : decode cX7_goOver 185 = .ok (.dup, 1) := by decide +kernel
theorem dX7_goOver_186 : decode cX7_goOver 186 = .ok (.getfield 55, 3) := by decide +kernel
theorem dX7_goOver_189 : decode cX7_goOver 189 = .ok (.iconst 1, 1) := by decide +kernel
theorem dX7_goOver_190 : decode cX7_goOver 190 = .ok (.iadd, 1) := by decide +kernel
theorem dX7_goOver_191 : decode cX7_goOver 191 = .ok (.putfield 55, 3) := by decide +kernel
theorem dX7_goOver_194 : decode cX7_goOver 194 = .ok (.return_, 1) := by decide +kernel
set_option maxRecDepth 20000 in
theorem ggX7_goRun_X7_strengthOf : GoodIn wsX7_goRun wsX7_strengthOf := goodIn_r _ [8] (by decide +kernel) (by decide +kernel)
set_option maxRecDepth 20000 in
theorem gX7_goRun_X7_strengthOf : GoodIn wsX7_goRun (va_wsS RX7 59 yX7_strengthOf wsX7_strengthOf) := goodIn_app (goodIn_of _ (by decide +kernel)) ggX7_goRun_X7_strengthOf
set_option maxRecDepth 20000 in
theorem ggX7_goRun_X7_overOf : GoodIn wsX7_goRun wsX7_overOf := goodIn_r _ [12, 2, 18, 19, 20, 21, 22, 23, 24, 25, 26, 27, 28, 29, 30, 31, 32] (by decide +kernel) (by decide +kernel)
set_option maxRecDepth 20000 in
theorem gX7_goRun_X7_overOf : GoodIn wsX7_goRun (wsV RX7 52 RX7 yX7_overOf wsX7_overOf) := goodIn_app (goodIn_of _ (by decide +kernel)) ggX7_goRun_X7_overOf
set_option maxRecDepth 20000 in
theorem ggX7_goRun_X7_goOver : GoodIn wsX7_goRun wsX7_goOver := goodIn_r _ [16, 3, 2, 17, 4, 18, 19, 20, 21, 22, 23, 24, 25, 26, 27, 28, 29, 30, 31, 32] (by decide +kernel) (by decide +kernel)
set_option maxRecDepth 20000 in
theorem gX7_goRun_X7_goOver : GoodIn wsX7_goRun (wsV RX7 63 RX7 yX7_goOver wsX7_goOver) := goodIn_app (goodIn_of _ (by decide +kernel)) ggX7_goRun_X7_goOver
theorem dX7_goRun_0 : decode cX7_goRun 0 = .ok (.aload_n 0, 1) := by decide +kernel
theorem dX7_goRun_1 : decode cX7_goRun 1 = .ok (.getfield 26, 3) := by decide +kernel
theorem dX7_goRun_4 : decode cX7_goRun 4 = .ok (.iconst 0, 1) := by decide +kernel
theorem dX7_goRun_5 : decode cX7_goRun 5 = .ok (.aload_n 0, 1) := by decide +kernel
theorem dX7_goRun_6 : decode cX7_goRun 6 = .ok (.getfield 7, 3) := by decide +kernel
theorem dX7_goRun_9 : decode cX7_goRun 9 = .ok (.iconst 0, 1) := by decide +kernel
theorem dX7_goRun_10 : decode cX7_goRun 10 = .ok (.iaload, 1) := by decide +kernel
theorem dX7_goRun_11 : decode cX7_goRun 11 = .ok (.iload_n 1, 1) := by decide +kernel
theorem dX7_goRun_12 : decode cX7_goRun 12 = .ok (.iadd, 1) := by decide +kernel
theorem dX7_goRun_13 : decode cX7_goRun 13 = .ok (.iastore, 1) := by decide +kernel
theorem dX7_goRun_14 : decode cX7_goRun 14 = .ok (.aload_n 0, 1) := by decide +kernel
theorem dX7_goRun_15 : decode cX7_goRun 15 = .ok (.getfield 26, 3) := by decide +kernel
theorem dX7_goRun_18 : decode cX7_goRun 18 = .ok (.iconst 1, 1) := by decide +kernel
theorem dX7_goRun_19 : decode cX7_goRun 19 = .ok (.aload_n 0, 1) := by decide +kernel
theorem dX7_goRun_20 : decode cX7_goRun 20 = .ok (.getfield 7, 3) := by decide +kernel
theorem dX7_goRun_23 : decode cX7_goRun 23 = .ok (.iconst 0, 1) := by decide +kernel
theorem dX7_goRun_24 : decode cX7_goRun 24 = .ok (.iaload, 1) := by decide +kernel
theorem dX7_goRun_25 : decode cX7_goRun 25 = .ok (.aload_n 0, 1) := by decide +kernel
theorem dX7_goRun_26 : decode cX7_goRun 26 = .ok (.getfield 7, 3) := by decide +kernel
theorem dX7_goRun_29 : decode cX7_goRun 29 = .ok (.iconst 1, 1) := by decide +kernel
theorem dX7_goRun_30 : decode cX7_goRun 30 = .ok (.iaload, 1) := by decide +kernel
theorem dX7_goRun_31 : decode cX7_goRun 31 = .ok (.imul, 1) := by decide +kernel
theorem dX7_goRun_32 : decode cX7_goRun 32 = .ok (.iload_n 2, 1) := by decide +kernel
theorem dX7_goRun_33 : decode cX7_goRun 33 = .ok (.iadd, 1) := by decide +kernel
theorem dX7_goRun_34 : decode cX7_goRun 34 = .ok (.iastore, 1) := by decide +kernel
theorem dX7_goRun_35 : decode cX7_goRun 35 = .ok (.aload_n 0, 1) := by decide +kernel
theorem dX7_goRun_36 : decode cX7_goRun 36 = .ok (.getfield 26, 3) := by decide +kernel
theorem dX7_goRun_39 : decode cX7_goRun 39 = .ok (.iconst 2, 1) := by decide +kernel
theorem dX7_goRun_40 : decode cX7_goRun 40 = .ok (.aload_n 0, 1) := by decide +kernel
theorem dX7_goRun_41 : decode cX7_goRun 41 = .ok (.getfield 7, 3) := by decide +kernel
theorem dX7_goRun_44 : decode cX7_goRun 44 = .ok (.iconst 2, 1) := by decide +kernel
theorem dX7_goRun_45 : decode cX7_goRun 45 = .ok (.iaload, 1) := by decide +kernel
theorem dX7_goRun_46 : decode cX7_goRun 46 = .ok (.iload_n 3, 1) := by decide +kernel
theorem dX7_goRun_47 : decode cX7_goRun 47 = .ok (.iadd, 1) := by decide +kernel
theorem dX7_goRun_48 : decode cX7_goRun 48 = .ok (.iastore, 1) := by decide +kernel
theorem dX7_goRun_49 : decode cX7_goRun 49 = .ok (.aload_n 0, 1) := by decide +kernel
theorem dX7_goRun_50 : decode cX7_goRun 50 = .ok (.getfield 26, 3) := by decide +kernel
theorem dX7_goRun_53 : decode cX7_goRun 53 = .ok (.iconst 3, 1) := by decide +kernel
theorem dX7_goRun_54 : decode cX7_goRun 54 = .ok (.aload_n 0, 1) := by decide +kernel
theorem dX7_goRun_55 : decode cX7_goRun 55 = .ok (.getfield 7, 3) := by decide +kernel
theorem dX7_goRun_58 : decode cX7_goRun 58 = .ok (.iconst 3, 1) := by decide +kernel
theorem dX7_goRun_59 : decode cX7_goRun 59 = .ok (.iaload, 1) := by decide +kernel
theorem dX7_goRun_60 : decode cX7_goRun 60 = .ok (.iload 4, 2) := by decide +kernel
theorem dX7_goRun_62 : decode cX7_goRun 62 = .ok (.iadd, 1) := by decide +kernel
theorem dX7_goRun_63 : decode cX7_goRun 63 = .ok (.iastore, 1) := by decide +kernel
theorem dX7_goRun_64 : decode cX7_goRun 64 = .ok (.iconst 0, 1) := by decide +kernel
theorem dX7_goRun_65 : decode cX7_goRun 65 = .ok (.istore 5, 2) := by decide +kernel
theorem dX7_goRun_67 : decode cX7_goRun 67 = .ok (.iload 5, 2) := by decide +kernel
theorem dX7_goRun_69 : decode cX7_goRun 69 = .ok (.iconst 4, 1) := by decide +kernel
theorem dX7_goRun_70 : decode cX7_goRun 70 = .ok (.if_icmp .ge 23, 3) := by decide +kernel
theorem dX7_goRun_73 : decode cX7_goRun 73 = .ok (.aload_n 0, 1) := by decide +kernel
theorem dX7_goRun_74 : decode cX7_goRun 74 = .ok (.getfield 23, 3) := by decide +kernel
theorem dX7_goRun_77 : decode cX7_goRun 77 = .ok (.iload 5, 2) := by decide +kernel
theorem dX7_goRun_79 : decode cX7_goRun 79 = .ok (.aload_n 0, 1) := by decide +kernel
theorem dX7_goRun_80 : decode cX7_goRun 80 = .ok (.getfield 26, 3) := by decide +kernel
theorem dX7_goRun_83 : decode cX7_goRun 83 = .ok (.iload 5, 2) := by decide +kernel
theorem dX7_goRun_85 : decode cX7_goRun 85 = .ok (.iaload, 1) := by decide +kernel
theorem dX7_goRun_86 : decode cX7_goRun 86 = .ok (.iastore, 1) := by decide +kernel
theorem dX7_goRun_87 : decode cX7_goRun 87 = .ok (.iinc 5 1, 3) := by decide +kernel
theorem dX7_goRun_90 : decode cX7_goRun 90 = .ok (.goto (-23), 3) := by decide +kernel
theorem dX7_goRun_93 : decode cX7_goRun 93 = .ok (.aload_n 0, 1) := by decide +kernel
theorem dX7_goRun_94 : decode cX7_goRun 94 = .ok (.iconst 0, 1) := by decide +kernel
theorem dX7_goRun_95 : decode cX7_goRun 95 = .ok (.putfield 55, 3) := by decide +kernel
theorem dX7_goRun_98 : decode cX7_goRun 98 = .ok (.iconst 1, 1) := by decide +kernel
theorem dX7_goRun_99 : decode cX7_goRun 99 = .ok (.istore 5, 2) := by decide +kernel
theorem dX7_goRun_101 : decode cX7_goRun 101 = .ok (.iload 5, 2) := by decide +kernel
theorem dX7_goRun_103 : decode cX7_goRun 103 = .ok (.ifCond .eq 94, 3) := by decide +kernel
theorem dX7_goRun_106 : decode cX7_goRun 106 = .ok (.aload_n 0, 1) := by decide +kernel
theorem dX7_goRun_107 : decode cX7_goRun 107 = .ok (.getfield 23, 3) := by decide +kernel
theorem dX7_goRun_110 : decode cX7_goRun 110 = .ok (.iconst 0, 1) := by decide +kernel
theorem dX7_goRun_111 : decode cX7_goRun 111 = .ok (.iaload, 1) := by decide +kernel
theorem dX7_goRun_112 : decode cX7_goRun 112 = .ok (.iconst 1, 1) := by decide +kernel
theorem dX7_goRun_113 : decode cX7_goRun 113 = .ok (.if_icmp .le 84, 3) := by decide +kernel
theorem dX7_goRun_116 : decode cX7_goRun 116 = .ok (.aload_n 0, 1) := by decide +kernel
theorem dX7_goRun_117 : decode cX7_goRun 117 = .ok (.getfield 55, 3) := by decide +kernel
theorem dX7_goRun_120 : decode cX7_goRun 120 = .ok (.bipush 40, 2) := by decide +kernel
theorem dX7_goRun_122 : decode cX7_goRun 122 = .ok (.if_icmp .ge 75, 3) := by decide +kernel
theorem dX7_goRun_125 : decode cX7_goRun 125 = .ok (.aload_n 0, 1) := by decide +kernel
theorem dX7_goRun_126 : decode cX7_goRun 126 = .ok (.getfield 23, 3) := by decide +kernel
theorem dX7_goRun_129 : decode cX7_goRun 129 = .ok (.iconst 0, 1) := by decide +kernel
theorem dX7_goRun_130 : decode cX7_goRun 130 = .ok (.iaload, 1) := by decide +kernel
theorem dX7_goRun_131 : decode cX7_goRun 131 = .ok (.aload_n 0, 1) := by decide +kernel
theorem dX7_goRun_132 : decode cX7_goRun 132 = .ok (.getfield 23, 3) := by decide +kernel
theorem dX7_goRun_135 : decode cX7_goRun 135 = .ok (.iconst 1, 1) := by decide +kernel
theorem dX7_goRun_136 : decode cX7_goRun 136 = .ok (.iaload, 1) := by decide +kernel
theorem dX7_goRun_137 : decode cX7_goRun 137 = .ok (.invokestatic 59, 3) := by decide +kernel
theorem dX7_goRun_140 : decode cX7_goRun 140 = .ok (.istore 6, 2) := by decide +kernel
theorem dX7_goRun_142 : decode cX7_goRun 142 = .ok (.aload_n 0, 1) := by decide +kernel
theorem dX7_goRun_143 : decode cX7_goRun 143 = .ok (.iload 6, 2) := by decide +kernel
theorem dX7_goRun_145 : decode cX7_goRun 145 = .ok (.sipush 1000, 3) := by decide +kernel
theorem dX7_goRun_148 : decode cX7_goRun 148 = .ok (.if_icmp .le 9, 3) := by decide +kernel
theorem dX7_goRun_151 : decode cX7_goRun 151 = .ok (.sipush 1000, 3) := by decide +kernel
theorem dX7_goRun_154 : decode cX7_goRun 154 = .ok (.goto 5, 3) := by decide +kernel
theorem dX7_goRun_157 : decode cX7_goRun 157 = .ok (.iload 6, 2) := by decide +kernel
theorem dX7_goRun_159 : decode cX7_goRun 159 = .ok (.invokevirtual 52, 3) := by decide +kernel
theorem dX7_goRun_162 : decode cX7_goRun 162 = .ok (.istore 7, 2) := by decide +kernel
theorem dX7_goRun_164 : decode cX7_goRun 164 = .ok (.iload 7, 2) := by decide +kernel
theorem dX7_goRun_166 : decode cX7_goRun 166 = .ok (.aload_n 0, 1) := by decide +kernel
theorem dX7_goRun_167 : decode cX7_goRun 167 = .ok (.getfield 7, 3) := by decide +kernel
theorem dX7_goRun_170 : decode cX7_goRun 170 = .ok (.bipush 17, 2) := by decide +kernel
theorem dX7_goRun_172 : decode cX7_goRun 172 = .ok (.iaload, 1) := by decide +kernel
theorem dX7_goRun_173 : decode cX7_goRun 173 = .ok (.if_icmp .lt 7, 3) := by decide +kernel
theorem dX7_goRun_176 : decode cX7_goRun 176 = .ok (.iconst 1, 1) := by decide +kernel
theorem dX7_goRun_177 : decode cX7_goRun 177 = .ok (.goto 4, 3) := by decide +kernel
theorem dX7_goRun_180 : decode cX7_goRun 180 = .ok (.iconst 0, 1) := by decide +kernel
theorem dX7_goRun_181 : decode cX7_goRun 181 = .ok (.istore 5, 2) := by decide +kernel
theorem dX7_goRun_183 : decode cX7_goRun 183 = .ok (.iload 5, 2) := by decide +kernel
theorem dX7_goRun_185 : decode cX7_goRun 185 = .ok (.ifCond .eq 9, 3) := by decide +kernel
theorem dX7_goRun_188 : decode cX7_goRun 188 = .ok (.aload_n 0, 1) := by decide +kernel
theorem dX7_goRun_189 : decode cX7_goRun 189 = .ok (.iload 7, 2) := by decide +kernel
theorem dX7_goRun_191 : decode cX7_goRun 191 = .ok (.invokevirtual 63, 3) := by decide +kernel
theorem dX7_goRun_194 : decode cX7_goRun 194 = .ok (.goto (-93), 3) := by decide +kernel
theorem dX7_goRun_197 : decode cX7_goRun 197 = .ok (.return_, 1) := by decide +kernel
set_option maxRecDepth 20000 in
theorem ggX7_goNext_X7_goRun : GoodIn wsX7_goNext wsX7_goRun := goodIn_r _ [6, 7, 1, 8, 9, 10, 11, 5, 12, 13, 14, 15, 16, 17, 18, 19, 20, 21, 22, 23, 24, 25, 26, 27, 28, 29, 30, 31, 32, 33, 34, 35, 36] (by decide +kernel) (by decide +kernel)
set_option maxRecDepth 20000 in
theorem gX7_goNext_X7_goRun : GoodIn wsX7_goNext (wsV RX7 67 RX7 yX7_goRun wsX7_goRun) := goodIn_app (goodIn_of _ (by decide +kernel)) ggX7_goNext_X7_goRun
theorem dX7_goNext_0 : decode cX7_goNext 0 = .ok (.aload_n 0, 1) := by decide +kernel
theorem dX7_goNext_1 : decode cX7_goNext 1 = .ok (.aload_n 0, 1) := by decide +kernel
theorem dX7_goNext_2 : decode cX7_goNext 2 = .ok (.getfield 7, 3) := by decide +kernel
theorem dX7_goNext_5 : decode cX7_goNext 5 = .ok (.bipush 21, 2) := by decide +kernel
theorem dX7_goNext_7 : decode cX7_goNext 7 = .ok (.iaload, 1) := by decide +kernel
theorem dX7_goNext_8 : decode cX7_goNext 8 = .ok (.aload_n 0, 1) := by decide +kernel
theorem dX7_goNext_9 : decode cX7_goNext 9 = .ok (.getfield 7, 3) := by decide +kernel
theorem dX7_goNext_12 : decode cX7_goNext 12 = .ok (.bipush 22, 2) := by decide +kernel
theorem dX7_goNext_14 : decode cX7_goNext 14 = .ok (.iaload, 1) := by decide +kernel
theorem dX7_goNext_15 : decode cX7_goNext 15 = .ok (.aload_n 0, 1) := by decide +kernel
theorem dX7_goNext_16 : decode cX7_goNext 16 = .ok (.getfield 7, 3) := by decide +kernel
theorem dX7_goNext_19 : decode cX7_goNext 19 = .ok (.bipush 23, 2) := by decide +kernel
theorem dX7_goNext_21 : decode cX7_goNext 21 = .ok (.iaload, 1) := by decide +kernel
theorem dX7_goNext_22 : decode cX7_goNext 22 = .ok (.aload_n 0, 1) := by decide +kernel
theorem dX7_goNext_23 : decode cX7_goNext 23 = .ok (.getfield 7, 3) := by decide +kernel
theorem dX7_goNext_26 : decode cX7_goNext 26 = .ok (.bipush 24, 2) := by decide +kernel
theorem dX7_goNext_28 : decode cX7_goNext 28 = .ok (.iaload, 1) := by decide +kernel
theorem dX7_goNext_29 : decode cX7_goNext 29 = .ok (.invokevirtual 67, 3) := by decide +kernel
theorem dX7_goNext_32 : decode cX7_goNext 32 = .ok (.return_, 1) := by decide +kernel
theorem dX7_tailsFrom_0 : decode cX7_tailsFrom 0 = .ok (.iload_n 1, 1) := by decide +kernel
theorem dX7_tailsFrom_1 : decode cX7_tailsFrom 1 = .ok (.istore_n 3, 1) := by decide +kernel
theorem dX7_tailsFrom_2 : decode cX7_tailsFrom 2 = .ok (.iload_n 3, 1) := by decide +kernel
theorem dX7_tailsFrom_3 : decode cX7_tailsFrom 3 = .ok (.aload_n 0, 1) := by decide +kernel
theorem dX7_tailsFrom_4 : decode cX7_tailsFrom 4 = .ok (.getfield 55, 3) := by decide +kernel
theorem dX7_tailsFrom_7 : decode cX7_tailsFrom 7 = .ok (.if_icmp .ge 21, 3) := by decide +kernel
theorem dX7_tailsFrom_10 : decode cX7_tailsFrom 10 = .ok (.aload_n 0, 1) := by decide +kernel
theorem dX7_tailsFrom_11 : decode cX7_tailsFrom 11 = .ok (.getfield 20, 3) := by decide +kernel
theorem dX7_tailsFrom_14 : decode cX7_tailsFrom 14 = .ok (.iconst 4, 1) := by decide +kernel
theorem dX7_tailsFrom_15 : decode cX7_tailsFrom 15 = .ok (.iload_n 3, 1) := by decide +kernel
theorem dX7_tailsFrom_16 : decode cX7_tailsFrom 16 = .ok (.imul, 1) := by decide +kernel
theorem dX7_tailsFrom_17 : decode cX7_tailsFrom 17 = .ok (.iaload, 1) := by decide +kernel
theorem dX7_tailsFrom_18 : decode cX7_tailsFrom 18 = .ok (.iload_n 2, 1) := by decide +kernel
theorem dX7_tailsFrom_19 : decode cX7_tailsFrom 19 = .ok (.if_icmp .lt 9, 3) := by decide +kernel
theorem dX7_tailsFrom_22 : decode cX7_tailsFrom 22 = .ok (.iinc 3 1, 3) := by decide +kernel
theorem dX7_tailsFrom_25 : decode cX7_tailsFrom 25 = .ok (.goto (-23), 3) := by decide +kernel
theorem dX7_tailsFrom_28 : decode cX7_tailsFrom 28 = .ok (.iload_n 3, 1) := by decide +kernel
theorem dX7_tailsFrom_29 : decode cX7_tailsFrom 29 = .ok (.ireturn, 1) := by decide +kernel
theorem dX7_beginSum_0 : decode cX7_beginSum 0 = .ok (.iconst 0, 1) := by decide +kernel
theorem dX7_beginSum_1 : decode cX7_beginSum 1 = .ok (.istore_n 1, 1) := by decide +kernel
theorem dX7_beginSum_2 : decode cX7_beginSum 2 = .ok (.iload_n 1, 1) := by decide +kernel
theorem dX7_beginSum_3 : decode cX7_beginSum 3 = .ok (.iconst 4, 1) := by decide +kernel
theorem dX7_beginSum_4 : decode cX7_beginSum 4 = .ok (.if_icmp .ge 16, 3) := by decide +kernel
theorem dX7_beginSum_7 : decode cX7_beginSum 7 = .ok (.aload_n 0, 1) := by decide +kernel
theorem dX7_beginSum_8 : decode cX7_beginSum 8 = .ok (.getfield 29, 3) := by decide +kernel
theorem dX7_beginSum_11 : decode cX7_beginSum 11 = .ok (.iload_n 1, 1) := by decide +kernel
theorem dX7_beginSum_12 : decode cX7_beginSum 12 = .ok (.iconst 0, 1) := by decide +kernel
theorem dX7_beginSum_13 : decode cX7_beginSum 13 = .ok (.iastore, 1) := by decide +kernel
theorem dX7_beginSum_14 : decode cX7_beginSum 14 = .ok (.iinc 1 1, 3) := by decide +kernel
theorem dX7_beginSum_17 : decode cX7_beginSum 17 = .ok (.goto (-15), 3) := by decide +kernel
theorem dX7_beginSum_20 : decode cX7_beginSum 20 = .ok (.return_, 1) := by decide +kernel
theorem dX7_addLitres_0 : decode cX7_addLitres 0 = .ok (.iload_n 1, 1) := by decide +kernel
theorem dX7_addLitres_1 : decode cX7_addLitres 1 = .ok (.istore_n 3, 1) := by decide +kernel
theorem dX7_addLitres_2 : decode cX7_addLitres 2 = .ok (.iload_n 3, 1) := by decide +kernel
theorem dX7_addLitres_3 : decode cX7_addLitres 3 = .ok (.iload_n 2, 1) := by decide +kernel
theorem dX7_addLitres_4 : decode cX7_addLitres 4 = .ok (.if_icmp .ge 84, 3) := by decide +kernel
theorem dX7_addLitres_7 : decode cX7_addLitres 7 = .ok (.iload_n 3, 1) := by decide +kernel
theorem dX7_addLitres_8 : decode cX7_addLitres 8 = .ok (.aload_n 0, 1) := by decide +kernel
theorem dX7_addLitres_9 : decode cX7_addLitres 9 = .ok (.getfield 55, 3) := by decide +kernel
theorem dX7_addLitres_12 : decode cX7_addLitres 12 = .ok (.if_icmp .ge 76, 3) := by decide +kernel
theorem dX7_addLitres_15 : decode cX7_addLitres 15 = .ok (.aload_n 0, 1) := by decide +kernel
theorem dX7_addLitres_16 : decode cX7_addLitres 16 = .ok (.getfield 29, 3) := by decide +kernel
theorem dX7_addLitres_19 : decode cX7_addLitres 19 = .ok (.iconst 0, 1) := by decide +kernel
theorem dX7_addLitres_20 : decode cX7_addLitres 20 = .ok (.dup2, 1) := by decide +kernel
theorem dX7_addLitres_21 : decode cX7_addLitres 21 = .ok (.iaload, 1) := by decide +kernel
theorem dX7_addLitres_22 : decode cX7_addLitres 22 = .ok (.iconst 1, 1) := by decide +kernel
theorem dX7_addLitres_23 : decode cX7_addLitres 23 = .ok (.iadd, 1) := by decide +kernel
theorem dX7_addLitres_24 : decode cX7_addLitres 24 = .ok (.iastore, 1) := by decide +kernel
theorem dX7_addLitres_25 : decode cX7_addLitres 25 = .ok (.aload_n 0, 1) := by decide +kernel
theorem dX7_addLitres_26 : decode cX7_addLitres 26 = .ok (.getfield 29, 3) := by decide +kernel
theorem dX7_addLitres_29 : decode cX7_addLitres 29 = .ok (.iconst 1, 1) := by decide +kernel
theorem dX7_addLitres_30 : decode cX7_addLitres 30 = .ok (.dup2, 1) := by decide +kernel
theorem dX7_addLitres_31 : decode cX7_addLitres 31 = .ok (.iaload, 1) := by decide +kernel
theorem dX7_addLitres_32 : decode cX7_addLitres 32 = .ok (.aload_n 0, 1) := by decide +kernel
theorem dX7_addLitres_33 : decode cX7_addLitres 33 = .ok (.getfield 20, 3) := by decide +kernel
theorem dX7_addLitres_36 : decode cX7_addLitres 36 = .ok (.iconst 4, 1) := by decide +kernel
theorem dX7_addLitres_37 : decode cX7_addLitres 37 = .ok (.iload_n 3, 1) := by decide +kernel
theorem dX7_addLitres_38 : decode cX7_addLitres 38 = .ok (.imul, 1) := by decide +kernel
theorem dX7_addLitres_39 : decode cX7_addLitres 39 = .ok (.iconst 1, 1) := by decide +kernel
theorem dX7_addLitres_40 : decode cX7_addLitres 40 = .ok (.iadd, 1) := by decide +kernel
theorem dX7_addLitres_41 : decode cX7_addLitres 41 = .ok (.iaload, 1) := by decide +kernel
theorem dX7_addLitres_42 : decode cX7_addLitres 42 = .ok (.iadd, 1) := by decide +kernel
theorem dX7_addLitres_43 : decode cX7_addLitres 43 = .ok (.iastore, 1) := by decide +kernel
theorem dX7_addLitres_44 : decode cX7_addLitres 44 = .ok (.aload_n 0, 1) := by decide +kernel
theorem dX7_addLitres_45 : decode cX7_addLitres 45 = .ok (.getfield 29, 3) := by decide +kernel
theorem dX7_addLitres_48 : decode cX7_addLitres 48 = .ok (.iconst 2, 1) := by decide +kernel
theorem dX7_addLitres_49 : decode cX7_addLitres 49 = .ok (.dup2, 1) := by decide +kernel
theorem dX7_addLitres_50 : decode cX7_addLitres 50 = .ok (.iaload, 1) := by decide +kernel
theorem dX7_addLitres_51 : decode cX7_addLitres 51 = .ok (.aload_n 0, 1) := by decide +kernel
theorem dX7_addLitres_52 : decode cX7_addLitres 52 = .ok (.getfield 20, 3) := by decide +kernel
theorem dX7_addLitres_55 : decode cX7_addLitres 55 = .ok (.iconst 4, 1) := by decide +kernel
theorem dX7_addLitres_56 : decode cX7_addLitres 56 = .ok (.iload_n 3, 1) := by decide +kernel
theorem dX7_addLitres_57 : decode cX7_addLitres 57 = .ok (.imul, 1) := by decide +kernel
theorem dX7_addLitres_58 : decode cX7_addLitres 58 = .ok (.iconst 2, 1) := by decide +kernel
theorem dX7_addLitres_59 : decode cX7_addLitres 59 = .ok (.iadd, 1) := by decide +kernel
theorem dX7_addLitres_60 : decode cX7_addLitres 60 = .ok (.iaload, 1) := by decide +kernel
theorem dX7_addLitres_61 : decode cX7_addLitres 61 = .ok (.iadd, 1) := by decide +kernel
theorem dX7_addLitres_62 : decode cX7_addLitres 62 = .ok (.iastore, 1) := by decide +kernel
theorem dX7_addLitres_63 : decode cX7_addLitres 63 = .ok (.aload_n 0, 1) := by decide +kernel
theorem dX7_addLitres_64 : decode cX7_addLitres 64 = .ok (.getfield 29, 3) := by decide +kernel
theorem dX7_addLitres_67 : decode cX7_addLitres 67 = .ok (.iconst 3, 1) := by decide +kernel
theorem dX7_addLitres_68 : decode cX7_addLitres 68 = .ok (.dup2, 1) := by decide +kernel
theorem dX7_addLitres_69 : decode cX7_addLitres 69 = .ok (.iaload, 1) := by decide +kernel
theorem dX7_addLitres_70 : decode cX7_addLitres 70 = .ok (.aload_n 0, 1) := by decide +kernel
theorem dX7_addLitres_71 : decode cX7_addLitres 71 = .ok (.getfield 20, 3) := by decide +kernel
theorem dX7_addLitres_74 : decode cX7_addLitres 74 = .ok (.iconst 4, 1) := by decide +kernel
theorem dX7_addLitres_75 : decode cX7_addLitres 75 = .ok (.iload_n 3, 1) := by decide +kernel
theorem dX7_addLitres_76 : decode cX7_addLitres 76 = .ok (.imul, 1) := by decide +kernel
theorem dX7_addLitres_77 : decode cX7_addLitres 77 = .ok (.iconst 3, 1) := by decide +kernel
theorem dX7_addLitres_78 : decode cX7_addLitres 78 = .ok (.iadd, 1) := by decide +kernel
theorem dX7_addLitres_79 : decode cX7_addLitres 79 = .ok (.iaload, 1) := by decide +kernel
theorem dX7_addLitres_80 : decode cX7_addLitres 80 = .ok (.iadd, 1) := by decide +kernel
theorem dX7_addLitres_81 : decode cX7_addLitres 81 = .ok (.iastore, 1) := by decide +kernel
theorem dX7_addLitres_82 : decode cX7_addLitres 82 = .ok (.iinc 3 1, 3) := by decide +kernel
theorem dX7_addLitres_85 : decode cX7_addLitres 85 = .ok (.goto (-83), 3) := by decide +kernel
theorem dX7_addLitres_88 : decode cX7_addLitres 88 = .ok (.return_, 1) := by decide +kernel
set_option maxRecDepth 20000 in
theorem ggX7_sumHeart_X7_beginSum : GoodIn wsX7_sumHeart wsX7_beginSum := goodIn_r _ [5, 6, 17, 18, 19, 20, 21, 22, 23, 24, 25, 26, 27, 28, 29, 30, 31] (by decide +kernel) (by decide +kernel)
set_option maxRecDepth 20000 in
theorem gX7_sumHeart_X7_beginSum : GoodIn wsX7_sumHeart (wsV RX7 71 RX7 yX7_beginSum wsX7_beginSum) := goodIn_app (goodIn_of _ (by decide +kernel)) ggX7_sumHeart_X7_beginSum
set_option maxRecDepth 20000 in
theorem ggX7_sumHeart_X7_tailsFrom : GoodIn wsX7_sumHeart wsX7_tailsFrom := goodIn_r _ [10, 11, 12, 17, 18, 19, 20, 21, 22, 23, 24, 25, 26, 27, 28, 29, 30, 31] (by decide +kernel) (by decide +kernel)
set_option maxRecDepth 20000 in
theorem gX7_sumHeart_X7_tailsFrom : GoodIn wsX7_sumHeart (wsV RX7 74 RX7 yX7_tailsFrom wsX7_tailsFrom) := goodIn_app (goodIn_of _ (by decide +kernel)) ggX7_sumHeart_X7_tailsFrom
set_option maxRecDepth 20000 in
theorem ggX7_sumHeart_X7_addLitres : GoodIn wsX7_sumHeart wsX7_addLitres := goodIn_r _ [16, 11, 6, 12, 17, 18, 19, 20, 21, 22, 23, 24, 25, 26, 27, 28, 29, 30, 31] (by decide +kernel) (by decide +kernel)
set_option maxRecDepth 20000 in
theorem gX7_sumHeart_X7_addLitres : GoodIn wsX7_sumHeart (wsV RX7 77 RX7 yX7_addLitres wsX7_addLitres) := goodIn_app (goodIn_of _ (by decide +kernel)) ggX7_sumHeart_X7_addLitres
theorem dX7_sumHeart_0 : decode cX7_sumHeart 0 = .ok (.aload_n 0, 1) := by decide +kernel
theorem dX7_sumHeart_1 : decode cX7_sumHeart 1 = .ok (.invokevirtual 71, 3) := by decide +kernel
theorem dX7_sumHeart_4 : decode cX7_sumHeart 4 = .ok (.aload_n 0, 1) := by decide +kernel
theorem dX7_sumHeart_5 : decode cX7_sumHeart 5 = .ok (.iload_n 1, 1) := by decide +kernel
theorem dX7_sumHeart_6 : decode cX7_sumHeart 6 = .ok (.aload_n 0, 1) := by decide +kernel
theorem dX7_sumHeart_7 : decode cX7_sumHeart 7 = .ok (.iload_n 1, 1) := by decide +kernel
theorem dX7_sumHeart_8 : decode cX7_sumHeart 8 = .ok (.iload_n 2, 1) := by decide +kernel
theorem dX7_sumHeart_9 : decode cX7_sumHeart 9 = .ok (.invokevirtual 74, 3) := by decide +kernel
theorem dX7_sumHeart_12 : decode cX7_sumHeart 12 = .ok (.invokevirtual 77, 3) := by decide +kernel
theorem dX7_sumHeart_15 : decode cX7_sumHeart 15 = .ok (.return_, 1) := by decide +kernel
set_option maxRecDepth 20000 in
theorem ggX7_sumKept_X7_beginSum : GoodIn wsX7_sumKept wsX7_beginSum := goodIn_r _ [6, 7, 18, 19, 20, 21, 22, 23, 24, 25, 26, 27, 28, 29, 30, 31, 32] (by decide +kernel) (by decide +kernel)
set_option maxRecDepth 20000 in
theorem gX7_sumKept_X7_beginSum : GoodIn wsX7_sumKept (wsV RX7 71 RX7 yX7_beginSum wsX7_beginSum) := goodIn_app (goodIn_of _ (by decide +kernel)) ggX7_sumKept_X7_beginSum
set_option maxRecDepth 20000 in
theorem ggX7_sumKept_X7_addLitres : GoodIn wsX7_sumKept wsX7_addLitres := goodIn_r _ [11, 12, 7, 13, 18, 19, 20, 21, 22, 23, 24, 25, 26, 27, 28, 29, 30, 31, 32] (by decide +kernel) (by decide +kernel)
set_option maxRecDepth 20000 in
theorem gX7_sumKept_X7_addLitres : GoodIn wsX7_sumKept (wsV RX7 77 RX7 yX7_addLitres wsX7_addLitres) := goodIn_app (goodIn_of _ (by decide +kernel)) ggX7_sumKept_X7_addLitres
set_option maxRecDepth 20000 in
theorem ggX7_sumKept_X7_tailsFrom : GoodIn wsX7_sumKept wsX7_tailsFrom := goodIn_r _ [17, 12, 13, 18, 19, 20, 21, 22, 23, 24, 25, 26, 27, 28, 29, 30, 31, 32] (by decide +kernel) (by decide +kernel)
set_option maxRecDepth 20000 in
theorem gX7_sumKept_X7_tailsFrom : GoodIn wsX7_sumKept (wsV RX7 74 RX7 yX7_tailsFrom wsX7_tailsFrom) := goodIn_app (goodIn_of _ (by decide +kernel)) ggX7_sumKept_X7_tailsFrom
theorem dX7_sumKept_0 : decode cX7_sumKept 0 = .ok (.aload_n 0, 1) := by decide +kernel
theorem dX7_sumKept_1 : decode cX7_sumKept 1 = .ok (.invokevirtual 71, 3) := by decide +kernel
theorem dX7_sumKept_4 : decode cX7_sumKept 4 = .ok (.aload_n 0, 1) := by decide +kernel
theorem dX7_sumKept_5 : decode cX7_sumKept 5 = .ok (.iconst 0, 1) := by decide +kernel
theorem dX7_sumKept_6 : decode cX7_sumKept 6 = .ok (.aload_n 0, 1) := by decide +kernel
theorem dX7_sumKept_7 : decode cX7_sumKept 7 = .ok (.getfield 7, 3) := by decide +kernel
theorem dX7_sumKept_10 : decode cX7_sumKept 10 = .ok (.bipush 15, 2) := by decide +kernel
theorem dX7_sumKept_12 : decode cX7_sumKept 12 = .ok (.iaload, 1) := by decide +kernel
theorem dX7_sumKept_13 : decode cX7_sumKept 13 = .ok (.invokevirtual 77, 3) := by decide +kernel
theorem dX7_sumKept_16 : decode cX7_sumKept 16 = .ok (.aload_n 0, 1) := by decide +kernel
theorem dX7_sumKept_17 : decode cX7_sumKept 17 = .ok (.aload_n 0, 1) := by decide +kernel
theorem dX7_sumKept_18 : decode cX7_sumKept 18 = .ok (.aload_n 0, 1) := by decide +kernel
theorem dX7_sumKept_19 : decode cX7_sumKept 19 = .ok (.getfield 7, 3) := by decide +kernel
theorem dX7_sumKept_22 : decode cX7_sumKept 22 = .ok (.bipush 15, 2) := by decide +kernel
theorem dX7_sumKept_24 : decode cX7_sumKept 24 = .ok (.iaload, 1) := by decide +kernel
theorem dX7_sumKept_25 : decode cX7_sumKept 25 = .ok (.aload_n 0, 1) := by decide +kernel
theorem dX7_sumKept_26 : decode cX7_sumKept 26 = .ok (.getfield 7, 3) := by decide +kernel
theorem dX7_sumKept_29 : decode cX7_sumKept 29 = .ok (.bipush 16, 2) := by decide +kernel
theorem dX7_sumKept_31 : decode cX7_sumKept 31 = .ok (.iaload, 1) := by decide +kernel
theorem dX7_sumKept_32 : decode cX7_sumKept 32 = .ok (.invokevirtual 74, 3) := by decide +kernel
theorem dX7_sumKept_35 : decode cX7_sumKept 35 = .ok (.bipush 40, 2) := by decide +kernel
theorem dX7_sumKept_37 : decode cX7_sumKept 37 = .ok (.invokevirtual 77, 3) := by decide +kernel
theorem dX7_sumKept_40 : decode cX7_sumKept 40 = .ok (.return_, 1) := by decide +kernel
set_option maxRecDepth 20000 in
theorem ggX7_ofSum_X7_ofLiquid : GoodIn wsX7_ofSum wsX7_ofLiquid := goodIn_r _ [5, 6, 7, 4, 8] (by decide +kernel) (by decide +kernel)
set_option maxRecDepth 20000 in
theorem gX7_ofSum_X7_ofLiquid : GoodIn wsX7_ofSum (va_wsS RX7 81 yX7_ofLiquid wsX7_ofLiquid) := goodIn_app (goodIn_of _ (by decide +kernel)) ggX7_ofSum_X7_ofLiquid
theorem dX7_ofSum_0 : decode cX7_ofSum 0 = .ok (.iload_n 1, 1) := by decide +kernel
theorem dX7_ofSum_1 : decode cX7_ofSum 1 = .ok (.aload_n 0, 1) := by decide +kernel
theorem dX7_ofSum_2 : decode cX7_ofSum 2 = .ok (.getfield 29, 3) := by decide +kernel
theorem dX7_ofSum_5 : decode cX7_ofSum 5 = .ok (.iconst 0, 1) := by decide +kernel
theorem dX7_ofSum_6 : decode cX7_ofSum 6 = .ok (.iaload, 1) := by decide +kernel
theorem dX7_ofSum_7 : decode cX7_ofSum 7 = .ok (.aload_n 0, 1) := by decide +kernel
theorem dX7_ofSum_8 : decode cX7_ofSum 8 = .ok (.getfield 29, 3) := by decide +kernel
theorem dX7_ofSum_11 : decode cX7_ofSum 11 = .ok (.iconst 1, 1) := by decide +kernel
theorem dX7_ofSum_12 : decode cX7_ofSum 12 = .ok (.iaload, 1) := by decide +kernel
theorem dX7_ofSum_13 : decode cX7_ofSum 13 = .ok (.aload_n 0, 1) := by decide +kernel
theorem dX7_ofSum_14 : decode cX7_ofSum 14 = .ok (.getfield 29, 3) := by decide +kernel
theorem dX7_ofSum_17 : decode cX7_ofSum 17 = .ok (.iconst 2, 1) := by decide +kernel
theorem dX7_ofSum_18 : decode cX7_ofSum 18 = .ok (.iaload, 1) := by decide +kernel
theorem dX7_ofSum_19 : decode cX7_ofSum 19 = .ok (.aload_n 0, 1) := by decide +kernel
theorem dX7_ofSum_20 : decode cX7_ofSum 20 = .ok (.getfield 29, 3) := by decide +kernel
theorem dX7_ofSum_23 : decode cX7_ofSum 23 = .ok (.iconst 3, 1) := by decide +kernel
theorem dX7_ofSum_24 : decode cX7_ofSum 24 = .ok (.iaload, 1) := by decide +kernel
theorem dX7_ofSum_25 : decode cX7_ofSum 25 = .ok (.invokestatic 81, 3) := by decide +kernel
theorem dX7_ofSum_28 : decode cX7_ofSum 28 = .ok (.ireturn, 1) := by decide +kernel
set_option maxRecDepth 20000 in
theorem ggX7_ofLiquid_X7_strengthOf : GoodIn wsX7_ofLiquid wsX7_strengthOf := goodIn_r _ [4] (by decide +kernel) (by decide +kernel)
set_option maxRecDepth 20000 in
theorem gX7_ofLiquid_X7_strengthOf : GoodIn wsX7_ofLiquid (va_wsS RX7 59 yX7_strengthOf wsX7_strengthOf) := goodIn_app (goodIn_of _ (by decide +kernel)) ggX7_ofLiquid_X7_strengthOf
theorem dX7_ofLiquid_0 : decode cX7_ofLiquid 0 = .ok (.iload_n 0, 1) := by decide +kernel
theorem dX7_ofLiquid_1 : decode cX7_ofLiquid 1 = .ok (.tableswitch 50 0 4 #[35, 37, 39, 41, 44], 35) := by decide +kernel
theorem dX7_ofLiquid_36 : decode cX7_ofLiquid 36 = .ok (.iload_n 1, 1) := by decide +kernel
theorem dX7_ofLiquid_37 : decode cX7_ofLiquid 37 = .ok (.ireturn, 1) := by decide +kernel
theorem dX7_ofLiquid_38 : decode cX7_ofLiquid 38 = .ok (.iload_n 2, 1) := by decide +kernel
theorem dX7_ofLiquid_39 : decode cX7_ofLiquid 39 = .ok (.ireturn, 1) := by decide +kernel
theorem dX7_ofLiquid_40 : decode cX7_ofLiquid 40 = .ok (.iload_n 3, 1) := by decide +kernel
theorem dX7_ofLiquid_41 : decode cX7_ofLiquid 41 = .ok (.ireturn, 1) := by decide +kernel
theorem dX7_ofLiquid_42 : decode cX7_ofLiquid 42 = .ok (.iload 4, 2) := by decide +kernel
theorem dX7_ofLiquid_44 : decode cX7_ofLiquid 44 = .ok (.ireturn, 1) := by decide +kernel
theorem dX7_ofLiquid_45 : decode cX7_ofLiquid 45 = .ok (.iload_n 1, 1) := by decide +kernel
theorem dX7_ofLiquid_46 : decode cX7_ofLiquid 46 = .ok (.iload_n 2, 1) := by decide +kernel
theorem dX7_ofLiquid_47 : decode cX7_ofLiquid 47 = .ok (.invokestatic 59, 3) := by decide +kernel
theorem dX7_ofLiquid_50 : decode cX7_ofLiquid 50 = .ok (.ireturn, 1) := by decide +kernel
theorem dX7_ofLiquid_51 : decode cX7_ofLiquid 51 = .ok (.iload_n 1, 1) := by decide +kernel
theorem dX7_ofLiquid_52 : decode cX7_ofLiquid 52 = .ok (.iload_n 3, 1) := by decide +kernel
theorem dX7_ofLiquid_53 : decode cX7_ofLiquid 53 = .ok (.iload 4, 2) := by decide +kernel
theorem dX7_ofLiquid_55 : decode cX7_ofLiquid 55 = .ok (.iadd, 1) := by decide +kernel
theorem dX7_ofLiquid_56 : decode cX7_ofLiquid 56 = .ok (.invokestatic 59, 3) := by decide +kernel
theorem dX7_ofLiquid_59 : decode cX7_ofLiquid 59 = .ok (.ireturn, 1) := by decide +kernel
theorem dX7_lay_0 : decode cX7_lay 0 = .ok (.iconst 0, 1) := by decide +kernel
theorem dX7_lay_1 : decode cX7_lay 1 = .ok (.istore_n 2, 1) := by decide +kernel
theorem dX7_lay_2 : decode cX7_lay 2 = .ok (.iload_n 2, 1) := by decide +kernel
theorem dX7_lay_3 : decode cX7_lay 3 = .ok (.iconst 4, 1) := by decide +kernel
theorem dX7_lay_4 : decode cX7_lay 4 = .ok (.if_icmp .ge 23, 3) := by decide +kernel
theorem dX7_lay_7 : decode cX7_lay 7 = .ok (.aload_n 0, 1) := by decide +kernel
theorem dX7_lay_8 : decode cX7_lay 8 = .ok (.getfield 7, 3) := by decide +kernel
theorem dX7_lay_11 : decode cX7_lay 11 = .ok (.iload_n 1, 1) := by decide +kernel
theorem dX7_lay_12 : decode cX7_lay 12 = .ok (.iload_n 2, 1) := by decide +kernel
theorem dX7_lay_13 : decode cX7_lay 13 = .ok (.iadd, 1) := by decide +kernel
theorem dX7_lay_14 : decode cX7_lay 14 = .ok (.aload_n 0, 1) := by decide +kernel
theorem dX7_lay_15 : decode cX7_lay 15 = .ok (.getfield 29, 3) := by decide +kernel
theorem dX7_lay_18 : decode cX7_lay 18 = .ok (.iload_n 2, 1) := by decide +kernel
theorem dX7_lay_19 : decode cX7_lay 19 = .ok (.iaload, 1) := by decide +kernel
theorem dX7_lay_20 : decode cX7_lay 20 = .ok (.iastore, 1) := by decide +kernel
theorem dX7_lay_21 : decode cX7_lay 21 = .ok (.iinc 2 1, 3) := by decide +kernel
theorem dX7_lay_24 : decode cX7_lay 24 = .ok (.goto (-22), 3) := by decide +kernel
theorem dX7_lay_27 : decode cX7_lay 27 = .ok (.return_, 1) := by decide +kernel
theorem dX7_dropPage_0 : decode cX7_dropPage 0 = .ok (.bipush 27, 2) := by decide +kernel
theorem dX7_dropPage_2 : decode cX7_dropPage 2 = .ok (.iconst 4, 1) := by decide +kernel
theorem dX7_dropPage_3 : decode cX7_dropPage 3 = .ok (.iload_n 1, 1) := by decide +kernel
theorem dX7_dropPage_4 : decode cX7_dropPage 4 = .ok (.imul, 1) := by decide +kernel
theorem dX7_dropPage_5 : decode cX7_dropPage 5 = .ok (.iadd, 1) := by decide +kernel
theorem dX7_dropPage_6 : decode cX7_dropPage 6 = .ok (.istore_n 2, 1) := by decide +kernel
theorem dX7_dropPage_7 : decode cX7_dropPage 7 = .ok (.iload_n 2, 1) := by decide +kernel
theorem dX7_dropPage_8 : decode cX7_dropPage 8 = .ok (.iconst 4, 1) := by decide +kernel
theorem dX7_dropPage_9 : decode cX7_dropPage 9 = .ok (.iadd, 1) := by decide +kernel
theorem dX7_dropPage_10 : decode cX7_dropPage 10 = .ok (.bipush 75, 2) := by decide +kernel
theorem dX7_dropPage_12 : decode cX7_dropPage 12 = .ok (.if_icmp .ge 23, 3) := by decide +kernel
theorem dX7_dropPage_15 : decode cX7_dropPage 15 = .ok (.aload_n 0, 1) := by decide +kernel
theorem dX7_dropPage_16 : decode cX7_dropPage 16 = .ok (.getfield 7, 3) := by decide +kernel
theorem dX7_dropPage_19 : decode cX7_dropPage 19 = .ok (.iload_n 2, 1) := by decide +kernel
theorem dX7_dropPage_20 : decode cX7_dropPage 20 = .ok (.aload_n 0, 1) := by decide +kernel
theorem dX7_dropPage_21 : decode cX7_dropPage 21 = .ok (.getfield 7, 3) := by decide +kernel
theorem dX7_dropPage_24 : decode cX7_dropPage 24 = .ok (.iload_n 2, 1) := by decide +kernel
theorem dX7_dropPage_25 : decode cX7_dropPage 25 = .ok (.iconst 4, 1) := by decide +kernel
theorem dX7_dropPage_26 : decode cX7_dropPage 26 = .ok (.iadd, 1) := by decide +kernel
theorem dX7_dropPage_27 : decode cX7_dropPage 27 = .ok (.iaload, 1) := by decide +kernel
theorem dX7_dropPage_28 : decode cX7_dropPage 28 = .ok (.iastore, 1) := by decide +kernel
theorem dX7_dropPage_29 : decode cX7_dropPage 29 = .ok (.iinc 2 1, 3) := by decide +kernel
theorem dX7_dropPage_32 : decode cX7_dropPage 32 = .ok (.goto (-25), 3) := by decide +kernel
theorem dX7_dropPage_35 : decode cX7_dropPage 35 = .ok (.aload_n 0, 1) := by decide +kernel
theorem dX7_dropPage_36 : decode cX7_dropPage 36 = .ok (.getfield 7, 3) := by decide +kernel
theorem dX7_dropPage_39 : decode cX7_dropPage 39 = .ok (.bipush 26, 2) := by decide +kernel
theorem dX7_dropPage_41 : decode cX7_dropPage 41 = .ok (.dup2, 1) := by decide +kernel
theorem dX7_dropPage_42 : decode cX7_dropPage 42 = .ok (.iaload, 1) := by decide +kernel
theorem dX7_dropPage_43 : decode cX7_dropPage 43 = .ok (.iconst 1, 1) := by decide +kernel
theorem dX7_dropPage_44 : decode cX7_dropPage 44 = .ok (.isub, 1) := by decide +kernel
theorem dX7_dropPage_45 : decode cX7_dropPage 45 = .ok (.iastore, 1) := by decide +kernel
theorem dX7_dropPage_46 : decode cX7_dropPage 46 = .ok (.return_, 1) := by decide +kernel
set_option maxRecDepth 20000 in
theorem ggX7_run_X7_goNext : GoodIn wsX7_run wsX7_goNext := goodIn_r _ [7, 1, 8, 9, 10, 6, 11, 12, 13, 14, 15, 16, 17, 18, 19, 20, 21, 22, 23, 24, 25, 26, 55, 56, 57, 58, 59, 60, 61, 62, 63, 64, 65, 66, 67, 68, 69] (by decide +kernel) (by decide +kernel)
set_option maxRecDepth 20000 in
theorem gX7_run_X7_goNext : GoodIn wsX7_run (wsV RX7 85 RX7 yX7_goNext wsX7_goNext) := goodIn_app (goodIn_of _ (by decide +kernel)) ggX7_run_X7_goNext
set_option maxRecDepth 20000 in
theorem ggX7_run_X7_dropPage : GoodIn wsX7_run wsX7_dropPage := goodIn_r _ [30, 1, 55, 56, 57, 58, 59, 60, 61, 62, 63, 64, 65, 66, 67, 68, 69] (by decide +kernel) (by decide +kernel)
set_option maxRecDepth 20000 in
theorem gX7_run_X7_dropPage : GoodIn wsX7_run (wsV RX7 88 RX7 yX7_dropPage wsX7_dropPage) := goodIn_app (goodIn_of _ (by decide +kernel)) ggX7_run_X7_dropPage
set_option maxRecDepth 20000 in
theorem ggX7_run_X7_sumHeart : GoodIn wsX7_run wsX7_sumHeart := goodIn_r _ [34, 35, 36, 37, 6, 38, 2, 39, 40, 41, 42, 14, 26, 43, 44, 45, 46, 55, 56, 57, 58, 59, 60, 61, 62, 63, 64, 65, 66, 67, 68, 69] (by decide +kernel) (by decide +kernel)
set_option maxRecDepth 20000 in
theorem gX7_run_X7_sumHeart : GoodIn wsX7_run (wsV RX7 91 RX7 yX7_sumHeart wsX7_sumHeart) := goodIn_app (goodIn_of _ (by decide +kernel)) ggX7_run_X7_sumHeart
set_option maxRecDepth 20000 in
theorem ggX7_run_X7_lay : GoodIn wsX7_run wsX7_lay := goodIn_r _ [50, 1, 2, 55, 56, 57, 58, 59, 60, 61, 62, 63, 64, 65, 66, 67, 68, 69] (by decide +kernel) (by decide +kernel)
set_option maxRecDepth 20000 in
theorem gX7_run_X7_lay : GoodIn wsX7_run (wsV RX7 94 RX7 yX7_lay wsX7_lay) := goodIn_app (goodIn_of _ (by decide +kernel)) ggX7_run_X7_lay
set_option maxRecDepth 20000 in
theorem ggX7_run_X7_sumKept : GoodIn wsX7_run wsX7_sumKept := goodIn_r _ [54, 1, 35, 36, 37, 6, 38, 2, 43, 44, 45, 46, 14, 26, 39, 40, 41, 42, 55, 56, 57, 58, 59, 60, 61, 62, 63, 64, 65, 66, 67, 68, 69] (by decide +kernel) (by decide +kernel)
set_option maxRecDepth 20000 in
theorem gX7_run_X7_sumKept : GoodIn wsX7_run (wsV RX7 97 RX7 yX7_sumKept wsX7_sumKept) := goodIn_app (goodIn_of _ (by decide +kernel)) ggX7_run_X7_sumKept
theorem dX7_run_0 : decode cX7_run 0 = .ok (.aload_n 0, 1) := by decide +kernel
theorem dX7_run_1 : decode cX7_run 1 = .ok (.invokevirtual 85, 3) := by decide +kernel
theorem dX7_run_4 : decode cX7_run 4 = .ok (.aload_n 0, 1) := by decide +kernel
theorem dX7_run_5 : decode cX7_run 5 = .ok (.getfield 7, 3) := by decide +kernel
theorem dX7_run_8 : decode cX7_run 8 = .ok (.bipush 26, 2) := by decide +kernel
theorem dX7_run_10 : decode cX7_run 10 = .ok (.iaload, 1) := by decide +kernel
theorem dX7_run_11 : decode cX7_run 11 = .ok (.bipush 12, 2) := by decide +kernel
theorem dX7_run_13 : decode cX7_run 13 = .ok (.if_icmp .ne 8, 3) := by decide +kernel
theorem dX7_run_16 : decode cX7_run 16 = .ok (.aload_n 0, 1) := by decide +kernel
theorem dX7_run_17 : decode cX7_run 17 = .ok (.iconst 0, 1) := by decide +kernel
theorem dX7_run_18 : decode cX7_run 18 = .ok (.invokevirtual 88, 3) := by decide +kernel
theorem dX7_run_21 : decode cX7_run 21 = .ok (.aload_n 0, 1) := by decide +kernel
theorem dX7_run_22 : decode cX7_run 22 = .ok (.aload_n 0, 1) := by decide +kernel
theorem dX7_run_23 : decode cX7_run 23 = .ok (.getfield 7, 3) := by decide +kernel
theorem dX7_run_26 : decode cX7_run 26 = .ok (.bipush 15, 2) := by decide +kernel
theorem dX7_run_28 : decode cX7_run 28 = .ok (.iaload, 1) := by decide +kernel
theorem dX7_run_29 : decode cX7_run 29 = .ok (.aload_n 0, 1) := by decide +kernel
theorem dX7_run_30 : decode cX7_run 30 = .ok (.getfield 7, 3) := by decide +kernel
theorem dX7_run_33 : decode cX7_run 33 = .ok (.bipush 16, 2) := by decide +kernel
theorem dX7_run_35 : decode cX7_run 35 = .ok (.iaload, 1) := by decide +kernel
theorem dX7_run_36 : decode cX7_run 36 = .ok (.invokevirtual 91, 3) := by decide +kernel
theorem dX7_run_39 : decode cX7_run 39 = .ok (.aload_n 0, 1) := by decide +kernel
theorem dX7_run_40 : decode cX7_run 40 = .ok (.getfield 29, 3) := by decide +kernel
theorem dX7_run_43 : decode cX7_run 43 = .ok (.iconst 0, 1) := by decide +kernel
theorem dX7_run_44 : decode cX7_run 44 = .ok (.iaload, 1) := by decide +kernel
theorem dX7_run_45 : decode cX7_run 45 = .ok (.istore_n 1, 1) := by decide +kernel
theorem dX7_run_46 : decode cX7_run 46 = .ok (.aload_n 0, 1) := by decide +kernel
theorem dX7_run_47 : decode cX7_run 47 = .ok (.bipush 27, 2) := by decide +kernel
theorem dX7_run_49 : decode cX7_run 49 = .ok (.iconst 4, 1) := by decide +kernel
theorem dX7_run_50 : decode cX7_run 50 = .ok (.aload_n 0, 1) := by decide +kernel
theorem dX7_run_51 : decode cX7_run 51 = .ok (.getfield 7, 3) := by decide +kernel
theorem dX7_run_54 : decode cX7_run 54 = .ok (.bipush 26, 2) := by decide +kernel
theorem dX7_run_56 : decode cX7_run 56 = .ok (.iaload, 1) := by decide +kernel
theorem dX7_run_57 : decode cX7_run 57 = .ok (.imul, 1) := by decide +kernel
theorem dX7_run_58 : decode cX7_run 58 = .ok (.iadd, 1) := by decide +kernel
theorem dX7_run_59 : decode cX7_run 59 = .ok (.invokevirtual 94, 3) := by decide +kernel
theorem dX7_run_62 : decode cX7_run 62 = .ok (.aload_n 0, 1) := by decide +kernel
theorem dX7_run_63 : decode cX7_run 63 = .ok (.getfield 7, 3) := by decide +kernel
theorem dX7_run_66 : decode cX7_run 66 = .ok (.bipush 26, 2) := by decide +kernel
theorem dX7_run_68 : decode cX7_run 68 = .ok (.dup2, 1) := by decide +kernel
theorem dX7_run_69 : decode cX7_run 69 = .ok (.iaload, 1) := by decide +kernel
theorem dX7_run_70 : decode cX7_run 70 = .ok (.iconst 1, 1) := by decide +kernel
theorem dX7_run_71 : decode cX7_run 71 = .ok (.iadd, 1) := by decide +kernel
theorem dX7_run_72 : decode cX7_run 72 = .ok (.iastore, 1) := by decide +kernel
theorem dX7_run_73 : decode cX7_run 73 = .ok (.aload_n 0, 1) := by decide +kernel
theorem dX7_run_74 : decode cX7_run 74 = .ok (.invokevirtual 97, 3) := by decide +kernel
theorem dX7_run_77 : decode cX7_run 77 = .ok (.aload_n 0, 1) := by decide +kernel
theorem dX7_run_78 : decode cX7_run 78 = .ok (.bipush 21, 2) := by decide +kernel
theorem dX7_run_80 : decode cX7_run 80 = .ok (.invokevirtual 94, 3) := by decide +kernel
theorem dX7_run_83 : decode cX7_run 83 = .ok (.aload_n 0, 1) := by decide +kernel
theorem dX7_run_84 : decode cX7_run 84 = .ok (.getfield 7, 3) := by decide +kernel
theorem dX7_run_87 : decode cX7_run 87 = .ok (.bipush 25, 2) := by decide +kernel
theorem dX7_run_89 : decode cX7_run 89 = .ok (.dup2, 1) := by decide +kernel
theorem dX7_run_90 : decode cX7_run 90 = .ok (.iaload, 1) := by decide +kernel
theorem dX7_run_91 : decode cX7_run 91 = .ok (.iconst 1, 1) := by decide +kernel
theorem dX7_run_92 : decode cX7_run 92 = .ok (.iadd, 1) := by decide +kernel
theorem dX7_run_93 : decode cX7_run 93 = .ok (.iastore, 1) := by decide +kernel
theorem dX7_run_94 : decode cX7_run 94 = .ok (.iload_n 1, 1) := by decide +kernel
theorem dX7_run_95 : decode cX7_run 95 = .ok (.ireturn, 1) := by decide +kernel
set_option maxRecDepth 20000 in
theorem ggX7_litre_X7_goNext : GoodIn wsX7_litre wsX7_goNext := goodIn_r _ [8, 3, 9, 10, 11, 7, 12, 13, 14, 1, 15, 16, 17, 18, 19, 20, 21, 22, 23, 24, 25, 2, 33, 34, 35, 36, 37, 38, 39, 40, 41, 42, 43, 44, 45, 46, 47] (by decide +kernel) (by decide +kernel)
set_option maxRecDepth 20000 in
theorem gX7_litre_X7_goNext : GoodIn wsX7_litre (wsV RX7 85 RX7 yX7_goNext wsX7_goNext) := goodIn_app (goodIn_of _ (by decide +kernel)) ggX7_litre_X7_goNext
set_option maxRecDepth 20000 in
theorem ggX7_litre_X7_in : GoodIn wsX7_litre wsX7_in := goodIn_r _ [28] (by decide +kernel) (by decide +kernel)
set_option maxRecDepth 20000 in
theorem gX7_litre_X7_in : GoodIn wsX7_litre (va_wsS RX7 42 yX7_in wsX7_in) := goodIn_app (goodIn_of _ (by decide +kernel)) ggX7_litre_X7_in
set_option maxRecDepth 20000 in
theorem ggX7_litre_X7_tailsFrom : GoodIn wsX7_litre wsX7_tailsFrom := goodIn_r _ [32, 1, 2, 33, 34, 35, 36, 37, 38, 39, 40, 41, 42, 43, 44, 45, 46, 47] (by decide +kernel) (by decide +kernel)
set_option maxRecDepth 20000 in
theorem gX7_litre_X7_tailsFrom : GoodIn wsX7_litre (wsV RX7 74 RX7 yX7_tailsFrom wsX7_tailsFrom) := goodIn_app (goodIn_of _ (by decide +kernel)) ggX7_litre_X7_tailsFrom
theorem dX7_litre_0 : decode cX7_litre 0 = .ok (.aload_n 0, 1) := by decide +kernel
theorem dX7_litre_1 : decode cX7_litre 1 = .ok (.invokevirtual 85, 3) := by decide +kernel
theorem dX7_litre_4 : decode cX7_litre 4 = .ok (.iload_n 1, 1) := by decide +kernel
theorem dX7_litre_5 : decode cX7_litre 5 = .ok (.iconst (-1), 1) := by decide +kernel
theorem dX7_litre_6 : decode cX7_litre 6 = .ok (.aload_n 0, 1) := by decide +kernel
theorem dX7_litre_7 : decode cX7_litre 7 = .ok (.getfield 55, 3) := by decide +kernel
theorem dX7_litre_10 : decode cX7_litre 10 = .ok (.iconst 1, 1) := by decide +kernel
theorem dX7_litre_11 : decode cX7_litre 11 = .ok (.isub, 1) := by decide +kernel
theorem dX7_litre_12 : decode cX7_litre 12 = .ok (.invokestatic 42, 3) := by decide +kernel
theorem dX7_litre_15 : decode cX7_litre 15 = .ok (.ifCond .ne 5, 3) := by decide +kernel
theorem dX7_litre_18 : decode cX7_litre 18 = .ok (.iconst (-1), 1) := by decide +kernel
theorem dX7_litre_19 : decode cX7_litre 19 = .ok (.ireturn, 1) := by decide +kernel
theorem dX7_litre_20 : decode cX7_litre 20 = .ok (.iload_n 2, 1) := by decide +kernel
theorem dX7_litre_21 : decode cX7_litre 21 = .ok (.iconst 0, 1) := by decide +kernel
theorem dX7_litre_22 : decode cX7_litre 22 = .ok (.iconst 4, 1) := by decide +kernel
theorem dX7_litre_23 : decode cX7_litre 23 = .ok (.invokestatic 42, 3) := by decide +kernel
theorem dX7_litre_26 : decode cX7_litre 26 = .ok (.ifCond .ne 6, 3) := by decide +kernel
theorem dX7_litre_29 : decode cX7_litre 29 = .ok (.bipush (-2), 2) := by decide +kernel
theorem dX7_litre_31 : decode cX7_litre 31 = .ok (.ireturn, 1) := by decide +kernel
theorem dX7_litre_32 : decode cX7_litre 32 = .ok (.iload_n 1, 1) := by decide +kernel
theorem dX7_litre_33 : decode cX7_litre 33 = .ok (.iconst (-1), 1) := by decide +kernel
theorem dX7_litre_34 : decode cX7_litre 34 = .ok (.if_icmp .ne 8, 3) := by decide +kernel
theorem dX7_litre_37 : decode cX7_litre 37 = .ok (.aload_n 0, 1) := by decide +kernel
theorem dX7_litre_38 : decode cX7_litre 38 = .ok (.getfield 55, 3) := by decide +kernel
theorem dX7_litre_41 : decode cX7_litre 41 = .ok (.ireturn, 1) := by decide +kernel
theorem dX7_litre_42 : decode cX7_litre 42 = .ok (.iload_n 2, 1) := by decide +kernel
theorem dX7_litre_43 : decode cX7_litre 43 = .ok (.iconst 4, 1) := by decide +kernel
theorem dX7_litre_44 : decode cX7_litre 44 = .ok (.if_icmp .ge 14, 3) := by decide +kernel
theorem dX7_litre_47 : decode cX7_litre 47 = .ok (.aload_n 0, 1) := by decide +kernel
theorem dX7_litre_48 : decode cX7_litre 48 = .ok (.getfield 20, 3) := by decide +kernel
theorem dX7_litre_51 : decode cX7_litre 51 = .ok (.iconst 4, 1) := by decide +kernel
theorem dX7_litre_52 : decode cX7_litre 52 = .ok (.iload_n 1, 1) := by decide +kernel
theorem dX7_litre_53 : decode cX7_litre 53 = .ok (.imul, 1) := by decide +kernel
theorem dX7_litre_54 : decode cX7_litre 54 = .ok (.iload_n 2, 1) := by decide +kernel
theorem dX7_litre_55 : decode cX7_litre 55 = .ok (.iadd, 1) := by decide +kernel
theorem dX7_litre_56 : decode cX7_litre 56 = .ok (.iaload, 1) := by decide +kernel
theorem dX7_litre_57 : decode cX7_litre 57 = .ok (.ireturn, 1) := by decide +kernel
theorem dX7_litre_58 : decode cX7_litre 58 = .ok (.iload_n 1, 1) := by decide +kernel
theorem dX7_litre_59 : decode cX7_litre 59 = .ok (.aload_n 0, 1) := by decide +kernel
theorem dX7_litre_60 : decode cX7_litre 60 = .ok (.getfield 7, 3) := by decide +kernel
theorem dX7_litre_63 : decode cX7_litre 63 = .ok (.bipush 15, 2) := by decide +kernel
theorem dX7_litre_65 : decode cX7_litre 65 = .ok (.iaload, 1) := by decide +kernel
theorem dX7_litre_66 : decode cX7_litre 66 = .ok (.if_icmp .ge 7, 3) := by decide +kernel
theorem dX7_litre_69 : decode cX7_litre 69 = .ok (.iconst 0, 1) := by decide +kernel
theorem dX7_litre_70 : decode cX7_litre 70 = .ok (.goto 30, 3) := by decide +kernel
theorem dX7_litre_73 : decode cX7_litre 73 = .ok (.iload_n 1, 1) := by decide +kernel
theorem dX7_litre_74 : decode cX7_litre 74 = .ok (.aload_n 0, 1) := by decide +kernel
theorem dX7_litre_75 : decode cX7_litre 75 = .ok (.aload_n 0, 1) := by decide +kernel
theorem dX7_litre_76 : decode cX7_litre 76 = .ok (.getfield 7, 3) := by decide +kernel
theorem dX7_litre_79 : decode cX7_litre 79 = .ok (.bipush 15, 2) := by decide +kernel
theorem dX7_litre_81 : decode cX7_litre 81 = .ok (.iaload, 1) := by decide +kernel
theorem dX7_litre_82 : decode cX7_litre 82 = .ok (.aload_n 0, 1) := by decide +kernel
theorem dX7_litre_83 : decode cX7_litre 83 = .ok (.getfield 7, 3) := by decide +kernel
theorem dX7_litre_86 : decode cX7_litre 86 = .ok (.bipush 16, 2) := by decide +kernel
theorem dX7_litre_88 : decode cX7_litre 88 = .ok (.iaload, 1) := by decide +kernel
theorem dX7_litre_89 : decode cX7_litre 89 = .ok (.invokevirtual 74, 3) := by decide +kernel
theorem dX7_litre_92 : decode cX7_litre 92 = .ok (.if_icmp .ge 7, 3) := by decide +kernel
theorem dX7_litre_95 : decode cX7_litre 95 = .ok (.iconst 1, 1) := by decide +kernel
theorem dX7_litre_96 : decode cX7_litre 96 = .ok (.goto 4, 3) := by decide +kernel
theorem dX7_litre_99 : decode cX7_litre 99 = .ok (.iconst 2, 1) := by decide +kernel
theorem dX7_litre_100 : decode cX7_litre 100 = .ok (.ireturn, 1) := by decide +kernel
set_option maxRecDepth 20000 in
theorem ggX7_part_X7_in : GoodIn wsX7_part wsX7_in := goodIn_r _ [7] (by decide +kernel) (by decide +kernel)
set_option maxRecDepth 20000 in
theorem gX7_part_X7_in : GoodIn wsX7_part (va_wsS RX7 42 yX7_in wsX7_in) := goodIn_app (goodIn_of _ (by decide +kernel)) ggX7_part_X7_in
set_option maxRecDepth 20000 in
theorem ggX7_part_X7_goNext : GoodIn wsX7_part wsX7_goNext := goodIn_r _ [11, 2, 12, 13, 14, 6, 15, 1, 3, 16, 17, 18, 19, 20, 21, 22, 23, 24, 25, 26, 27, 28, 53, 54, 55, 56, 57, 58, 59, 60, 61, 62, 63, 64, 65, 66, 67] (by decide +kernel) (by decide +kernel)
set_option maxRecDepth 20000 in
theorem gX7_part_X7_goNext : GoodIn wsX7_part (wsV RX7 85 RX7 yX7_goNext wsX7_goNext) := goodIn_app (goodIn_of _ (by decide +kernel)) ggX7_part_X7_goNext
set_option maxRecDepth 20000 in
theorem ggX7_part_X7_beginSum : GoodIn wsX7_part wsX7_beginSum := goodIn_r _ [32, 33, 53, 54, 55, 56, 57, 58, 59, 60, 61, 62, 63, 64, 65, 66, 67] (by decide +kernel) (by decide +kernel)
set_option maxRecDepth 20000 in
theorem gX7_part_X7_beginSum : GoodIn wsX7_part (wsV RX7 71 RX7 yX7_beginSum wsX7_beginSum) := goodIn_app (goodIn_of _ (by decide +kernel)) ggX7_part_X7_beginSum
set_option maxRecDepth 20000 in
theorem ggX7_part_X7_ofLiquid : GoodIn wsX7_part wsX7_ofLiquid := goodIn_r _ [36, 17, 18, 6, 19] (by decide +kernel) (by decide +kernel)
set_option maxRecDepth 20000 in
theorem gX7_part_X7_ofLiquid : GoodIn wsX7_part (va_wsS RX7 81 yX7_ofLiquid wsX7_ofLiquid) := goodIn_app (goodIn_of _ (by decide +kernel)) ggX7_part_X7_ofLiquid
set_option maxRecDepth 20000 in
theorem ggX7_part_X7_addLitres : GoodIn wsX7_part wsX7_addLitres := goodIn_r _ [40, 16, 33, 28, 53, 54, 55, 56, 57, 58, 59, 60, 61, 62, 63, 64, 65, 66, 67] (by decide +kernel) (by decide +kernel)
set_option maxRecDepth 20000 in
theorem gX7_part_X7_addLitres : GoodIn wsX7_part (wsV RX7 77 RX7 yX7_addLitres wsX7_addLitres) := goodIn_app (goodIn_of _ (by decide +kernel)) ggX7_part_X7_addLitres
set_option maxRecDepth 20000 in
theorem ggX7_part_X7_ofSum : GoodIn wsX7_part wsX7_ofSum := goodIn_r _ [44, 33, 34, 35, 6, 36, 17, 18, 19, 53, 54, 55, 56, 57, 58, 59, 60, 61, 62, 63, 64, 65, 66, 67] (by decide +kernel) (by decide +kernel)
set_option maxRecDepth 20000 in
theorem gX7_part_X7_ofSum : GoodIn wsX7_part (wsV RX7 100 RX7 yX7_ofSum wsX7_ofSum) := goodIn_app (goodIn_of _ (by decide +kernel)) ggX7_part_X7_ofSum
set_option maxRecDepth 20000 in
theorem ggX7_part_X7_sumHeart : GoodIn wsX7_part wsX7_sumHeart := goodIn_r _ [48, 29, 30, 31, 6, 32, 33, 49, 50, 51, 52, 16, 28, 37, 38, 39, 40, 53, 54, 55, 56, 57, 58, 59, 60, 61, 62, 63, 64, 65, 66, 67] (by decide +kernel) (by decide +kernel)
set_option maxRecDepth 20000 in
theorem gX7_part_X7_sumHeart : GoodIn wsX7_part (wsV RX7 91 RX7 yX7_sumHeart wsX7_sumHeart) := goodIn_app (goodIn_of _ (by decide +kernel)) ggX7_part_X7_sumHeart
set_option maxRecDepth 20000 in
theorem ggX7_part_X7_tailsFrom : GoodIn wsX7_part wsX7_tailsFrom := goodIn_r _ [52, 16, 28, 53, 54, 55, 56, 57, 58, 59, 60, 61, 62, 63, 64, 65, 66, 67] (by decide +kernel) (by decide +kernel)
set_option maxRecDepth 20000 in
theorem gX7_part_X7_tailsFrom : GoodIn wsX7_part (wsV RX7 74 RX7 yX7_tailsFrom wsX7_tailsFrom) := goodIn_app (goodIn_of _ (by decide +kernel)) ggX7_part_X7_tailsFrom
theorem dX7_part_0 : decode cX7_part 0 = .ok (.iload_n 1, 1) := by decide +kernel
theorem dX7_part_1 : decode cX7_part 1 = .ok (.iconst 0, 1) := by decide +kernel
theorem dX7_part_2 : decode cX7_part 2 = .ok (.iconst 4, 1) := by decide +kernel
theorem dX7_part_3 : decode cX7_part 3 = .ok (.invokestatic 42, 3) := by decide +kernel
theorem dX7_part_6 : decode cX7_part 6 = .ok (.ifCond .eq 12, 3) := by decide +kernel
theorem dX7_part_9 : decode cX7_part 9 = .ok (.iload_n 2, 1) := by decide +kernel
theorem dX7_part_10 : decode cX7_part 10 = .ok (.iconst 0, 1) := by decide +kernel
theorem dX7_part_11 : decode cX7_part 11 = .ok (.iconst 5, 1) := by decide +kernel
theorem dX7_part_12 : decode cX7_part 12 = .ok (.invokestatic 42, 3) := by decide +kernel
theorem dX7_part_15 : decode cX7_part 15 = .ok (.ifCond .ne 6, 3) := by decide +kernel
theorem dX7_part_18 : decode cX7_part 18 = .ok (.bipush (-2), 2) := by decide +kernel
theorem dX7_part_20 : decode cX7_part 20 = .ok (.ireturn, 1) := by decide +kernel
theorem dX7_part_21 : decode cX7_part 21 = .ok (.aload_n 0, 1) := by decide +kernel
theorem dX7_part_22 : decode cX7_part 22 = .ok (.invokevirtual 85, 3) := by decide +kernel
theorem dX7_part_25 : decode cX7_part 25 = .ok (.aload_n 0, 1) := by decide +kernel
theorem dX7_part_26 : decode cX7_part 26 = .ok (.invokevirtual 71, 3) := by decide +kernel
theorem dX7_part_29 : decode cX7_part 29 = .ok (.iload_n 1, 1) := by decide +kernel
theorem dX7_part_30 : decode cX7_part 30 = .ok (.tableswitch 131 0 3 #[30, 59, 77, 101], 30) := by decide +kernel
theorem dX7_part_60 : decode cX7_part 60 = .ok (.iload_n 2, 1) := by decide +kernel
theorem dX7_part_61 : decode cX7_part 61 = .ok (.aload_n 0, 1) := by decide +kernel
theorem dX7_part_62 : decode cX7_part 62 = .ok (.getfield 26, 3) := by decide +kernel
theorem dX7_part_65 : decode cX7_part 65 = .ok (.iconst 0, 1) := by decide +kernel
theorem dX7_part_66 : decode cX7_part 66 = .ok (.iaload, 1) := by decide +kernel
theorem dX7_part_67 : decode cX7_part 67 = .ok (.aload_n 0, 1) := by decide +kernel
theorem dX7_part_68 : decode cX7_part 68 = .ok (.getfield 26, 3) := by decide +kernel
theorem dX7_part_71 : decode cX7_part 71 = .ok (.iconst 1, 1) := by decide +kernel
theorem dX7_part_72 : decode cX7_part 72 = .ok (.iaload, 1) := by decide +kernel
theorem dX7_part_73 : decode cX7_part 73 = .ok (.aload_n 0, 1) := by decide +kernel
theorem dX7_part_74 : decode cX7_part 74 = .ok (.getfield 26, 3) := by decide +kernel
theorem dX7_part_77 : decode cX7_part 77 = .ok (.iconst 2, 1) := by decide +kernel
theorem dX7_part_78 : decode cX7_part 78 = .ok (.iaload, 1) := by decide +kernel
theorem dX7_part_79 : decode cX7_part 79 = .ok (.aload_n 0, 1) := by decide +kernel
theorem dX7_part_80 : decode cX7_part 80 = .ok (.getfield 26, 3) := by decide +kernel
theorem dX7_part_83 : decode cX7_part 83 = .ok (.iconst 3, 1) := by decide +kernel
theorem dX7_part_84 : decode cX7_part 84 = .ok (.iaload, 1) := by decide +kernel
theorem dX7_part_85 : decode cX7_part 85 = .ok (.invokestatic 81, 3) := by decide +kernel
theorem dX7_part_88 : decode cX7_part 88 = .ok (.ireturn, 1) := by decide +kernel
theorem dX7_part_89 : decode cX7_part 89 = .ok (.aload_n 0, 1) := by decide +kernel
theorem dX7_part_90 : decode cX7_part 90 = .ok (.iconst 0, 1) := by decide +kernel
theorem dX7_part_91 : decode cX7_part 91 = .ok (.aload_n 0, 1) := by decide +kernel
theorem dX7_part_92 : decode cX7_part 92 = .ok (.getfield 7, 3) := by decide +kernel
theorem dX7_part_95 : decode cX7_part 95 = .ok (.bipush 15, 2) := by decide +kernel
theorem dX7_part_97 : decode cX7_part 97 = .ok (.iaload, 1) := by decide +kernel
theorem dX7_part_98 : decode cX7_part 98 = .ok (.invokevirtual 77, 3) := by decide +kernel
theorem dX7_part_101 : decode cX7_part 101 = .ok (.aload_n 0, 1) := by decide +kernel
theorem dX7_part_102 : decode cX7_part 102 = .ok (.iload_n 2, 1) := by decide +kernel
theorem dX7_part_103 : decode cX7_part 103 = .ok (.invokevirtual 100, 3) := by decide +kernel
theorem dX7_part_106 : decode cX7_part 106 = .ok (.ireturn, 1) := by decide +kernel
theorem dX7_part_107 : decode cX7_part 107 = .ok (.aload_n 0, 1) := by decide +kernel
theorem dX7_part_108 : decode cX7_part 108 = .ok (.aload_n 0, 1) := by decide +kernel
theorem dX7_part_109 : decode cX7_part 109 = .ok (.getfield 7, 3) := by decide +kernel
theorem dX7_part_112 : decode cX7_part 112 = .ok (.bipush 15, 2) := by decide +kernel
theorem dX7_part_114 : decode cX7_part 114 = .ok (.iaload, 1) := by decide +kernel
theorem dX7_part_115 : decode cX7_part 115 = .ok (.aload_n 0, 1) := by decide +kernel
theorem dX7_part_116 : decode cX7_part 116 = .ok (.getfield 7, 3) := by decide +kernel
theorem dX7_part_119 : decode cX7_part 119 = .ok (.bipush 16, 2) := by decide +kernel
theorem dX7_part_121 : decode cX7_part 121 = .ok (.iaload, 1) := by decide +kernel
theorem dX7_part_122 : decode cX7_part 122 = .ok (.invokevirtual 91, 3) := by decide +kernel
theorem dX7_part_125 : decode cX7_part 125 = .ok (.aload_n 0, 1) := by decide +kernel
theorem dX7_part_126 : decode cX7_part 126 = .ok (.iload_n 2, 1) := by decide +kernel
theorem dX7_part_127 : decode cX7_part 127 = .ok (.invokevirtual 100, 3) := by decide +kernel
theorem dX7_part_130 : decode cX7_part 130 = .ok (.ireturn, 1) := by decide +kernel
theorem dX7_part_131 : decode cX7_part 131 = .ok (.aload_n 0, 1) := by decide +kernel
theorem dX7_part_132 : decode cX7_part 132 = .ok (.aload_n 0, 1) := by decide +kernel
theorem dX7_part_133 : decode cX7_part 133 = .ok (.aload_n 0, 1) := by decide +kernel
theorem dX7_part_134 : decode cX7_part 134 = .ok (.getfield 7, 3) := by decide +kernel
theorem dX7_part_137 : decode cX7_part 137 = .ok (.bipush 15, 2) := by decide +kernel
theorem dX7_part_139 : decode cX7_part 139 = .ok (.iaload, 1) := by decide +kernel
theorem dX7_part_140 : decode cX7_part 140 = .ok (.aload_n 0, 1) := by decide +kernel
theorem dX7_part_141 : decode cX7_part 141 = .ok (.getfield 7, 3) := by decide +kernel
theorem dX7_part_144 : decode cX7_part 144 = .ok (.bipush 16, 2) := by decide +kernel
theorem dX7_part_146 : decode cX7_part 146 = .ok (.iaload, 1) := by decide +kernel
theorem dX7_part_147 : decode cX7_part 147 = .ok (.invokevirtual 74, 3) := by decide +kernel
theorem dX7_part_150 : decode cX7_part 150 = .ok (.bipush 40, 2) := by decide +kernel
theorem dX7_part_152 : decode cX7_part 152 = .ok (.invokevirtual 77, 3) := by decide +kernel
theorem dX7_part_155 : decode cX7_part 155 = .ok (.aload_n 0, 1) := by decide +kernel
theorem dX7_part_156 : decode cX7_part 156 = .ok (.iload_n 2, 1) := by decide +kernel
theorem dX7_part_157 : decode cX7_part 157 = .ok (.invokevirtual 100, 3) := by decide +kernel
theorem dX7_part_160 : decode cX7_part 160 = .ok (.ireturn, 1) := by decide +kernel
theorem dX7_part_161 : decode cX7_part 161 = .ok (.iload_n 2, 1) := by decide +kernel
theorem dX7_part_162 : decode cX7_part 162 = .ok (.aload_n 0, 1) := by decide +kernel
theorem dX7_part_163 : decode cX7_part 163 = .ok (.getfield 23, 3) := by decide +kernel
theorem dX7_part_166 : decode cX7_part 166 = .ok (.iconst 0, 1) := by decide +kernel
theorem dX7_part_167 : decode cX7_part 167 = .ok (.iaload, 1) := by decide +kernel
theorem dX7_part_168 : decode cX7_part 168 = .ok (.aload_n 0, 1) := by decide +kernel
theorem dX7_part_169 : decode cX7_part 169 = .ok (.getfield 23, 3) := by decide +kernel
theorem dX7_part_172 : decode cX7_part 172 = .ok (.iconst 1, 1) := by decide +kernel
theorem dX7_part_173 : decode cX7_part 173 = .ok (.iaload, 1) := by decide +kernel
theorem dX7_part_174 : decode cX7_part 174 = .ok (.aload_n 0, 1) := by decide +kernel
theorem dX7_part_175 : decode cX7_part 175 = .ok (.getfield 23, 3) := by decide +kernel
theorem dX7_part_178 : decode cX7_part 178 = .ok (.iconst 2, 1) := by decide +kernel
theorem dX7_part_179 : decode cX7_part 179 = .ok (.iaload, 1) := by decide +kernel
theorem dX7_part_180 : decode cX7_part 180 = .ok (.aload_n 0, 1) := by decide +kernel
theorem dX7_part_181 : decode cX7_part 181 = .ok (.getfield 23, 3) := by decide +kernel
theorem dX7_part_184 : decode cX7_part 184 = .ok (.iconst 3, 1) := by decide +kernel
theorem dX7_part_185 : decode cX7_part 185 = .ok (.iaload, 1) := by decide +kernel
theorem dX7_part_186 : decode cX7_part 186 = .ok (.invokestatic 81, 3) := by decide +kernel
theorem dX7_part_189 : decode cX7_part 189 = .ok (.ireturn, 1) := by decide +kernel
set_option maxRecDepth 20000 in
theorem ggX7_ofCell_X7_ofLiquid : GoodIn wsX7_ofCell wsX7_ofLiquid := goodIn_r _ [5, 6, 7, 4, 8] (by decide +kernel) (by decide +kernel)
set_option maxRecDepth 20000 in
theorem gX7_ofCell_X7_ofLiquid : GoodIn wsX7_ofCell (va_wsS RX7 81 yX7_ofLiquid wsX7_ofLiquid) := goodIn_app (goodIn_of _ (by decide +kernel)) ggX7_ofCell_X7_ofLiquid
theorem dX7_ofCell_0 : decode cX7_ofCell 0 = .ok (.iload_n 2, 1) := by decide +kernel
theorem dX7_ofCell_1 : decode cX7_ofCell 1 = .ok (.aload_n 0, 1) := by decide +kernel
theorem dX7_ofCell_2 : decode cX7_ofCell 2 = .ok (.getfield 7, 3) := by decide +kernel
theorem dX7_ofCell_5 : decode cX7_ofCell 5 = .ok (.iload_n 1, 1) := by decide +kernel
theorem dX7_ofCell_6 : decode cX7_ofCell 6 = .ok (.iaload, 1) := by decide +kernel
theorem dX7_ofCell_7 : decode cX7_ofCell 7 = .ok (.aload_n 0, 1) := by decide +kernel
theorem dX7_ofCell_8 : decode cX7_ofCell 8 = .ok (.getfield 7, 3) := by decide +kernel
theorem dX7_ofCell_11 : decode cX7_ofCell 11 = .ok (.iload_n 1, 1) := by decide +kernel
theorem dX7_ofCell_12 : decode cX7_ofCell 12 = .ok (.iconst 1, 1) := by decide +kernel
theorem dX7_ofCell_13 : decode cX7_ofCell 13 = .ok (.iadd, 1) := by decide +kernel
theorem dX7_ofCell_14 : decode cX7_ofCell 14 = .ok (.iaload, 1) := by decide +kernel
theorem dX7_ofCell_15 : decode cX7_ofCell 15 = .ok (.aload_n 0, 1) := by decide +kernel
theorem dX7_ofCell_16 : decode cX7_ofCell 16 = .ok (.getfield 7, 3) := by decide +kernel
theorem dX7_ofCell_19 : decode cX7_ofCell 19 = .ok (.iload_n 1, 1) := by decide +kernel
theorem dX7_ofCell_20 : decode cX7_ofCell 20 = .ok (.iconst 2, 1) := by decide +kernel
theorem dX7_ofCell_21 : decode cX7_ofCell 21 = .ok (.iadd, 1) := by decide +kernel
theorem dX7_ofCell_22 : decode cX7_ofCell 22 = .ok (.iaload, 1) := by decide +kernel
theorem dX7_ofCell_23 : decode cX7_ofCell 23 = .ok (.aload_n 0, 1) := by decide +kernel
theorem dX7_ofCell_24 : decode cX7_ofCell 24 = .ok (.getfield 7, 3) := by decide +kernel
theorem dX7_ofCell_27 : decode cX7_ofCell 27 = .ok (.iload_n 1, 1) := by decide +kernel
theorem dX7_ofCell_28 : decode cX7_ofCell 28 = .ok (.iconst 3, 1) := by decide +kernel
theorem dX7_ofCell_29 : decode cX7_ofCell 29 = .ok (.iadd, 1) := by decide +kernel
theorem dX7_ofCell_30 : decode cX7_ofCell 30 = .ok (.iaload, 1) := by decide +kernel
theorem dX7_ofCell_31 : decode cX7_ofCell 31 = .ok (.invokestatic 81, 3) := by decide +kernel
theorem dX7_ofCell_34 : decode cX7_ofCell 34 = .ok (.ireturn, 1) := by decide +kernel
set_option maxRecDepth 20000 in
theorem ggX7_kept_X7_in : GoodIn wsX7_kept wsX7_in := goodIn_r _ [4] (by decide +kernel) (by decide +kernel)
set_option maxRecDepth 20000 in
theorem gX7_kept_X7_in : GoodIn wsX7_kept (va_wsS RX7 42 yX7_in wsX7_in) := goodIn_app (goodIn_of _ (by decide +kernel)) ggX7_kept_X7_in
set_option maxRecDepth 20000 in
theorem ggX7_kept_X7_ofCell : GoodIn wsX7_kept wsX7_ofCell := goodIn_r _ [8, 9, 10, 11, 3, 12, 13, 14, 15, 16, 17, 18, 19, 20, 21, 22, 23, 24, 25, 26, 27, 28, 29, 30] (by decide +kernel) (by decide +kernel)
set_option maxRecDepth 20000 in
theorem gX7_kept_X7_ofCell : GoodIn wsX7_kept (wsV RX7 103 RX7 yX7_ofCell wsX7_ofCell) := goodIn_app (goodIn_of _ (by decide +kernel)) ggX7_kept_X7_ofCell
theorem dX7_kept_0 : decode cX7_kept 0 = .ok (.iload_n 1, 1) := by decide +kernel
theorem dX7_kept_1 : decode cX7_kept 1 = .ok (.iconst 0, 1) := by decide +kernel
theorem dX7_kept_2 : decode cX7_kept 2 = .ok (.iconst 5, 1) := by decide +kernel
theorem dX7_kept_3 : decode cX7_kept 3 = .ok (.invokestatic 42, 3) := by decide +kernel
theorem dX7_kept_6 : decode cX7_kept 6 = .ok (.ifCond .eq 13, 3) := by decide +kernel
theorem dX7_kept_9 : decode cX7_kept 9 = .ok (.aload_n 0, 1) := by decide +kernel
theorem dX7_kept_10 : decode cX7_kept 10 = .ok (.bipush 21, 2) := by decide +kernel
theorem dX7_kept_12 : decode cX7_kept 12 = .ok (.iload_n 1, 1) := by decide +kernel
theorem dX7_kept_13 : decode cX7_kept 13 = .ok (.invokevirtual 103, 3) := by decide +kernel
theorem dX7_kept_16 : decode cX7_kept 16 = .ok (.goto 5, 3) := by decide +kernel
theorem dX7_kept_19 : decode cX7_kept 19 = .ok (.bipush (-2), 2) := by decide +kernel
theorem dX7_kept_21 : decode cX7_kept 21 = .ok (.ireturn, 1) := by decide +kernel
set_option maxRecDepth 20000 in
theorem ggX7_pour_X7_beginSum : GoodIn wsX7_pour wsX7_beginSum := goodIn_r _ [6, 7, 12, 13, 14, 15, 16, 17, 18, 19, 20, 21, 22, 23, 24, 25, 26] (by decide +kernel) (by decide +kernel)
set_option maxRecDepth 20000 in
theorem gX7_pour_X7_beginSum : GoodIn wsX7_pour (wsV RX7 71 RX7 yX7_beginSum wsX7_beginSum) := goodIn_app (goodIn_of _ (by decide +kernel)) ggX7_pour_X7_beginSum
set_option maxRecDepth 20000 in
theorem ggX7_pour_X7_lay : GoodIn wsX7_pour wsX7_lay := goodIn_r _ [11, 1, 7, 12, 13, 14, 15, 16, 17, 18, 19, 20, 21, 22, 23, 24, 25, 26] (by decide +kernel) (by decide +kernel)
set_option maxRecDepth 20000 in
theorem gX7_pour_X7_lay : GoodIn wsX7_pour (wsV RX7 94 RX7 yX7_lay wsX7_lay) := goodIn_app (goodIn_of _ (by decide +kernel)) ggX7_pour_X7_lay
theorem dX7_pour_0 : decode cX7_pour 0 = .ok (.aload_n 0, 1) := by decide +kernel
theorem dX7_pour_1 : decode cX7_pour 1 = .ok (.getfield 7, 3) := by decide +kernel
theorem dX7_pour_4 : decode cX7_pour 4 = .ok (.bipush 21, 2) := by decide +kernel
theorem dX7_pour_6 : decode cX7_pour 6 = .ok (.iaload, 1) := by decide +kernel
theorem dX7_pour_7 : decode cX7_pour 7 = .ok (.istore_n 1, 1) := by decide +kernel
theorem dX7_pour_8 : decode cX7_pour 8 = .ok (.aload_n 0, 1) := by decide +kernel
theorem dX7_pour_9 : decode cX7_pour 9 = .ok (.invokevirtual 71, 3) := by decide +kernel
theorem dX7_pour_12 : decode cX7_pour 12 = .ok (.aload_n 0, 1) := by decide +kernel
theorem dX7_pour_13 : decode cX7_pour 13 = .ok (.bipush 21, 2) := by decide +kernel
theorem dX7_pour_15 : decode cX7_pour 15 = .ok (.invokevirtual 94, 3) := by decide +kernel
theorem dX7_pour_18 : decode cX7_pour 18 = .ok (.iload_n 1, 1) := by decide +kernel
theorem dX7_pour_19 : decode cX7_pour 19 = .ok (.ireturn, 1) := by decide +kernel
set_option maxRecDepth 20000 in
theorem ggX7_layRuns_X7_goRun : GoodIn wsX7_layRuns wsX7_goRun := goodIn_r _ [9, 10, 2, 11, 12, 13, 14, 8, 15, 16, 17, 18, 19, 20, 21, 22, 23, 24, 45, 46, 47, 48, 49, 50, 51, 52, 53, 54, 55, 56, 57, 58, 59] (by decide +kernel) (by decide +kernel)
set_option maxRecDepth 20000 in
theorem gX7_layRuns_X7_goRun : GoodIn wsX7_layRuns (wsV RX7 67 RX7 yX7_goRun wsX7_goRun) := goodIn_app (goodIn_of _ (by decide +kernel)) ggX7_layRuns_X7_goRun
set_option maxRecDepth 20000 in
theorem ggX7_layRuns_X7_sumHeart : GoodIn wsX7_layRuns wsX7_sumHeart := goodIn_r _ [28, 29, 30, 31, 8, 32, 4, 33, 34, 35, 36, 12, 24, 37, 38, 39, 40, 45, 46, 47, 48, 49, 50, 51, 52, 53, 54, 55, 56, 57, 58, 59] (by decide +kernel) (by decide +kernel)
set_option maxRecDepth 20000 in
theorem gX7_layRuns_X7_sumHeart : GoodIn wsX7_layRuns (wsV RX7 91 RX7 yX7_sumHeart wsX7_sumHeart) := goodIn_app (goodIn_of _ (by decide +kernel)) ggX7_layRuns_X7_sumHeart
set_option maxRecDepth 20000 in
theorem ggX7_layRuns_X7_sumKept : GoodIn wsX7_layRuns wsX7_sumKept := goodIn_r _ [44, 2, 29, 30, 31, 8, 32, 4, 37, 38, 39, 40, 12, 24, 33, 34, 35, 36, 45, 46, 47, 48, 49, 50, 51, 52, 53, 54, 55, 56, 57, 58, 59] (by decide +kernel) (by decide +kernel)
set_option maxRecDepth 20000 in
theorem gX7_layRuns_X7_sumKept : GoodIn wsX7_layRuns (wsV RX7 97 RX7 yX7_sumKept wsX7_sumKept) := goodIn_app (goodIn_of _ (by decide +kernel)) ggX7_layRuns_X7_sumKept
theorem dX7_layRuns_0 : decode cX7_layRuns 0 = .ok (.iconst 0, 1) := by decide +kernel
theorem dX7_layRuns_1 : decode cX7_layRuns 1 = .ok (.istore_n 1, 1) := by decide +kernel
theorem dX7_layRuns_2 : decode cX7_layRuns 2 = .ok (.iload_n 1, 1) := by decide +kernel
theorem dX7_layRuns_3 : decode cX7_layRuns 3 = .ok (.iconst 4, 1) := by decide +kernel
theorem dX7_layRuns_4 : decode cX7_layRuns 4 = .ok (.if_icmp .ge 24, 3) := by decide +kernel
theorem dX7_layRuns_7 : decode cX7_layRuns 7 = .ok (.aload_n 0, 1) := by decide +kernel
theorem dX7_layRuns_8 : decode cX7_layRuns 8 = .ok (.getfield 32, 3) := by decide +kernel
theorem dX7_layRuns_11 : decode cX7_layRuns 11 = .ok (.iload_n 1, 1) := by decide +kernel
theorem dX7_layRuns_12 : decode cX7_layRuns 12 = .ok (.aload_n 0, 1) := by decide +kernel
theorem dX7_layRuns_13 : decode cX7_layRuns 13 = .ok (.getfield 7, 3) := by decide +kernel
theorem dX7_layRuns_16 : decode cX7_layRuns 16 = .ok (.bipush 21, 2) := by decide +kernel
theorem dX7_layRuns_18 : decode cX7_layRuns 18 = .ok (.iload_n 1, 1) := by decide +kernel
theorem dX7_layRuns_19 : decode cX7_layRuns 19 = .ok (.iadd, 1) := by decide +kernel
theorem dX7_layRuns_20 : decode cX7_layRuns 20 = .ok (.iaload, 1) := by decide +kernel
theorem dX7_layRuns_21 : decode cX7_layRuns 21 = .ok (.iastore, 1) := by decide +kernel
theorem dX7_layRuns_22 : decode cX7_layRuns 22 = .ok (.iinc 1 1, 3) := by decide +kernel
theorem dX7_layRuns_25 : decode cX7_layRuns 25 = .ok (.goto (-23), 3) := by decide +kernel
theorem dX7_layRuns_28 : decode cX7_layRuns 28 = .ok (.iconst 0, 1) := by decide +kernel
theorem dX7_layRuns_29 : decode cX7_layRuns 29 = .ok (.istore_n 1, 1) := by decide +kernel
theorem dX7_layRuns_30 : decode cX7_layRuns 30 = .ok (.iload_n 1, 1) := by decide +kernel
theorem dX7_layRuns_31 : decode cX7_layRuns 31 = .ok (.sipush 300, 3) := by decide +kernel
theorem dX7_layRuns_34 : decode cX7_layRuns 34 = .ok (.if_icmp .ge 134, 3) := by decide +kernel
theorem dX7_layRuns_37 : decode cX7_layRuns 37 = .ok (.aload_n 0, 1) := by decide +kernel
theorem dX7_layRuns_38 : decode cX7_layRuns 38 = .ok (.aload_n 0, 1) := by decide +kernel
theorem dX7_layRuns_39 : decode cX7_layRuns 39 = .ok (.getfield 32, 3) := by decide +kernel
theorem dX7_layRuns_42 : decode cX7_layRuns 42 = .ok (.iconst 4, 1) := by decide +kernel
theorem dX7_layRuns_43 : decode cX7_layRuns 43 = .ok (.iload_n 1, 1) := by decide +kernel
theorem dX7_layRuns_44 : decode cX7_layRuns 44 = .ok (.imul, 1) := by decide +kernel
theorem dX7_layRuns_45 : decode cX7_layRuns 45 = .ok (.iaload, 1) := by decide +kernel
theorem dX7_layRuns_46 : decode cX7_layRuns 46 = .ok (.aload_n 0, 1) := by decide +kernel
theorem dX7_layRuns_47 : decode cX7_layRuns 47 = .ok (.getfield 32, 3) := by decide +kernel
theorem dX7_layRuns_50 : decode cX7_layRuns 50 = .ok (.iconst 4, 1) := by decide +kernel
theorem dX7_layRuns_51 : decode cX7_layRuns 51 = .ok (.iload_n 1, 1) := by decide +kernel
theorem dX7_layRuns_52 : decode cX7_layRuns 52 = .ok (.imul, 1) := by decide +kernel
theorem dX7_layRuns_53 : decode cX7_layRuns 53 = .ok (.iconst 1, 1) := by decide +kernel
theorem dX7_layRuns_54 : decode cX7_layRuns 54 = .ok (.iadd, 1) := by decide +kernel
theorem dX7_layRuns_55 : decode cX7_layRuns 55 = .ok (.iaload, 1) := by decide +kernel
theorem dX7_layRuns_56 : decode cX7_layRuns 56 = .ok (.aload_n 0, 1) := by decide +kernel
theorem dX7_layRuns_57 : decode cX7_layRuns 57 = .ok (.getfield 32, 3) := by decide +kernel
theorem dX7_layRuns_60 : decode cX7_layRuns 60 = .ok (.iconst 4, 1) := by decide +kernel
theorem dX7_layRuns_61 : decode cX7_layRuns 61 = .ok (.iload_n 1, 1) := by decide +kernel
theorem dX7_layRuns_62 : decode cX7_layRuns 62 = .ok (.imul, 1) := by decide +kernel
theorem dX7_layRuns_63 : decode cX7_layRuns 63 = .ok (.iconst 2, 1) := by decide +kernel
theorem dX7_layRuns_64 : decode cX7_layRuns 64 = .ok (.iadd, 1) := by decide +kernel
theorem dX7_layRuns_65 : decode cX7_layRuns 65 = .ok (.iaload, 1) := by decide +kernel
theorem dX7_layRuns_66 : decode cX7_layRuns 66 = .ok (.aload_n 0, 1) := by decide +kernel
theorem dX7_layRuns_67 : decode cX7_layRuns 67 = .ok (.getfield 32, 3) := by decide +kernel
theorem dX7_layRuns_70 : decode cX7_layRuns 70 = .ok (.iconst 4, 1) := by decide +kernel
theorem dX7_layRuns_71 : decode cX7_layRuns 71 = .ok (.iload_n 1, 1) := by decide +kernel
theorem dX7_layRuns_72 : decode cX7_layRuns 72 = .ok (.imul, 1) := by decide +kernel
theorem dX7_layRuns_73 : decode cX7_layRuns 73 = .ok (.iconst 3, 1) := by decide +kernel
theorem dX7_layRuns_74 : decode cX7_layRuns 74 = .ok (.iadd, 1) := by decide +kernel
theorem dX7_layRuns_75 : decode cX7_layRuns 75 = .ok (.iaload, 1) := by decide +kernel
theorem dX7_layRuns_76 : decode cX7_layRuns 76 = .ok (.invokevirtual 67, 3) := by decide +kernel
theorem dX7_layRuns_79 : decode cX7_layRuns 79 = .ok (.aload_n 0, 1) := by decide +kernel
theorem dX7_layRuns_80 : decode cX7_layRuns 80 = .ok (.aload_n 0, 1) := by decide +kernel
theorem dX7_layRuns_81 : decode cX7_layRuns 81 = .ok (.getfield 7, 3) := by decide +kernel
theorem dX7_layRuns_84 : decode cX7_layRuns 84 = .ok (.bipush 15, 2) := by decide +kernel
theorem dX7_layRuns_86 : decode cX7_layRuns 86 = .ok (.iaload, 1) := by decide +kernel
theorem dX7_layRuns_87 : decode cX7_layRuns 87 = .ok (.aload_n 0, 1) := by decide +kernel
theorem dX7_layRuns_88 : decode cX7_layRuns 88 = .ok (.getfield 7, 3) := by decide +kernel
theorem dX7_layRuns_91 : decode cX7_layRuns 91 = .ok (.bipush 16, 2) := by decide +kernel
theorem dX7_layRuns_93 : decode cX7_layRuns 93 = .ok (.iaload, 1) := by decide +kernel
theorem dX7_layRuns_94 : decode cX7_layRuns 94 = .ok (.invokevirtual 91, 3) := by decide +kernel
theorem dX7_layRuns_97 : decode cX7_layRuns 97 = .ok (.aload_n 0, 1) := by decide +kernel
theorem dX7_layRuns_98 : decode cX7_layRuns 98 = .ok (.getfield 35, 3) := by decide +kernel
theorem dX7_layRuns_101 : decode cX7_layRuns 101 = .ok (.iconst 2, 1) := by decide +kernel
theorem dX7_layRuns_102 : decode cX7_layRuns 102 = .ok (.iload_n 1, 1) := by decide +kernel
theorem dX7_layRuns_103 : decode cX7_layRuns 103 = .ok (.imul, 1) := by decide +kernel
theorem dX7_layRuns_104 : decode cX7_layRuns 104 = .ok (.aload_n 0, 1) := by decide +kernel
theorem dX7_layRuns_105 : decode cX7_layRuns 105 = .ok (.getfield 29, 3) := by decide +kernel
theorem dX7_layRuns_108 : decode cX7_layRuns 108 = .ok (.iconst 0, 1) := by decide +kernel
theorem dX7_layRuns_109 : decode cX7_layRuns 109 = .ok (.iaload, 1) := by decide +kernel
theorem dX7_layRuns_110 : decode cX7_layRuns 110 = .ok (.iastore, 1) := by decide +kernel
theorem dX7_layRuns_111 : decode cX7_layRuns 111 = .ok (.aload_n 0, 1) := by decide +kernel
theorem dX7_layRuns_112 : decode cX7_layRuns 112 = .ok (.getfield 35, 3) := by decide +kernel
theorem dX7_layRuns_115 : decode cX7_layRuns 115 = .ok (.iconst 2, 1) := by decide +kernel
theorem dX7_layRuns_116 : decode cX7_layRuns 116 = .ok (.iload_n 1, 1) := by decide +kernel
theorem dX7_layRuns_117 : decode cX7_layRuns 117 = .ok (.imul, 1) := by decide +kernel
theorem dX7_layRuns_118 : decode cX7_layRuns 118 = .ok (.iconst 1, 1) := by decide +kernel
theorem dX7_layRuns_119 : decode cX7_layRuns 119 = .ok (.iadd, 1) := by decide +kernel
theorem dX7_layRuns_120 : decode cX7_layRuns 120 = .ok (.aload_n 0, 1) := by decide +kernel
theorem dX7_layRuns_121 : decode cX7_layRuns 121 = .ok (.getfield 29, 3) := by decide +kernel
theorem dX7_layRuns_124 : decode cX7_layRuns 124 = .ok (.iconst 1, 1) := by decide +kernel
theorem dX7_layRuns_125 : decode cX7_layRuns 125 = .ok (.iaload, 1) := by decide +kernel
theorem dX7_layRuns_126 : decode cX7_layRuns 126 = .ok (.iastore, 1) := by decide +kernel
theorem dX7_layRuns_127 : decode cX7_layRuns 127 = .ok (.aload_n 0, 1) := by decide +kernel
theorem dX7_layRuns_128 : decode cX7_layRuns 128 = .ok (.invokevirtual 97, 3) := by decide +kernel
theorem dX7_layRuns_131 : decode cX7_layRuns 131 = .ok (.iconst 0, 1) := by decide +kernel
theorem dX7_layRuns_132 : decode cX7_layRuns 132 = .ok (.istore_n 2, 1) := by decide +kernel
theorem dX7_layRuns_133 : decode cX7_layRuns 133 = .ok (.iload_n 2, 1) := by decide +kernel
theorem dX7_layRuns_134 : decode cX7_layRuns 134 = .ok (.iconst 4, 1) := by decide +kernel
theorem dX7_layRuns_135 : decode cX7_layRuns 135 = .ok (.if_icmp .ge 27, 3) := by decide +kernel
theorem dX7_layRuns_138 : decode cX7_layRuns 138 = .ok (.aload_n 0, 1) := by decide +kernel
theorem dX7_layRuns_139 : decode cX7_layRuns 139 = .ok (.getfield 32, 3) := by decide +kernel
theorem dX7_layRuns_142 : decode cX7_layRuns 142 = .ok (.iconst 4, 1) := by decide +kernel
theorem dX7_layRuns_143 : decode cX7_layRuns 143 = .ok (.iload_n 1, 1) := by decide +kernel
theorem dX7_layRuns_144 : decode cX7_layRuns 144 = .ok (.imul, 1) := by decide +kernel
theorem dX7_layRuns_145 : decode cX7_layRuns 145 = .ok (.iconst 4, 1) := by decide +kernel
theorem dX7_layRuns_146 : decode cX7_layRuns 146 = .ok (.iadd, 1) := by decide +kernel
theorem dX7_layRuns_147 : decode cX7_layRuns 147 = .ok (.iload_n 2, 1) := by decide +kernel
theorem dX7_layRuns_148 : decode cX7_layRuns 148 = .ok (.iadd, 1) := by decide +kernel
theorem dX7_layRuns_149 : decode cX7_layRuns 149 = .ok (.aload_n 0, 1) := by decide +kernel
theorem dX7_layRuns_150 : decode cX7_layRuns 150 = .ok (.getfield 29, 3) := by decide +kernel
theorem dX7_layRuns_153 : decode cX7_layRuns 153 = .ok (.iload_n 2, 1) := by decide +kernel
theorem dX7_layRuns_154 : decode cX7_layRuns 154 = .ok (.iaload, 1) := by decide +kernel
theorem dX7_layRuns_155 : decode cX7_layRuns 155 = .ok (.iastore, 1) := by decide +kernel
theorem dX7_layRuns_156 : decode cX7_layRuns 156 = .ok (.iinc 2 1, 3) := by decide +kernel
theorem dX7_layRuns_159 : decode cX7_layRuns 159 = .ok (.goto (-26), 3) := by decide +kernel
theorem dX7_layRuns_162 : decode cX7_layRuns 162 = .ok (.iinc 1 1, 3) := by decide +kernel
theorem dX7_layRuns_165 : decode cX7_layRuns 165 = .ok (.goto (-135), 3) := by decide +kernel
theorem dX7_layRuns_168 : decode cX7_layRuns 168 = .ok (.return_, 1) := by decide +kernel
theorem dX7_areAlike_0 : decode cX7_areAlike 0 = .ok (.iconst 1, 1) := by decide +kernel
theorem dX7_areAlike_1 : decode cX7_areAlike 1 = .ok (.istore_n 3, 1) := by decide +kernel
theorem dX7_areAlike_2 : decode cX7_areAlike 2 = .ok (.iconst 0, 1) := by decide +kernel
theorem dX7_areAlike_3 : decode cX7_areAlike 3 = .ok (.istore 4, 2) := by decide +kernel
theorem dX7_areAlike_5 : decode cX7_areAlike 5 = .ok (.iload 4, 2) := by decide +kernel
theorem dX7_areAlike_7 : decode cX7_areAlike 7 = .ok (.iconst 4, 1) := by decide +kernel
theorem dX7_areAlike_8 : decode cX7_areAlike 8 = .ok (.if_icmp .ge 44, 3) := by decide +kernel
theorem dX7_areAlike_11 : decode cX7_areAlike 11 = .ok (.iload_n 3, 1) := by decide +kernel
theorem dX7_areAlike_12 : decode cX7_areAlike 12 = .ok (.ifCond .eq 32, 3) := by decide +kernel
theorem dX7_areAlike_15 : decode cX7_areAlike 15 = .ok (.aload_n 0, 1) := by decide +kernel
theorem dX7_areAlike_16 : decode cX7_areAlike 16 = .ok (.getfield 32, 3) := by decide +kernel
theorem dX7_areAlike_19 : decode cX7_areAlike 19 = .ok (.iconst 4, 1) := by decide +kernel
theorem dX7_areAlike_20 : decode cX7_areAlike 20 = .ok (.iload_n 1, 1) := by decide +kernel
theorem dX7_areAlike_21 : decode cX7_areAlike 21 = .ok (.imul, 1) := by decide +kernel
theorem dX7_areAlike_22 : decode cX7_areAlike 22 = .ok (.iload 4, 2) := by decide +kernel
theorem dX7_areAlike_24 : decode cX7_areAlike 24 = .ok (.iadd, 1) := by decide +kernel
theorem dX7_areAlike_25 : decode cX7_areAlike 25 = .ok (.iaload, 1) := by decide +kernel
theorem dX7_areAlike_26 : decode cX7_areAlike 26 = .ok (.aload_n 0, 1) := by decide +kernel
theorem dX7_areAlike_27 : decode cX7_areAlike 27 = .ok (.getfield 32, 3) := by decide +kernel
theorem dX7_areAlike_30 : decode cX7_areAlike 30 = .ok (.iconst 4, 1) := by decide +kernel
theorem dX7_areAlike_31 : decode cX7_areAlike 31 = .ok (.iload_n 2, 1) := by decide +kernel
theorem dX7_areAlike_32 : decode cX7_areAlike 32 = .ok (.imul, 1) := by decide +kernel
theorem dX7_areAlike_33 : decode cX7_areAlike 33 = .ok (.iload 4, 2) := by decide +kernel
theorem dX7_areAlike_35 : decode cX7_areAlike 35 = .ok (.iadd, 1) := by decide +kernel
theorem dX7_areAlike_36 : decode cX7_areAlike 36 = .ok (.iaload, 1) := by decide +kernel
theorem dX7_areAlike_37 : decode cX7_areAlike 37 = .ok (.if_icmp .ne 7, 3) := by decide +kernel
theorem dX7_areAlike_40 : decode cX7_areAlike 40 = .ok (.iconst 1, 1) := by decide +kernel
theorem dX7_areAlike_41 : decode cX7_areAlike 41 = .ok (.goto 4, 3) := by decide +kernel
theorem dX7_areAlike_44 : decode cX7_areAlike 44 = .ok (.iconst 0, 1) := by decide +kernel
theorem dX7_areAlike_45 : decode cX7_areAlike 45 = .ok (.istore_n 3, 1) := by decide +kernel
theorem dX7_areAlike_46 : decode cX7_areAlike 46 = .ok (.iinc 4 1, 3) := by decide +kernel
theorem dX7_areAlike_49 : decode cX7_areAlike 49 = .ok (.goto (-44), 3) := by decide +kernel
theorem dX7_areAlike_52 : decode cX7_areAlike 52 = .ok (.iload_n 3, 1) := by decide +kernel
theorem dX7_areAlike_53 : decode cX7_areAlike 53 = .ok (.ireturn, 1) := by decide +kernel
set_option maxRecDepth 20000 in
theorem ggX7_earlier_X7_areAlike : GoodIn wsX7_earlier wsX7_areAlike := goodIn_r _ [5, 6, 7, 8, 9, 10, 11, 12, 13, 14, 15, 16, 17, 18, 19, 20, 21] (by decide +kernel) (by decide +kernel)
set_option maxRecDepth 20000 in
theorem gX7_earlier_X7_areAlike : GoodIn wsX7_earlier (wsV RX7 106 RX7 yX7_areAlike wsX7_areAlike) := goodIn_app (goodIn_of _ (by decide +kernel)) ggX7_earlier_X7_areAlike
theorem dX7_earlier_0 : decode cX7_earlier 0 = .ok (.iconst 0, 1) := by decide +kernel
theorem dX7_earlier_1 : decode cX7_earlier 1 = .ok (.istore_n 2, 1) := by decide +kernel
theorem dX7_earlier_2 : decode cX7_earlier 2 = .ok (.iload_n 2, 1) := by decide +kernel
theorem dX7_earlier_3 : decode cX7_earlier 3 = .ok (.iload_n 1, 1) := by decide +kernel
theorem dX7_earlier_4 : decode cX7_earlier 4 = .ok (.if_icmp .ge 20, 3) := by decide +kernel
theorem dX7_earlier_7 : decode cX7_earlier 7 = .ok (.aload_n 0, 1) := by decide +kernel
theorem dX7_earlier_8 : decode cX7_earlier 8 = .ok (.iload_n 2, 1) := by decide +kernel
theorem dX7_earlier_9 : decode cX7_earlier 9 = .ok (.iload_n 1, 1) := by decide +kernel
theorem dX7_earlier_10 : decode cX7_earlier 10 = .ok (.invokevirtual 106, 3) := by decide +kernel
theorem dX7_earlier_13 : decode cX7_earlier 13 = .ok (.ifCond .eq 5, 3) := by decide +kernel
theorem dX7_earlier_16 : decode cX7_earlier 16 = .ok (.iload_n 2, 1) := by decide +kernel
theorem dX7_earlier_17 : decode cX7_earlier 17 = .ok (.ireturn, 1) := by decide +kernel
theorem dX7_earlier_18 : decode cX7_earlier 18 = .ok (.iinc 2 1, 3) := by decide +kernel
theorem dX7_earlier_21 : decode cX7_earlier 21 = .ok (.goto (-19), 3) := by decide +kernel
theorem dX7_earlier_24 : decode cX7_earlier 24 = .ok (.bipush (-6), 2) := by decide +kernel
theorem dX7_earlier_26 : decode cX7_earlier 26 = .ok (.ireturn, 1) := by decide +kernel
theorem dX7_heartsOf_0 : decode cX7_heartsOf 0 = .ok (.iconst 0, 1) := by decide +kernel
theorem dX7_heartsOf_1 : decode cX7_heartsOf 1 = .ok (.istore 4, 2) := by decide +kernel
theorem dX7_heartsOf_3 : decode cX7_heartsOf 3 = .ok (.iload_n 1, 1) := by decide +kernel
theorem dX7_heartsOf_4 : decode cX7_heartsOf 4 = .ok (.istore 5, 2) := by decide +kernel
theorem dX7_heartsOf_6 : decode cX7_heartsOf 6 = .ok (.iload 5, 2) := by decide +kernel
theorem dX7_heartsOf_8 : decode cX7_heartsOf 8 = .ok (.iload_n 2, 1) := by decide +kernel
theorem dX7_heartsOf_9 : decode cX7_heartsOf 9 = .ok (.if_icmp .ge 25, 3) := by decide +kernel
theorem dX7_heartsOf_12 : decode cX7_heartsOf 12 = .ok (.iload 4, 2) := by decide +kernel
theorem dX7_heartsOf_14 : decode cX7_heartsOf 14 = .ok (.aload_n 0, 1) := by decide +kernel
theorem dX7_heartsOf_15 : decode cX7_heartsOf 15 = .ok (.getfield 35, 3) := by decide +kernel
theorem dX7_heartsOf_18 : decode cX7_heartsOf 18 = .ok (.iconst 2, 1) := by decide +kernel
theorem dX7_heartsOf_19 : decode cX7_heartsOf 19 = .ok (.iload 5, 2) := by decide +kernel
theorem dX7_heartsOf_21 : decode cX7_heartsOf 21 = .ok (.imul, 1) := by decide +kernel
theorem dX7_heartsOf_22 : decode cX7_heartsOf 22 = .ok (.iload_n 3, 1) := by decide +kernel
theorem dX7_heartsOf_23 : decode cX7_heartsOf 23 = .ok (.iadd, 1) := by decide +kernel
theorem dX7_heartsOf_24 : decode cX7_heartsOf 24 = .ok (.iaload, 1) := by decide +kernel
theorem dX7_heartsOf_25 : decode cX7_heartsOf 25 = .ok (.iadd, 1) := by decide +kernel
theorem dX7_heartsOf_26 : decode cX7_heartsOf 26 = .ok (.istore 4, 2) := by decide +kernel
theorem dX7_heartsOf_28 : decode cX7_heartsOf 28 = .ok (.iinc 5 1, 3) := by decide +kernel
theorem dX7_heartsOf_31 : decode cX7_heartsOf 31 = .ok (.goto (-25), 3) := by decide +kernel
theorem dX7_heartsOf_34 : decode cX7_heartsOf 34 = .ok (.iload 4, 2) := by decide +kernel
theorem dX7_heartsOf_36 : decode cX7_heartsOf 36 = .ok (.ireturn, 1) := by decide +kernel
set_option maxRecDepth 20000 in
theorem ggX7_settled_X7_in : GoodIn wsX7_settled wsX7_in := goodIn_r _ [4] (by decide +kernel) (by decide +kernel)
set_option maxRecDepth 20000 in
theorem gX7_settled_X7_in : GoodIn wsX7_settled (va_wsS RX7 42 yX7_in wsX7_in) := goodIn_app (goodIn_of _ (by decide +kernel)) ggX7_settled_X7_in
set_option maxRecDepth 20000 in
theorem ggX7_settled_X7_layRuns : GoodIn wsX7_settled wsX7_layRuns := goodIn_r _ [8, 9, 10, 11, 12, 13, 14, 15, 3, 16, 17, 18, 19, 20, 21, 22, 23, 24, 25, 26, 27, 28, 29, 30, 31, 32, 33, 34, 35, 36, 37, 38, 39, 40, 41, 42, 43, 44, 45, 46, 47, 48, 49, 50, 51, 64, 65, 66, 67, 68, 69, 70, 71, 72, 73, 74, 75, 76, 77, 78] (by decide +kernel) (by decide +kernel)
set_option maxRecDepth 20000 in
theorem gX7_settled_X7_layRuns : GoodIn wsX7_settled (wsV RX7 110 RX7 yX7_layRuns wsX7_layRuns) := goodIn_app (goodIn_of _ (by decide +kernel)) ggX7_settled_X7_layRuns
set_option maxRecDepth 20000 in
theorem ggX7_settled_X7_earlier : GoodIn wsX7_settled wsX7_earlier := goodIn_r _ [55, 56, 57, 58, 3, 59, 9, 64, 65, 66, 67, 68, 69, 70, 71, 72, 73, 74, 75, 76, 77, 78] (by decide +kernel) (by decide +kernel)
set_option maxRecDepth 20000 in
theorem gX7_settled_X7_earlier : GoodIn wsX7_settled (wsV RX7 113 RX7 yX7_earlier wsX7_earlier) := goodIn_app (goodIn_of _ (by decide +kernel)) ggX7_settled_X7_earlier
set_option maxRecDepth 20000 in
theorem ggX7_settled_X7_heartsOf : GoodIn wsX7_settled wsX7_heartsOf := goodIn_r _ [63, 11, 64, 65, 66, 67, 68, 69, 70, 71, 72, 73, 74, 75, 76, 77, 78] (by decide +kernel) (by decide +kernel)
set_option maxRecDepth 20000 in
theorem gX7_settled_X7_heartsOf : GoodIn wsX7_settled (wsV RX7 116 RX7 yX7_heartsOf wsX7_heartsOf) := goodIn_app (goodIn_of _ (by decide +kernel)) ggX7_settled_X7_heartsOf
theorem dX7_settled_0 : decode cX7_settled 0 = .ok (.iload_n 1, 1) := by decide +kernel
theorem dX7_settled_1 : decode cX7_settled 1 = .ok (.iconst 0, 1) := by decide +kernel
theorem dX7_settled_2 : decode cX7_settled 2 = .ok (.iconst 3, 1) := by decide +kernel
theorem dX7_settled_3 : decode cX7_settled 3 = .ok (.invokestatic 42, 3) := by decide +kernel
theorem dX7_settled_6 : decode cX7_settled 6 = .ok (.ifCond .ne 6, 3) := by decide +kernel
theorem dX7_settled_9 : decode cX7_settled 9 = .ok (.bipush (-2), 2) := by decide +kernel
theorem dX7_settled_11 : decode cX7_settled 11 = .ok (.ireturn, 1) := by decide +kernel
theorem dX7_settled_12 : decode cX7_settled 12 = .ok (.aload_n 0, 1) := by decide +kernel
theorem dX7_settled_13 : decode cX7_settled 13 = .ok (.invokevirtual 110, 3) := by decide +kernel
theorem dX7_settled_16 : decode cX7_settled 16 = .ok (.iconst 1, 1) := by decide +kernel
theorem dX7_settled_17 : decode cX7_settled 17 = .ok (.istore_n 2, 1) := by decide +kernel
theorem dX7_settled_18 : decode cX7_settled 18 = .ok (.iload_n 2, 1) := by decide +kernel
theorem dX7_settled_19 : decode cX7_settled 19 = .ok (.sipush 300, 3) := by decide +kernel
theorem dX7_settled_22 : decode cX7_settled 22 = .ok (.if_icmp .gt 48, 3) := by decide +kernel
theorem dX7_settled_25 : decode cX7_settled 25 = .ok (.aload_n 0, 1) := by decide +kernel
theorem dX7_settled_26 : decode cX7_settled 26 = .ok (.iload_n 2, 1) := by decide +kernel
theorem dX7_settled_27 : decode cX7_settled 27 = .ok (.invokevirtual 113, 3) := by decide +kernel
theorem dX7_settled_30 : decode cX7_settled 30 = .ok (.istore_n 3, 1) := by decide +kernel
theorem dX7_settled_31 : decode cX7_settled 31 = .ok (.iload_n 3, 1) := by decide +kernel
theorem dX7_settled_32 : decode cX7_settled 32 = .ok (.ifCond .lt 32, 3) := by decide +kernel
theorem dX7_settled_35 : decode cX7_settled 35 = .ok (.iload_n 1, 1) := by decide +kernel
theorem dX7_settled_36 : decode cX7_settled 36 = .ok (.ifCond .ne 7, 3) := by decide +kernel
theorem dX7_settled_39 : decode cX7_settled 39 = .ok (.iload_n 3, 1) := by decide +kernel
theorem dX7_settled_40 : decode cX7_settled 40 = .ok (.goto 23, 3) := by decide +kernel
theorem dX7_settled_43 : decode cX7_settled 43 = .ok (.iload_n 1, 1) := by decide +kernel
theorem dX7_settled_44 : decode cX7_settled 44 = .ok (.iconst 1, 1) := by decide +kernel
theorem dX7_settled_45 : decode cX7_settled 45 = .ok (.if_icmp .ne 9, 3) := by decide +kernel
theorem dX7_settled_48 : decode cX7_settled 48 = .ok (.iload_n 2, 1) := by decide +kernel
theorem dX7_settled_49 : decode cX7_settled 49 = .ok (.iload_n 3, 1) := by decide +kernel
theorem dX7_settled_50 : decode cX7_settled 50 = .ok (.isub, 1) := by decide +kernel
theorem dX7_settled_51 : decode cX7_settled 51 = .ok (.goto 12, 3) := by decide +kernel
theorem dX7_settled_54 : decode cX7_settled 54 = .ok (.aload_n 0, 1) := by decide +kernel
theorem dX7_settled_55 : decode cX7_settled 55 = .ok (.iload_n 3, 1) := by decide +kernel
theorem dX7_settled_56 : decode cX7_settled 56 = .ok (.iload_n 2, 1) := by decide +kernel
theorem dX7_settled_57 : decode cX7_settled 57 = .ok (.iload_n 1, 1) := by decide +kernel
theorem dX7_settled_58 : decode cX7_settled 58 = .ok (.iconst 2, 1) := by decide +kernel
theorem dX7_settled_59 : decode cX7_settled 59 = .ok (.isub, 1) := by decide +kernel
theorem dX7_settled_60 : decode cX7_settled 60 = .ok (.invokevirtual 116, 3) := by decide +kernel
theorem dX7_settled_63 : decode cX7_settled 63 = .ok (.ireturn, 1) := by decide +kernel
theorem dX7_settled_64 : decode cX7_settled 64 = .ok (.iinc 2 1, 3) := by decide +kernel
theorem dX7_settled_67 : decode cX7_settled 67 = .ok (.goto (-49), 3) := by decide +kernel
theorem dX7_settled_70 : decode cX7_settled 70 = .ok (.bipush (-6), 2) := by decide +kernel
theorem dX7_settled_72 : decode cX7_settled 72 = .ok (.ireturn, 1) := by decide +kernel
set_option maxRecDepth 20000 in
theorem ggX7_tryCuts_X7_sumHeart : GoodIn wsX7_tryCuts wsX7_sumHeart := goodIn_r _ [12, 13, 14, 15, 11, 16, 1, 17, 18, 19, 20, 21, 22, 23, 24, 25, 26, 37, 38, 39, 40, 41, 42, 43, 44, 45, 46, 47, 48, 49, 50, 51] (by decide +kernel) (by decide +kernel)
set_option maxRecDepth 20000 in
theorem gX7_tryCuts_X7_sumHeart : GoodIn wsX7_tryCuts (wsV RX7 91 RX7 yX7_sumHeart wsX7_sumHeart) := goodIn_app (goodIn_of _ (by decide +kernel)) ggX7_tryCuts_X7_sumHeart
set_option maxRecDepth 20000 in
theorem ggX7_tryCuts_X7_ofSum : GoodIn wsX7_tryCuts wsX7_ofSum := goodIn_r _ [30, 1, 31, 32, 11, 33, 34, 35, 36, 37, 38, 39, 40, 41, 42, 43, 44, 45, 46, 47, 48, 49, 50, 51] (by decide +kernel) (by decide +kernel)
set_option maxRecDepth 20000 in
theorem gX7_tryCuts_X7_ofSum : GoodIn wsX7_tryCuts (wsV RX7 100 RX7 yX7_ofSum wsX7_ofSum) := goodIn_app (goodIn_of _ (by decide +kernel)) ggX7_tryCuts_X7_ofSum
theorem dX7_tryCuts_0 : decode cX7_tryCuts 0 = .ok (.aload_n 0, 1) := by decide +kernel
theorem dX7_tryCuts_1 : decode cX7_tryCuts 1 = .ok (.iload_n 1, 1) := by decide +kernel
theorem dX7_tryCuts_2 : decode cX7_tryCuts 2 = .ok (.iload_n 2, 1) := by decide +kernel
theorem dX7_tryCuts_3 : decode cX7_tryCuts 3 = .ok (.invokevirtual 91, 3) := by decide +kernel
theorem dX7_tryCuts_6 : decode cX7_tryCuts 6 = .ok (.aload_n 0, 1) := by decide +kernel
theorem dX7_tryCuts_7 : decode cX7_tryCuts 7 = .ok (.getfield 29, 3) := by decide +kernel
theorem dX7_tryCuts_10 : decode cX7_tryCuts 10 = .ok (.iconst 0, 1) := by decide +kernel
theorem dX7_tryCuts_11 : decode cX7_tryCuts 11 = .ok (.iaload, 1) := by decide +kernel
theorem dX7_tryCuts_12 : decode cX7_tryCuts 12 = .ok (.ifCond .le 70, 3) := by decide +kernel
theorem dX7_tryCuts_15 : decode cX7_tryCuts 15 = .ok (.aload_n 0, 1) := by decide +kernel
theorem dX7_tryCuts_16 : decode cX7_tryCuts 16 = .ok (.iconst 5, 1) := by decide +kernel
theorem dX7_tryCuts_17 : decode cX7_tryCuts 17 = .ok (.invokevirtual 100, 3) := by decide +kernel
theorem dX7_tryCuts_20 : decode cX7_tryCuts 20 = .ok (.aload_n 0, 1) := by decide +kernel
theorem dX7_tryCuts_21 : decode cX7_tryCuts 21 = .ok (.getfield 7, 3) := by decide +kernel
theorem dX7_tryCuts_24 : decode cX7_tryCuts 24 = .ok (.bipush 20, 2) := by decide +kernel
theorem dX7_tryCuts_26 : decode cX7_tryCuts 26 = .ok (.iaload, 1) := by decide +kernel
theorem dX7_tryCuts_27 : decode cX7_tryCuts 27 = .ok (.if_icmp .gt 55, 3) := by decide +kernel
theorem dX7_tryCuts_30 : decode cX7_tryCuts 30 = .ok (.aload_n 0, 1) := by decide +kernel
theorem dX7_tryCuts_31 : decode cX7_tryCuts 31 = .ok (.dup, 1) := by decide +kernel
theorem dX7_tryCuts_32 : decode cX7_tryCuts 32 = .ok (.getfield 120, 3) := by decide +kernel
theorem dX7_tryCuts_35 : decode cX7_tryCuts 35 = .ok (.iconst 1, 1) := by decide +kernel
theorem dX7_tryCuts_36 : decode cX7_tryCuts 36 = .ok (.iadd, 1) := by decide +kernel
theorem dX7_tryCuts_37 : decode cX7_tryCuts 37 = .ok (.putfield 120, 3) := by decide +kernel
theorem dX7_tryCuts_40 : decode cX7_tryCuts 40 = .ok (.aload_n 0, 1) := by decide +kernel
theorem dX7_tryCuts_41 : decode cX7_tryCuts 41 = .ok (.getfield 29, 3) := by decide +kernel
theorem dX7_tryCuts_44 : decode cX7_tryCuts 44 = .ok (.iconst 1, 1) := by decide +kernel
theorem dX7_tryCuts_45 : decode cX7_tryCuts 45 = .ok (.iaload, 1) := by decide +kernel
theorem dX7_tryCuts_46 : decode cX7_tryCuts 46 = .ok (.aload_n 0, 1) := by decide +kernel
theorem dX7_tryCuts_47 : decode cX7_tryCuts 47 = .ok (.getfield 123, 3) := by decide +kernel
theorem dX7_tryCuts_50 : decode cX7_tryCuts 50 = .ok (.if_icmp .le 32, 3) := by decide +kernel
theorem dX7_tryCuts_53 : decode cX7_tryCuts 53 = .ok (.aload_n 0, 1) := by decide +kernel
theorem dX7_tryCuts_54 : decode cX7_tryCuts 54 = .ok (.aload_n 0, 1) := by decide +kernel
theorem dX7_tryCuts_55 : decode cX7_tryCuts 55 = .ok (.getfield 29, 3) := by decide +kernel
theorem dX7_tryCuts_58 : decode cX7_tryCuts 58 = .ok (.iconst 1, 1) := by decide +kernel
theorem dX7_tryCuts_59 : decode cX7_tryCuts 59 = .ok (.iaload, 1) := by decide +kernel
theorem dX7_tryCuts_60 : decode cX7_tryCuts 60 = .ok (.putfield 123, 3) := by decide +kernel
theorem dX7_tryCuts_63 : decode cX7_tryCuts 63 = .ok (.aload_n 0, 1) := by decide +kernel
theorem dX7_tryCuts_64 : decode cX7_tryCuts 64 = .ok (.aload_n 0, 1) := by decide +kernel
theorem dX7_tryCuts_65 : decode cX7_tryCuts 65 = .ok (.iconst 5, 1) := by decide +kernel
theorem dX7_tryCuts_66 : decode cX7_tryCuts 66 = .ok (.invokevirtual 100, 3) := by decide +kernel
theorem dX7_tryCuts_69 : decode cX7_tryCuts 69 = .ok (.putfield 126, 3) := by decide +kernel
theorem dX7_tryCuts_72 : decode cX7_tryCuts 72 = .ok (.aload_n 0, 1) := by decide +kernel
theorem dX7_tryCuts_73 : decode cX7_tryCuts 73 = .ok (.iload_n 1, 1) := by decide +kernel
theorem dX7_tryCuts_74 : decode cX7_tryCuts 74 = .ok (.putfield 129, 3) := by decide +kernel
theorem dX7_tryCuts_77 : decode cX7_tryCuts 77 = .ok (.aload_n 0, 1) := by decide +kernel
theorem dX7_tryCuts_78 : decode cX7_tryCuts 78 = .ok (.iload_n 2, 1) := by decide +kernel
theorem dX7_tryCuts_79 : decode cX7_tryCuts 79 = .ok (.putfield 132, 3) := by decide +kernel
theorem dX7_tryCuts_82 : decode cX7_tryCuts 82 = .ok (.return_, 1) := by decide +kernel
set_option maxRecDepth 20000 in
theorem ggX7_findBest_X7_goNext : GoodIn wsX7_findBest wsX7_goNext := goodIn_r _ [8, 3, 9, 10, 11, 7, 12, 13, 14, 15, 16, 17, 18, 19, 20, 21, 22, 23, 24, 25, 26, 27, 59, 60, 61, 62, 63, 64, 65, 66, 67, 68, 69, 70, 71, 72, 73] (by decide +kernel) (by decide +kernel)
set_option maxRecDepth 20000 in
theorem gX7_findBest_X7_goNext : GoodIn wsX7_findBest (wsV RX7 85 RX7 yX7_goNext wsX7_goNext) := goodIn_app (goodIn_of _ (by decide +kernel)) ggX7_findBest_X7_goNext
set_option maxRecDepth 20000 in
theorem ggX7_findBest_X7_tryCuts : GoodIn wsX7_findBest wsX7_tryCuts := goodIn_r _ [31, 32, 3, 1, 2, 33, 34, 35, 36, 37, 38, 7, 39, 40, 41, 42, 43, 44, 45, 46, 47, 15, 27, 48, 49, 50, 51, 52, 53, 54, 55, 56, 57, 58, 16, 17, 18, 59, 60, 61, 62, 63, 64, 65, 66, 67, 68, 69, 70, 71, 72, 73] (by decide +kernel) (by decide +kernel)
set_option maxRecDepth 20000 in
theorem gX7_findBest_X7_tryCuts : GoodIn wsX7_findBest (wsV RX7 135 RX7 yX7_tryCuts wsX7_tryCuts) := goodIn_app (goodIn_of _ (by decide +kernel)) ggX7_findBest_X7_tryCuts
theorem dX7_findBest_0 : decode cX7_findBest 0 = .ok (.aload_n 0, 1) := by decide +kernel
theorem dX7_findBest_1 : decode cX7_findBest 1 = .ok (.invokevirtual 85, 3) := by decide +kernel
theorem dX7_findBest_4 : decode cX7_findBest 4 = .ok (.aload_n 0, 1) := by decide +kernel
theorem dX7_findBest_5 : decode cX7_findBest 5 = .ok (.iconst 0, 1) := by decide +kernel
theorem dX7_findBest_6 : decode cX7_findBest 6 = .ok (.putfield 120, 3) := by decide +kernel
theorem dX7_findBest_9 : decode cX7_findBest 9 = .ok (.aload_n 0, 1) := by decide +kernel
theorem dX7_findBest_10 : decode cX7_findBest 10 = .ok (.bipush (-6), 2) := by decide +kernel
theorem dX7_findBest_12 : decode cX7_findBest 12 = .ok (.putfield 123, 3) := by decide +kernel
theorem dX7_findBest_15 : decode cX7_findBest 15 = .ok (.iconst 0, 1) := by decide +kernel
theorem dX7_findBest_16 : decode cX7_findBest 16 = .ok (.istore_n 1, 1) := by decide +kernel
theorem dX7_findBest_17 : decode cX7_findBest 17 = .ok (.iload_n 1, 1) := by decide +kernel
theorem dX7_findBest_18 : decode cX7_findBest 18 = .ok (.bipush 10, 2) := by decide +kernel
theorem dX7_findBest_20 : decode cX7_findBest 20 = .ok (.if_icmp .ge 36, 3) := by decide +kernel
theorem dX7_findBest_23 : decode cX7_findBest 23 = .ok (.aload_n 0, 1) := by decide +kernel
theorem dX7_findBest_24 : decode cX7_findBest 24 = .ok (.getfield 7, 3) := by decide +kernel
theorem dX7_findBest_27 : decode cX7_findBest 27 = .ok (.bipush 17, 2) := by decide +kernel
theorem dX7_findBest_29 : decode cX7_findBest 29 = .ok (.iaload, 1) := by decide +kernel
theorem dX7_findBest_30 : decode cX7_findBest 30 = .ok (.istore_n 2, 1) := by decide +kernel
theorem dX7_findBest_31 : decode cX7_findBest 31 = .ok (.iload_n 2, 1) := by decide +kernel
theorem dX7_findBest_32 : decode cX7_findBest 32 = .ok (.sipush 1000, 3) := by decide +kernel
theorem dX7_findBest_35 : decode cX7_findBest 35 = .ok (.if_icmp .gt 15, 3) := by decide +kernel
theorem dX7_findBest_38 : decode cX7_findBest 38 = .ok (.aload_n 0, 1) := by decide +kernel
theorem dX7_findBest_39 : decode cX7_findBest 39 = .ok (.iload_n 1, 1) := by decide +kernel
theorem dX7_findBest_40 : decode cX7_findBest 40 = .ok (.iload_n 2, 1) := by decide +kernel
theorem dX7_findBest_41 : decode cX7_findBest 41 = .ok (.invokevirtual 135, 3) := by decide +kernel
theorem dX7_findBest_44 : decode cX7_findBest 44 = .ok (.iinc 2 50, 3) := by decide +kernel
theorem dX7_findBest_47 : decode cX7_findBest 47 = .ok (.goto (-16), 3) := by decide +kernel
theorem dX7_findBest_50 : decode cX7_findBest 50 = .ok (.iinc 1 1, 3) := by decide +kernel
theorem dX7_findBest_53 : decode cX7_findBest 53 = .ok (.goto (-36), 3) := by decide +kernel
theorem dX7_findBest_56 : decode cX7_findBest 56 = .ok (.return_, 1) := by decide +kernel
set_option maxRecDepth 20000 in
theorem ggX7_best_X7_in : GoodIn wsX7_best wsX7_in := goodIn_r _ [9] (by decide +kernel) (by decide +kernel)
set_option maxRecDepth 20000 in
theorem gX7_best_X7_in : GoodIn wsX7_best (va_wsS RX7 42 yX7_in wsX7_in) := goodIn_app (goodIn_of _ (by decide +kernel)) ggX7_best_X7_in
set_option maxRecDepth 20000 in
theorem ggX7_best_X7_findBest : GoodIn wsX7_best wsX7_findBest := goodIn_r _ [13, 1, 4, 14, 15, 16, 17, 8, 18, 19, 20, 21, 22, 23, 24, 25, 26, 27, 28, 29, 30, 31, 32, 33, 34, 35, 36, 37, 38, 39, 40, 41, 42, 5, 2, 3, 43, 44, 45, 46, 47, 48, 49, 50, 51, 52, 53, 54, 55, 56, 57, 58, 59, 60, 61, 62, 63, 64, 65, 66, 67, 68, 69, 70, 71, 72, 73, 74, 75, 76, 77, 78, 79, 80] (by decide +kernel) (by decide +kernel)
set_option maxRecDepth 20000 in
theorem gX7_best_X7_findBest : GoodIn wsX7_best (wsV RX7 138 RX7 yX7_findBest wsX7_findBest) := goodIn_app (goodIn_of _ (by decide +kernel)) ggX7_best_X7_findBest
theorem dX7_best_0 : decode cX7_best 0 = .ok (.iload_n 1, 1) := by decide +kernel
theorem dX7_best_1 : decode cX7_best 1 = .ok (.iconst 0, 1) := by decide +kernel
theorem dX7_best_2 : decode cX7_best 2 = .ok (.iconst 4, 1) := by decide +kernel
theorem dX7_best_3 : decode cX7_best 3 = .ok (.invokestatic 42, 3) := by decide +kernel
theorem dX7_best_6 : decode cX7_best 6 = .ok (.ifCond .ne 6, 3) := by decide +kernel
theorem dX7_best_9 : decode cX7_best 9 = .ok (.bipush (-2), 2) := by decide +kernel
theorem dX7_best_11 : decode cX7_best 11 = .ok (.ireturn, 1) := by decide +kernel
theorem dX7_best_12 : decode cX7_best 12 = .ok (.aload_n 0, 1) := by decide +kernel
theorem dX7_best_13 : decode cX7_best 13 = .ok (.invokevirtual 138, 3) := by decide +kernel
theorem dX7_best_16 : decode cX7_best 16 = .ok (.iload_n 1, 1) := by decide +kernel
theorem dX7_best_17 : decode cX7_best 17 = .ok (.iconst 4, 1) := by decide +kernel
theorem dX7_best_18 : decode cX7_best 18 = .ok (.if_icmp .ne 8, 3) := by decide +kernel
theorem dX7_best_21 : decode cX7_best 21 = .ok (.aload_n 0, 1) := by decide +kernel
theorem dX7_best_22 : decode cX7_best 22 = .ok (.getfield 120, 3) := by decide +kernel
theorem dX7_best_25 : decode cX7_best 25 = .ok (.ireturn, 1) := by decide +kernel
theorem dX7_best_26 : decode cX7_best 26 = .ok (.aload_n 0, 1) := by decide +kernel
theorem dX7_best_27 : decode cX7_best 27 = .ok (.getfield 120, 3) := by decide +kernel
theorem dX7_best_30 : decode cX7_best 30 = .ok (.ifCond .ne 8, 3) := by decide +kernel
theorem dX7_best_33 : decode cX7_best 33 = .ok (.bipush (-6), 2) := by decide +kernel
theorem dX7_best_35 : decode cX7_best 35 = .ok (.goto 42, 3) := by decide +kernel
theorem dX7_best_38 : decode cX7_best 38 = .ok (.iload_n 1, 1) := by decide +kernel
theorem dX7_best_39 : decode cX7_best 39 = .ok (.ifCond .ne 10, 3) := by decide +kernel
theorem dX7_best_42 : decode cX7_best 42 = .ok (.aload_n 0, 1) := by decide +kernel
theorem dX7_best_43 : decode cX7_best 43 = .ok (.getfield 129, 3) := by decide +kernel
theorem dX7_best_46 : decode cX7_best 46 = .ok (.goto 31, 3) := by decide +kernel
theorem dX7_best_49 : decode cX7_best 49 = .ok (.iload_n 1, 1) := by decide +kernel
theorem dX7_best_50 : decode cX7_best 50 = .ok (.iconst 1, 1) := by decide +kernel
theorem dX7_best_51 : decode cX7_best 51 = .ok (.if_icmp .ne 10, 3) := by decide +kernel
theorem dX7_best_54 : decode cX7_best 54 = .ok (.aload_n 0, 1) := by decide +kernel
theorem dX7_best_55 : decode cX7_best 55 = .ok (.getfield 132, 3) := by decide +kernel
theorem dX7_best_58 : decode cX7_best 58 = .ok (.goto 19, 3) := by decide +kernel
theorem dX7_best_61 : decode cX7_best 61 = .ok (.iload_n 1, 1) := by decide +kernel
theorem dX7_best_62 : decode cX7_best 62 = .ok (.iconst 2, 1) := by decide +kernel
theorem dX7_best_63 : decode cX7_best 63 = .ok (.if_icmp .ne 10, 3) := by decide +kernel
theorem dX7_best_66 : decode cX7_best 66 = .ok (.aload_n 0, 1) := by decide +kernel
theorem dX7_best_67 : decode cX7_best 67 = .ok (.getfield 123, 3) := by decide +kernel
theorem dX7_best_70 : decode cX7_best 70 = .ok (.goto 7, 3) := by decide +kernel
theorem dX7_best_73 : decode cX7_best 73 = .ok (.aload_n 0, 1) := by decide +kernel
theorem dX7_best_74 : decode cX7_best 74 = .ok (.getfield 126, 3) := by decide +kernel
theorem dX7_best_77 : decode cX7_best 77 = .ok (.ireturn, 1) := by decide +kernel
set_option maxRecDepth 20000 in
theorem ggX7_take_X7_findBest : GoodIn wsX7_take wsX7_findBest := goodIn_r _ [10, 1, 5, 2, 11, 12, 13, 9, 14, 15, 16, 17, 18, 19, 20, 21, 22, 23, 24, 25, 26, 27, 28, 29, 30, 31, 32, 33, 34, 35, 36, 37, 38, 39, 3, 4, 40, 41, 42, 43, 44, 45, 46, 47, 48, 49, 50, 51, 52, 53, 54, 55, 56, 57, 58, 59, 60, 61, 62, 63, 64, 65, 66, 67, 68, 69, 70, 71, 72, 73, 74, 75, 76, 77] (by decide +kernel) (by decide +kernel)
set_option maxRecDepth 20000 in
theorem gX7_take_X7_findBest : GoodIn wsX7_take (wsV RX7 138 RX7 yX7_findBest wsX7_findBest) := goodIn_app (goodIn_of _ (by decide +kernel)) ggX7_take_X7_findBest
theorem dX7_take_0 : decode cX7_take 0 = .ok (.aload_n 0, 1) := by decide +kernel
theorem dX7_take_1 : decode cX7_take 1 = .ok (.invokevirtual 138, 3) := by decide +kernel
theorem dX7_take_4 : decode cX7_take 4 = .ok (.aload_n 0, 1) := by decide +kernel
theorem dX7_take_5 : decode cX7_take 5 = .ok (.getfield 120, 3) := by decide +kernel
theorem dX7_take_8 : decode cX7_take 8 = .ok (.ifCond .ne 6, 3) := by decide +kernel
theorem dX7_take_11 : decode cX7_take 11 = .ok (.bipush (-3), 2) := by decide +kernel
theorem dX7_take_13 : decode cX7_take 13 = .ok (.ireturn, 1) := by decide +kernel
theorem dX7_take_14 : decode cX7_take 14 = .ok (.aload_n 0, 1) := by decide +kernel
theorem dX7_take_15 : decode cX7_take 15 = .ok (.getfield 7, 3) := by decide +kernel
theorem dX7_take_18 : decode cX7_take 18 = .ok (.bipush 15, 2) := by decide +kernel
theorem dX7_take_20 : decode cX7_take 20 = .ok (.aload_n 0, 1) := by decide +kernel
theorem dX7_take_21 : decode cX7_take 21 = .ok (.getfield 129, 3) := by decide +kernel
theorem dX7_take_24 : decode cX7_take 24 = .ok (.iastore, 1) := by decide +kernel
theorem dX7_take_25 : decode cX7_take 25 = .ok (.aload_n 0, 1) := by decide +kernel
theorem dX7_take_26 : decode cX7_take 26 = .ok (.getfield 7, 3) := by decide +kernel
theorem dX7_take_29 : decode cX7_take 29 = .ok (.bipush 16, 2) := by decide +kernel
theorem dX7_take_31 : decode cX7_take 31 = .ok (.aload_n 0, 1) := by decide +kernel
theorem dX7_take_32 : decode cX7_take 32 = .ok (.getfield 132, 3) := by decide +kernel
theorem dX7_take_35 : decode cX7_take 35 = .ok (.iastore, 1) := by decide +kernel
theorem dX7_take_36 : decode cX7_take 36 = .ok (.aload_n 0, 1) := by decide +kernel
theorem dX7_take_37 : decode cX7_take 37 = .ok (.getfield 123, 3) := by decide +kernel
theorem dX7_take_40 : decode cX7_take 40 = .ok (.ireturn, 1) := by decide +kernel
set_option maxRecDepth 20000 in
theorem ggX7_cask_X7_in : GoodIn wsX7_cask wsX7_in := goodIn_r _ [5] (by decide +kernel) (by decide +kernel)
set_option maxRecDepth 20000 in
theorem gX7_cask_X7_in : GoodIn wsX7_cask (va_wsS RX7 42 yX7_in wsX7_in) := goodIn_app (goodIn_of _ (by decide +kernel)) ggX7_cask_X7_in
set_option maxRecDepth 20000 in
theorem ggX7_cask_X7_layRuns : GoodIn wsX7_cask wsX7_layRuns := goodIn_r _ [9, 10, 11, 1, 12, 13, 14, 15, 4, 16, 17, 18, 19, 20, 21, 22, 23, 24, 25, 26, 27, 28, 29, 30, 31, 32, 33, 34, 35, 36, 37, 38, 39, 40, 41, 42, 43, 44, 45, 46, 47, 48, 49, 50, 51, 52, 53, 54, 55, 56, 57, 58, 59, 60, 61, 62, 63, 64, 65, 66] (by decide +kernel) (by decide +kernel)
set_option maxRecDepth 20000 in
theorem gX7_cask_X7_layRuns : GoodIn wsX7_cask (wsV RX7 110 RX7 yX7_layRuns wsX7_layRuns) := goodIn_app (goodIn_of _ (by decide +kernel)) ggX7_cask_X7_layRuns
set_option maxRecDepth 20000 in
theorem ggX7_cask_X7_strengthOf : GoodIn wsX7_cask wsX7_strengthOf := goodIn_r _ [22] (by decide +kernel) (by decide +kernel)
set_option maxRecDepth 20000 in
theorem gX7_cask_X7_strengthOf : GoodIn wsX7_cask (va_wsS RX7 59 yX7_strengthOf wsX7_strengthOf) := goodIn_app (goodIn_of _ (by decide +kernel)) ggX7_cask_X7_strengthOf
theorem dX7_cask_0 : decode cX7_cask 0 = .ok (.iload_n 1, 1) := by decide +kernel
theorem dX7_cask_1 : decode cX7_cask 1 = .ok (.iconst 1, 1) := by decide +kernel
theorem dX7_cask_2 : decode cX7_cask 2 = .ok (.sipush 999, 3) := by decide +kernel
theorem dX7_cask_5 : decode cX7_cask 5 = .ok (.invokestatic 42, 3) := by decide +kernel
theorem dX7_cask_8 : decode cX7_cask 8 = .ok (.ifCond .eq 12, 3) := by decide +kernel
theorem dX7_cask_11 : decode cX7_cask 11 = .ok (.iload_n 2, 1) := by decide +kernel
theorem dX7_cask_12 : decode cX7_cask 12 = .ok (.iconst 0, 1) := by decide +kernel
theorem dX7_cask_13 : decode cX7_cask 13 = .ok (.iconst 1, 1) := by decide +kernel
theorem dX7_cask_14 : decode cX7_cask 14 = .ok (.invokestatic 42, 3) := by decide +kernel
theorem dX7_cask_17 : decode cX7_cask 17 = .ok (.ifCond .ne 6, 3) := by decide +kernel
theorem dX7_cask_20 : decode cX7_cask 20 = .ok (.bipush (-2), 2) := by decide +kernel
theorem dX7_cask_22 : decode cX7_cask 22 = .ok (.ireturn, 1) := by decide +kernel
theorem dX7_cask_23 : decode cX7_cask 23 = .ok (.aload_n 0, 1) := by decide +kernel
theorem dX7_cask_24 : decode cX7_cask 24 = .ok (.invokevirtual 110, 3) := by decide +kernel
theorem dX7_cask_27 : decode cX7_cask 27 = .ok (.iconst 0, 1) := by decide +kernel
theorem dX7_cask_28 : decode cX7_cask 28 = .ok (.istore_n 3, 1) := by decide +kernel
theorem dX7_cask_29 : decode cX7_cask 29 = .ok (.iconst 0, 1) := by decide +kernel
theorem dX7_cask_30 : decode cX7_cask 30 = .ok (.istore 4, 2) := by decide +kernel
theorem dX7_cask_32 : decode cX7_cask 32 = .ok (.iconst 0, 1) := by decide +kernel
theorem dX7_cask_33 : decode cX7_cask 33 = .ok (.istore 5, 2) := by decide +kernel
theorem dX7_cask_35 : decode cX7_cask 35 = .ok (.iload 5, 2) := by decide +kernel
theorem dX7_cask_37 : decode cX7_cask 37 = .ok (.sipush 300, 3) := by decide +kernel
theorem dX7_cask_40 : decode cX7_cask 40 = .ok (.if_icmp .ge 60, 3) := by decide +kernel
theorem dX7_cask_43 : decode cX7_cask 43 = .ok (.iload_n 3, 1) := by decide +kernel
theorem dX7_cask_44 : decode cX7_cask 44 = .ok (.aload_n 0, 1) := by decide +kernel
theorem dX7_cask_45 : decode cX7_cask 45 = .ok (.getfield 35, 3) := by decide +kernel
theorem dX7_cask_48 : decode cX7_cask 48 = .ok (.iconst 2, 1) := by decide +kernel
theorem dX7_cask_49 : decode cX7_cask 49 = .ok (.iload 5, 2) := by decide +kernel
theorem dX7_cask_51 : decode cX7_cask 51 = .ok (.imul, 1) := by decide +kernel
theorem dX7_cask_52 : decode cX7_cask 52 = .ok (.iaload, 1) := by decide +kernel
theorem dX7_cask_53 : decode cX7_cask 53 = .ok (.iadd, 1) := by decide +kernel
theorem dX7_cask_54 : decode cX7_cask 54 = .ok (.istore_n 3, 1) := by decide +kernel
theorem dX7_cask_55 : decode cX7_cask 55 = .ok (.iload 4, 2) := by decide +kernel
theorem dX7_cask_57 : decode cX7_cask 57 = .ok (.aload_n 0, 1) := by decide +kernel
theorem dX7_cask_58 : decode cX7_cask 58 = .ok (.getfield 35, 3) := by decide +kernel
theorem dX7_cask_61 : decode cX7_cask 61 = .ok (.iconst 2, 1) := by decide +kernel
theorem dX7_cask_62 : decode cX7_cask 62 = .ok (.iload 5, 2) := by decide +kernel
theorem dX7_cask_64 : decode cX7_cask 64 = .ok (.imul, 1) := by decide +kernel
theorem dX7_cask_65 : decode cX7_cask 65 = .ok (.iconst 1, 1) := by decide +kernel
theorem dX7_cask_66 : decode cX7_cask 66 = .ok (.iadd, 1) := by decide +kernel
theorem dX7_cask_67 : decode cX7_cask 67 = .ok (.iaload, 1) := by decide +kernel
theorem dX7_cask_68 : decode cX7_cask 68 = .ok (.iadd, 1) := by decide +kernel
theorem dX7_cask_69 : decode cX7_cask 69 = .ok (.istore 4, 2) := by decide +kernel
theorem dX7_cask_71 : decode cX7_cask 71 = .ok (.iload_n 3, 1) := by decide +kernel
theorem dX7_cask_72 : decode cX7_cask 72 = .ok (.iload_n 1, 1) := by decide +kernel
theorem dX7_cask_73 : decode cX7_cask 73 = .ok (.if_icmp .lt 21, 3) := by decide +kernel
theorem dX7_cask_76 : decode cX7_cask 76 = .ok (.iload_n 2, 1) := by decide +kernel
theorem dX7_cask_77 : decode cX7_cask 77 = .ok (.ifCond .ne 10, 3) := by decide +kernel
theorem dX7_cask_80 : decode cX7_cask 80 = .ok (.iload 5, 2) := by decide +kernel
theorem dX7_cask_82 : decode cX7_cask 82 = .ok (.iconst 1, 1) := by decide +kernel
theorem dX7_cask_83 : decode cX7_cask 83 = .ok (.iadd, 1) := by decide +kernel
theorem dX7_cask_84 : decode cX7_cask 84 = .ok (.goto 9, 3) := by decide +kernel
theorem dX7_cask_87 : decode cX7_cask 87 = .ok (.iload_n 3, 1) := by decide +kernel
theorem dX7_cask_88 : decode cX7_cask 88 = .ok (.iload 4, 2) := by decide +kernel
theorem dX7_cask_90 : decode cX7_cask 90 = .ok (.invokestatic 59, 3) := by decide +kernel
theorem dX7_cask_93 : decode cX7_cask 93 = .ok (.ireturn, 1) := by decide +kernel
theorem dX7_cask_94 : decode cX7_cask 94 = .ok (.iinc 5 1, 3) := by decide +kernel
theorem dX7_cask_97 : decode cX7_cask 97 = .ok (.goto (-62), 3) := by decide +kernel
theorem dX7_cask_100 : decode cX7_cask 100 = .ok (.bipush (-6), 2) := by decide +kernel
theorem dX7_cask_102 : decode cX7_cask 102 = .ok (.ireturn, 1) := by decide +kernel
set_option maxRecDepth 20000 in
theorem ggX7_isPage_X7_in : GoodIn wsX7_isPage wsX7_in := goodIn_r _ [5] (by decide +kernel) (by decide +kernel)
set_option maxRecDepth 20000 in
theorem gX7_isPage_X7_in : GoodIn wsX7_isPage (va_wsS RX7 42 yX7_in wsX7_in) := goodIn_app (goodIn_of _ (by decide +kernel)) ggX7_isPage_X7_in
theorem dX7_isPage_0 : decode cX7_isPage 0 = .ok (.iload_n 1, 1) := by decide +kernel
theorem dX7_isPage_1 : decode cX7_isPage 1 = .ok (.iconst 0, 1) := by decide +kernel
theorem dX7_isPage_2 : decode cX7_isPage 2 = .ok (.aload_n 0, 1) := by decide +kernel
theorem dX7_isPage_3 : decode cX7_isPage 3 = .ok (.getfield 7, 3) := by decide +kernel
theorem dX7_isPage_6 : decode cX7_isPage 6 = .ok (.bipush 26, 2) := by decide +kernel
theorem dX7_isPage_8 : decode cX7_isPage 8 = .ok (.iaload, 1) := by decide +kernel
theorem dX7_isPage_9 : decode cX7_isPage 9 = .ok (.iconst 1, 1) := by decide +kernel
theorem dX7_isPage_10 : decode cX7_isPage 10 = .ok (.isub, 1) := by decide +kernel
theorem dX7_isPage_11 : decode cX7_isPage 11 = .ok (.invokestatic 42, 3) := by decide +kernel
theorem dX7_isPage_14 : decode cX7_isPage 14 = .ok (.ireturn, 1) := by decide +kernel
set_option maxRecDepth 20000 in
theorem ggX7_page_X7_isPage : GoodIn wsX7_page wsX7_isPage := goodIn_r _ [5, 6, 7, 8, 4, 9, 20, 21, 22, 23, 24, 25, 26, 27, 28, 29, 30, 31, 32, 33, 34] (by decide +kernel) (by decide +kernel)
set_option maxRecDepth 20000 in
theorem gX7_page_X7_isPage : GoodIn wsX7_page (wsV RX7 141 RX7 yX7_isPage wsX7_isPage) := goodIn_app (goodIn_of _ (by decide +kernel)) ggX7_page_X7_isPage
set_option maxRecDepth 20000 in
theorem ggX7_page_X7_in : GoodIn wsX7_page wsX7_in := goodIn_r _ [9] (by decide +kernel) (by decide +kernel)
set_option maxRecDepth 20000 in
theorem gX7_page_X7_in : GoodIn wsX7_page (va_wsS RX7 42 yX7_in wsX7_in) := goodIn_app (goodIn_of _ (by decide +kernel)) ggX7_page_X7_in
set_option maxRecDepth 20000 in
theorem ggX7_page_X7_ofCell : GoodIn wsX7_page wsX7_ofCell := goodIn_r _ [13, 6, 14, 15, 4, 16, 17, 18, 19, 20, 21, 22, 23, 24, 25, 26, 27, 28, 29, 30, 31, 32, 33, 34] (by decide +kernel) (by decide +kernel)
set_option maxRecDepth 20000 in
theorem gX7_page_X7_ofCell : GoodIn wsX7_page (wsV RX7 103 RX7 yX7_ofCell wsX7_ofCell) := goodIn_app (goodIn_of _ (by decide +kernel)) ggX7_page_X7_ofCell
theorem dX7_page_0 : decode cX7_page 0 = .ok (.aload_n 0, 1) := by decide +kernel
theorem dX7_page_1 : decode cX7_page 1 = .ok (.iload_n 1, 1) := by decide +kernel
theorem dX7_page_2 : decode cX7_page 2 = .ok (.invokevirtual 141, 3) := by decide +kernel
theorem dX7_page_5 : decode cX7_page 5 = .ok (.ifCond .ne 5, 3) := by decide +kernel
theorem dX7_page_8 : decode cX7_page 8 = .ok (.iconst (-1), 1) := by decide +kernel
theorem dX7_page_9 : decode cX7_page 9 = .ok (.ireturn, 1) := by decide +kernel
theorem dX7_page_10 : decode cX7_page 10 = .ok (.iload_n 2, 1) := by decide +kernel
theorem dX7_page_11 : decode cX7_page 11 = .ok (.iconst 0, 1) := by decide +kernel
theorem dX7_page_12 : decode cX7_page 12 = .ok (.iconst 5, 1) := by decide +kernel
theorem dX7_page_13 : decode cX7_page 13 = .ok (.invokestatic 42, 3) := by decide +kernel
theorem dX7_page_16 : decode cX7_page 16 = .ok (.ifCond .eq 17, 3) := by decide +kernel
theorem dX7_page_19 : decode cX7_page 19 = .ok (.aload_n 0, 1) := by decide +kernel
theorem dX7_page_20 : decode cX7_page 20 = .ok (.bipush 27, 2) := by decide +kernel
theorem dX7_page_22 : decode cX7_page 22 = .ok (.iconst 4, 1) := by decide +kernel
theorem dX7_page_23 : decode cX7_page 23 = .ok (.iload_n 1, 1) := by decide +kernel
theorem dX7_page_24 : decode cX7_page 24 = .ok (.imul, 1) := by decide +kernel
theorem dX7_page_25 : decode cX7_page 25 = .ok (.iadd, 1) := by decide +kernel
theorem dX7_page_26 : decode cX7_page 26 = .ok (.iload_n 2, 1) := by decide +kernel
theorem dX7_page_27 : decode cX7_page 27 = .ok (.invokevirtual 103, 3) := by decide +kernel
theorem dX7_page_30 : decode cX7_page 30 = .ok (.goto 5, 3) := by decide +kernel
theorem dX7_page_33 : decode cX7_page 33 = .ok (.bipush (-2), 2) := by decide +kernel
theorem dX7_page_35 : decode cX7_page 35 = .ok (.ireturn, 1) := by decide +kernel
set_option maxRecDepth 20000 in
theorem ggX7_weed_X7_in : GoodIn wsX7_weed wsX7_in := goodIn_r _ [5] (by decide +kernel) (by decide +kernel)
set_option maxRecDepth 20000 in
theorem gX7_weed_X7_in : GoodIn wsX7_weed (va_wsS RX7 42 yX7_in wsX7_in) := goodIn_app (goodIn_of _ (by decide +kernel)) ggX7_weed_X7_in
set_option maxRecDepth 20000 in
theorem ggX7_weed_X7_ofCell : GoodIn wsX7_weed wsX7_ofCell := goodIn_r _ [9, 1, 10, 11, 4, 12, 13, 14, 15, 20, 21, 22, 23, 24, 25, 26, 27, 28, 29, 30, 31, 32, 33, 34] (by decide +kernel) (by decide +kernel)
set_option maxRecDepth 20000 in
theorem gX7_weed_X7_ofCell : GoodIn wsX7_weed (wsV RX7 103 RX7 yX7_ofCell wsX7_ofCell) := goodIn_app (goodIn_of _ (by decide +kernel)) ggX7_weed_X7_ofCell
set_option maxRecDepth 20000 in
theorem ggX7_weed_X7_dropPage : GoodIn wsX7_weed wsX7_dropPage := goodIn_r _ [19, 1, 20, 21, 22, 23, 24, 25, 26, 27, 28, 29, 30, 31, 32, 33, 34] (by decide +kernel) (by decide +kernel)
set_option maxRecDepth 20000 in
theorem gX7_weed_X7_dropPage : GoodIn wsX7_weed (wsV RX7 88 RX7 yX7_dropPage wsX7_dropPage) := goodIn_app (goodIn_of _ (by decide +kernel)) ggX7_weed_X7_dropPage
theorem dX7_weed_0 : decode cX7_weed 0 = .ok (.iload_n 1, 1) := by decide +kernel
theorem dX7_weed_1 : decode cX7_weed 1 = .ok (.iconst 0, 1) := by decide +kernel
theorem dX7_weed_2 : decode cX7_weed 2 = .ok (.sipush 1000, 3) := by decide +kernel
theorem dX7_weed_5 : decode cX7_weed 5 = .ok (.invokestatic 42, 3) := by decide +kernel
theorem dX7_weed_8 : decode cX7_weed 8 = .ok (.ifCond .ne 6, 3) := by decide +kernel
theorem dX7_weed_11 : decode cX7_weed 11 = .ok (.bipush (-2), 2) := by decide +kernel
theorem dX7_weed_13 : decode cX7_weed 13 = .ok (.ireturn, 1) := by decide +kernel
theorem dX7_weed_14 : decode cX7_weed 14 = .ok (.aload_n 0, 1) := by decide +kernel
theorem dX7_weed_15 : decode cX7_weed 15 = .ok (.getfield 7, 3) := by decide +kernel
theorem dX7_weed_18 : decode cX7_weed 18 = .ok (.bipush 26, 2) := by decide +kernel
theorem dX7_weed_20 : decode cX7_weed 20 = .ok (.iaload, 1) := by decide +kernel
theorem dX7_weed_21 : decode cX7_weed 21 = .ok (.iconst 1, 1) := by decide +kernel
theorem dX7_weed_22 : decode cX7_weed 22 = .ok (.isub, 1) := by decide +kernel
theorem dX7_weed_23 : decode cX7_weed 23 = .ok (.istore_n 2, 1) := by decide +kernel
theorem dX7_weed_24 : decode cX7_weed 24 = .ok (.iload_n 2, 1) := by decide +kernel
theorem dX7_weed_25 : decode cX7_weed 25 = .ok (.ifCond .lt 29, 3) := by decide +kernel
theorem dX7_weed_28 : decode cX7_weed 28 = .ok (.aload_n 0, 1) := by decide +kernel
theorem dX7_weed_29 : decode cX7_weed 29 = .ok (.bipush 27, 2) := by decide +kernel
theorem dX7_weed_31 : decode cX7_weed 31 = .ok (.iconst 4, 1) := by decide +kernel
theorem dX7_weed_32 : decode cX7_weed 32 = .ok (.iload_n 2, 1) := by decide +kernel
theorem dX7_weed_33 : decode cX7_weed 33 = .ok (.imul, 1) := by decide +kernel
theorem dX7_weed_34 : decode cX7_weed 34 = .ok (.iadd, 1) := by decide +kernel
theorem dX7_weed_35 : decode cX7_weed 35 = .ok (.iconst 4, 1) := by decide +kernel
theorem dX7_weed_36 : decode cX7_weed 36 = .ok (.invokevirtual 103, 3) := by decide +kernel
theorem dX7_weed_39 : decode cX7_weed 39 = .ok (.iload_n 1, 1) := by decide +kernel
theorem dX7_weed_40 : decode cX7_weed 40 = .ok (.if_icmp .ge 8, 3) := by decide +kernel
theorem dX7_weed_43 : decode cX7_weed 43 = .ok (.aload_n 0, 1) := by decide +kernel
theorem dX7_weed_44 : decode cX7_weed 44 = .ok (.iload_n 2, 1) := by decide +kernel
theorem dX7_weed_45 : decode cX7_weed 45 = .ok (.invokevirtual 88, 3) := by decide +kernel
theorem dX7_weed_48 : decode cX7_weed 48 = .ok (.iinc 2 (-1), 3) := by decide +kernel
theorem dX7_weed_51 : decode cX7_weed 51 = .ok (.goto (-27), 3) := by decide +kernel
theorem dX7_weed_54 : decode cX7_weed 54 = .ok (.aload_n 0, 1) := by decide +kernel
theorem dX7_weed_55 : decode cX7_weed 55 = .ok (.getfield 7, 3) := by decide +kernel
theorem dX7_weed_58 : decode cX7_weed 58 = .ok (.bipush 26, 2) := by decide +kernel
theorem dX7_weed_60 : decode cX7_weed 60 = .ok (.iaload, 1) := by decide +kernel
theorem dX7_weed_61 : decode cX7_weed 61 = .ok (.ireturn, 1) := by decide +kernel
set_option maxRecDepth 20000 in
theorem ggX7_image_X7_in : GoodIn wsX7_image wsX7_in := goodIn_r _ [7] (by decide +kernel) (by decide +kernel)
set_option maxRecDepth 20000 in
theorem gX7_image_X7_in : GoodIn wsX7_image (va_wsS RX7 42 yX7_in wsX7_in) := goodIn_app (goodIn_of _ (by decide +kernel)) ggX7_image_X7_in
theorem dX7_image_0 : decode cX7_image 0 = .ok (.iload_n 1, 1) := by decide +kernel
theorem dX7_image_1 : decode cX7_image 1 = .ok (.iconst 0, 1) := by decide +kernel
theorem dX7_image_2 : decode cX7_image 2 = .ok (.iconst 1, 1) := by decide +kernel
theorem dX7_image_3 : decode cX7_image 3 = .ok (.invokestatic 42, 3) := by decide +kernel
theorem dX7_image_6 : decode cX7_image 6 = .ok (.ifCond .ne 6, 3) := by decide +kernel
theorem dX7_image_9 : decode cX7_image 9 = .ok (.bipush (-2), 2) := by decide +kernel
theorem dX7_image_11 : decode cX7_image 11 = .ok (.ireturn, 1) := by decide +kernel
theorem dX7_image_12 : decode cX7_image 12 = .ok (.iconst 0, 1) := by decide +kernel
theorem dX7_image_13 : decode cX7_image 13 = .ok (.istore_n 2, 1) := by decide +kernel
theorem dX7_image_14 : decode cX7_image 14 = .ok (.iload_n 2, 1) := by decide +kernel
theorem dX7_image_15 : decode cX7_image 15 = .ok (.bipush 75, 2) := by decide +kernel
theorem dX7_image_17 : decode cX7_image 17 = .ok (.if_icmp .ge 26, 3) := by decide +kernel
theorem dX7_image_20 : decode cX7_image 20 = .ok (.aload_n 0, 1) := by decide +kernel
theorem dX7_image_21 : decode cX7_image 21 = .ok (.getfield 13, 3) := by decide +kernel
theorem dX7_image_24 : decode cX7_image 24 = .ok (.bipush 75, 2) := by decide +kernel
theorem dX7_image_26 : decode cX7_image 26 = .ok (.iload_n 1, 1) := by decide +kernel
theorem dX7_image_27 : decode cX7_image 27 = .ok (.imul, 1) := by decide +kernel
theorem dX7_image_28 : decode cX7_image 28 = .ok (.iload_n 2, 1) := by decide +kernel
theorem dX7_image_29 : decode cX7_image 29 = .ok (.iadd, 1) := by decide +kernel
theorem dX7_image_30 : decode cX7_image 30 = .ok (.aload_n 0, 1) := by decide +kernel
theorem dX7_image_31 : decode cX7_image 31 = .ok (.getfield 7, 3) := by decide +kernel
theorem dX7_image_34 : decode cX7_image 34 = .ok (.iload_n 2, 1) := by decide +kernel
theorem dX7_image_35 : decode cX7_image 35 = .ok (.iaload, 1) := by decide +kernel
theorem dX7_image_36 : decode cX7_image 36 = .ok (.iastore, 1) := by decide +kernel
theorem dX7_image_37 : decode cX7_image 37 = .ok (.iinc 2 1, 3) := by decide +kernel
theorem dX7_image_40 : decode cX7_image 40 = .ok (.goto (-26), 3) := by decide +kernel
theorem dX7_image_43 : decode cX7_image 43 = .ok (.aload_n 0, 1) := by decide +kernel
theorem dX7_image_44 : decode cX7_image 44 = .ok (.getfield 16, 3) := by decide +kernel
theorem dX7_image_47 : decode cX7_image 47 = .ok (.iload_n 1, 1) := by decide +kernel
theorem dX7_image_48 : decode cX7_image 48 = .ok (.iconst 1, 1) := by decide +kernel
theorem dX7_image_49 : decode cX7_image 49 = .ok (.bastore, 1) := by decide +kernel
theorem dX7_image_50 : decode cX7_image 50 = .ok (.iconst 1, 1) := by decide +kernel
theorem dX7_image_51 : decode cX7_image 51 = .ok (.ireturn, 1) := by decide +kernel
set_option maxRecDepth 20000 in
theorem ggX7_restore_X7_in : GoodIn wsX7_restore wsX7_in := goodIn_r _ [7] (by decide +kernel) (by decide +kernel)
set_option maxRecDepth 20000 in
theorem gX7_restore_X7_in : GoodIn wsX7_restore (va_wsS RX7 42 yX7_in wsX7_in) := goodIn_app (goodIn_of _ (by decide +kernel)) ggX7_restore_X7_in
theorem dX7_restore_0 : decode cX7_restore 0 = .ok (.iload_n 1, 1) := by decide +kernel
theorem dX7_restore_1 : decode cX7_restore 1 = .ok (.iconst 0, 1) := by decide +kernel
theorem dX7_restore_2 : decode cX7_restore 2 = .ok (.iconst 1, 1) := by decide +kernel
theorem dX7_restore_3 : decode cX7_restore 3 = .ok (.invokestatic 42, 3) := by decide +kernel
theorem dX7_restore_6 : decode cX7_restore 6 = .ok (.ifCond .ne 6, 3) := by decide +kernel
theorem dX7_restore_9 : decode cX7_restore 9 = .ok (.bipush (-2), 2) := by decide +kernel
theorem dX7_restore_11 : decode cX7_restore 11 = .ok (.ireturn, 1) := by decide +kernel
theorem dX7_restore_12 : decode cX7_restore 12 = .ok (.aload_n 0, 1) := by decide +kernel
theorem dX7_restore_13 : decode cX7_restore 13 = .ok (.getfield 16, 3) := by decide +kernel
theorem dX7_restore_16 : decode cX7_restore 16 = .ok (.iload_n 1, 1) := by decide +kernel
theorem dX7_restore_17 : decode cX7_restore 17 = .ok (.baload, 1) := by decide +kernel
theorem dX7_restore_18 : decode cX7_restore 18 = .ok (.ifCond .ne 6, 3) := by decide +kernel
theorem dX7_restore_21 : decode cX7_restore 21 = .ok (.bipush (-3), 2) := by decide +kernel
theorem dX7_restore_23 : decode cX7_restore 23 = .ok (.ireturn, 1) := by decide +kernel
theorem dX7_restore_24 : decode cX7_restore 24 = .ok (.iconst 0, 1) := by decide +kernel
theorem dX7_restore_25 : decode cX7_restore 25 = .ok (.istore_n 2, 1) := by decide +kernel
theorem dX7_restore_26 : decode cX7_restore 26 = .ok (.iload_n 2, 1) := by decide +kernel
theorem dX7_restore_27 : decode cX7_restore 27 = .ok (.bipush 75, 2) := by decide +kernel
theorem dX7_restore_29 : decode cX7_restore 29 = .ok (.if_icmp .ge 26, 3) := by decide +kernel
theorem dX7_restore_32 : decode cX7_restore 32 = .ok (.aload_n 0, 1) := by decide +kernel
theorem dX7_restore_33 : decode cX7_restore 33 = .ok (.getfield 7, 3) := by decide +kernel
theorem dX7_restore_36 : decode cX7_restore 36 = .ok (.iload_n 2, 1) := by decide +kernel
theorem dX7_restore_37 : decode cX7_restore 37 = .ok (.aload_n 0, 1) := by decide +kernel
theorem dX7_restore_38 : decode cX7_restore 38 = .ok (.getfield 13, 3) := by decide +kernel
theorem dX7_restore_41 : decode cX7_restore 41 = .ok (.bipush 75, 2) := by decide +kernel
theorem dX7_restore_43 : decode cX7_restore 43 = .ok (.iload_n 1, 1) := by decide +kernel
theorem dX7_restore_44 : decode cX7_restore 44 = .ok (.imul, 1) := by decide +kernel
theorem dX7_restore_45 : decode cX7_restore 45 = .ok (.iload_n 2, 1) := by decide +kernel
theorem dX7_restore_46 : decode cX7_restore 46 = .ok (.iadd, 1) := by decide +kernel
theorem dX7_restore_47 : decode cX7_restore 47 = .ok (.iaload, 1) := by decide +kernel
theorem dX7_restore_48 : decode cX7_restore 48 = .ok (.iastore, 1) := by decide +kernel
theorem dX7_restore_49 : decode cX7_restore 49 = .ok (.iinc 2 1, 3) := by decide +kernel
theorem dX7_restore_52 : decode cX7_restore 52 = .ok (.goto (-26), 3) := by decide +kernel
theorem dX7_restore_55 : decode cX7_restore 55 = .ok (.iconst 1, 1) := by decide +kernel
theorem dX7_restore_56 : decode cX7_restore 56 = .ok (.ireturn, 1) := by decide +kernel
set_option maxRecDepth 20000 in
theorem ggX7_count_X7_in : GoodIn wsX7_count wsX7_in := goodIn_r _ [6] (by decide +kernel) (by decide +kernel)
set_option maxRecDepth 20000 in
theorem gX7_count_X7_in : GoodIn wsX7_count (va_wsS RX7 42 yX7_in wsX7_in) := goodIn_app (goodIn_of _ (by decide +kernel)) ggX7_count_X7_in
theorem dX7_count_0 : decode cX7_count 0 = .ok (.iload_n 1, 1) := by decide +kernel
theorem dX7_count_1 : decode cX7_count 1 = .ok (.iconst 3, 1) := by decide +kernel
theorem dX7_count_2 : decode cX7_count 2 = .ok (.bipush 6, 2) := by decide +kernel
theorem dX7_count_4 : decode cX7_count 4 = .ok (.invokestatic 42, 3) := by decide +kernel
theorem dX7_count_7 : decode cX7_count 7 = .ok (.ifCond .eq 14, 3) := by decide +kernel
theorem dX7_count_10 : decode cX7_count 10 = .ok (.aload_n 0, 1) := by decide +kernel
theorem dX7_count_11 : decode cX7_count 11 = .ok (.getfield 7, 3) := by decide +kernel
theorem dX7_count_14 : decode cX7_count 14 = .ok (.iconst 0, 1) := by decide +kernel
theorem dX7_count_15 : decode cX7_count 15 = .ok (.iload_n 1, 1) := by decide +kernel
theorem dX7_count_16 : decode cX7_count 16 = .ok (.iadd, 1) := by decide +kernel
theorem dX7_count_17 : decode cX7_count 17 = .ok (.iconst 3, 1) := by decide +kernel
theorem dX7_count_18 : decode cX7_count 18 = .ok (.isub, 1) := by decide +kernel
theorem dX7_count_19 : decode cX7_count 19 = .ok (.iaload, 1) := by decide +kernel
theorem dX7_count_20 : decode cX7_count 20 = .ok (.ireturn, 1) := by decide +kernel
theorem dX7_count_21 : decode cX7_count 21 = .ok (.iload_n 1, 1) := by decide +kernel
theorem dX7_count_22 : decode cX7_count 22 = .ok (.bipush 10, 2) := by decide +kernel
theorem dX7_count_24 : decode cX7_count 24 = .ok (.bipush 15, 2) := by decide +kernel
theorem dX7_count_26 : decode cX7_count 26 = .ok (.invokestatic 42, 3) := by decide +kernel
theorem dX7_count_29 : decode cX7_count 29 = .ok (.ifCond .eq 16, 3) := by decide +kernel
theorem dX7_count_32 : decode cX7_count 32 = .ok (.aload_n 0, 1) := by decide +kernel
theorem dX7_count_33 : decode cX7_count 33 = .ok (.getfield 7, 3) := by decide +kernel
theorem dX7_count_36 : decode cX7_count 36 = .ok (.bipush 15, 2) := by decide +kernel
theorem dX7_count_38 : decode cX7_count 38 = .ok (.iload_n 1, 1) := by decide +kernel
theorem dX7_count_39 : decode cX7_count 39 = .ok (.iadd, 1) := by decide +kernel
theorem dX7_count_40 : decode cX7_count 40 = .ok (.bipush 10, 2) := by decide +kernel
theorem dX7_count_42 : decode cX7_count 42 = .ok (.isub, 1) := by decide +kernel
theorem dX7_count_43 : decode cX7_count 43 = .ok (.iaload, 1) := by decide +kernel
theorem dX7_count_44 : decode cX7_count 44 = .ok (.ireturn, 1) := by decide +kernel
theorem dX7_count_45 : decode cX7_count 45 = .ok (.iload_n 1, 1) := by decide +kernel
theorem dX7_count_46 : decode cX7_count 46 = .ok (.bipush 20, 2) := by decide +kernel
theorem dX7_count_48 : decode cX7_count 48 = .ok (.bipush 30, 2) := by decide +kernel
theorem dX7_count_50 : decode cX7_count 50 = .ok (.invokestatic 42, 3) := by decide +kernel
theorem dX7_count_53 : decode cX7_count 53 = .ok (.ifCond .eq 15, 3) := by decide +kernel
theorem dX7_count_56 : decode cX7_count 56 = .ok (.aload_n 0, 1) := by decide +kernel
theorem dX7_count_57 : decode cX7_count 57 = .ok (.getfield 7, 3) := by decide +kernel
theorem dX7_count_60 : decode cX7_count 60 = .ok (.iconst 4, 1) := by decide +kernel
theorem dX7_count_61 : decode cX7_count 61 = .ok (.iload_n 1, 1) := by decide +kernel
theorem dX7_count_62 : decode cX7_count 62 = .ok (.iadd, 1) := by decide +kernel
theorem dX7_count_63 : decode cX7_count 63 = .ok (.bipush 20, 2) := by decide +kernel
theorem dX7_count_65 : decode cX7_count 65 = .ok (.isub, 1) := by decide +kernel
theorem dX7_count_66 : decode cX7_count 66 = .ok (.iaload, 1) := by decide +kernel
theorem dX7_count_67 : decode cX7_count 67 = .ok (.ireturn, 1) := by decide +kernel
theorem dX7_count_68 : decode cX7_count 68 = .ok (.iload_n 1, 1) := by decide +kernel
theorem dX7_count_69 : decode cX7_count 69 = .ok (.tableswitch 73 0 2 #[27, 35, 43], 27) := by decide +kernel
theorem dX7_count_96 : decode cX7_count 96 = .ok (.aload_n 0, 1) := by decide +kernel
theorem dX7_count_97 : decode cX7_count 97 = .ok (.getfield 7, 3) := by decide +kernel
theorem dX7_count_100 : decode cX7_count 100 = .ok (.bipush 25, 2) := by decide +kernel
theorem dX7_count_102 : decode cX7_count 102 = .ok (.iaload, 1) := by decide +kernel
theorem dX7_count_103 : decode cX7_count 103 = .ok (.ireturn, 1) := by decide +kernel
theorem dX7_count_104 : decode cX7_count 104 = .ok (.aload_n 0, 1) := by decide +kernel
theorem dX7_count_105 : decode cX7_count 105 = .ok (.getfield 7, 3) := by decide +kernel
theorem dX7_count_108 : decode cX7_count 108 = .ok (.bipush 26, 2) := by decide +kernel
theorem dX7_count_110 : decode cX7_count 110 = .ok (.iaload, 1) := by decide +kernel
theorem dX7_count_111 : decode cX7_count 111 = .ok (.ireturn, 1) := by decide +kernel
theorem dX7_count_112 : decode cX7_count 112 = .ok (.aload_n 0, 1) := by decide +kernel
theorem dX7_count_113 : decode cX7_count 113 = .ok (.getfield 16, 3) := by decide +kernel
theorem dX7_count_116 : decode cX7_count 116 = .ok (.iconst 0, 1) := by decide +kernel
theorem dX7_count_117 : decode cX7_count 117 = .ok (.baload, 1) := by decide +kernel
theorem dX7_count_118 : decode cX7_count 118 = .ok (.ifCond .eq 7, 3) := by decide +kernel
theorem dX7_count_121 : decode cX7_count 121 = .ok (.iconst 1, 1) := by decide +kernel
theorem dX7_count_122 : decode cX7_count 122 = .ok (.goto 4, 3) := by decide +kernel
theorem dX7_count_125 : decode cX7_count 125 = .ok (.iconst 0, 1) := by decide +kernel
theorem dX7_count_126 : decode cX7_count 126 = .ok (.aload_n 0, 1) := by decide +kernel
theorem dX7_count_127 : decode cX7_count 127 = .ok (.getfield 16, 3) := by decide +kernel
theorem dX7_count_130 : decode cX7_count 130 = .ok (.iconst 1, 1) := by decide +kernel
theorem dX7_count_131 : decode cX7_count 131 = .ok (.baload, 1) := by decide +kernel
theorem dX7_count_132 : decode cX7_count 132 = .ok (.ifCond .eq 7, 3) := by decide +kernel
theorem dX7_count_135 : decode cX7_count 135 = .ok (.iconst 2, 1) := by decide +kernel
theorem dX7_count_136 : decode cX7_count 136 = .ok (.goto 4, 3) := by decide +kernel
theorem dX7_count_139 : decode cX7_count 139 = .ok (.iconst 0, 1) := by decide +kernel
theorem dX7_count_140 : decode cX7_count 140 = .ok (.iadd, 1) := by decide +kernel
theorem dX7_count_141 : decode cX7_count 141 = .ok (.ireturn, 1) := by decide +kernel
theorem dX7_count_142 : decode cX7_count 142 = .ok (.bipush (-2), 2) := by decide +kernel
theorem dX7_count_144 : decode cX7_count 144 = .ok (.ireturn, 1) := by decide +kernel
theorem dJ9_max_7cf53_0 : decode cJ9_max_7cf53 0 = .ok (.iload_n 0, 1) := by decide +kernel
theorem dJ9_max_7cf53_1 : decode cJ9_max_7cf53 1 = .ok (.iload_n 1, 1) := by decide +kernel
theorem dJ9_max_7cf53_2 : decode cJ9_max_7cf53 2 = .ok (.if_icmp .lt 7, 3) := by decide +kernel
theorem dJ9_max_7cf53_5 : decode cJ9_max_7cf53 5 = .ok (.iload_n 0, 1) := by decide +kernel
theorem dJ9_max_7cf53_6 : decode cJ9_max_7cf53 6 = .ok (.goto 4, 3) := by decide +kernel
theorem dJ9_max_7cf53_9 : decode cJ9_max_7cf53 9 = .ok (.iload_n 1, 1) := by decide +kernel
theorem dJ9_max_7cf53_10 : decode cJ9_max_7cf53 10 = .ok (.ireturn, 1) := by decide +kernel
theorem dJ9_min_7cf53_0 : decode cJ9_min_7cf53 0 = .ok (.iload_n 0, 1) := by decide +kernel
theorem dJ9_min_7cf53_1 : decode cJ9_min_7cf53 1 = .ok (.iload_n 1, 1) := by decide +kernel
theorem dJ9_min_7cf53_2 : decode cJ9_min_7cf53 2 = .ok (.if_icmp .gt 7, 3) := by decide +kernel
theorem dJ9_min_7cf53_5 : decode cJ9_min_7cf53 5 = .ok (.iload_n 0, 1) := by decide +kernel
theorem dJ9_min_7cf53_6 : decode cJ9_min_7cf53 6 = .ok (.goto 4, 3) := by decide +kernel
theorem dJ9_min_7cf53_9 : decode cJ9_min_7cf53 9 = .ok (.iload_n 1, 1) := by decide +kernel
theorem dJ9_min_7cf53_10 : decode cJ9_min_7cf53 10 = .ok (.ireturn, 1) := by decide +kernel
