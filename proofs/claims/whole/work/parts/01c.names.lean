set_option maxRecDepth 20000 in
theorem ggX6_init_X5_init : GoodIn wsX6_init wsX5_init := goodIn_r _ [28, 29, 2, 3, 30, 31, 32, 33, 34, 35, 36, 37, 38, 39, 24, 25, 40, 41, 42, 43, 44, 45, 46, 47, 48, 49, 50, 51, 52, 53, 54, 55, 56, 57, 58, 59, 60, 61, 62, 63, 64, 65, 66, 67, 105, 106, 107, 108, 109, 110, 141, 142, 143, 144, 145, 146, 147, 148, 149, 150] (by decide +kernel) (by decide +kernel)
set_option maxRecDepth 20000 in
theorem gX6_init_X5_init_n9 : GoodIn wsX6_init (wsX5_init) := ggX6_init_X5_init
set_option maxRecDepth 20000 in
theorem ggX6_init_X4_init : GoodIn wsX6_init wsX4_init := goodIn_r _ [69, 70, 2, 3, 71, 24, 25, 72, 73, 74, 75, 76, 77, 78, 42, 43, 79, 63, 80, 81, 82, 46, 47, 48, 49, 50, 51, 52, 83, 54, 55, 56, 57, 58, 59, 60, 61, 62, 64, 65, 66, 67, 141, 142, 143, 144, 119, 120, 121, 122, 123, 124, 125, 126, 127, 128, 145, 146, 147, 148, 149, 150] (by decide +kernel) (by decide +kernel)
set_option maxRecDepth 20000 in
theorem gX6_init_X4_init_n28 : GoodIn wsX6_init (wsX4_init) := ggX6_init_X4_init
set_option maxRecDepth 20000 in
theorem ggX6_init_X0_init : GoodIn wsX6_init wsX0_init := goodIn_r _ [85, 86, 2, 3, 87, 88, 89, 90, 91, 129, 130, 131, 132, 133] (by decide +kernel) (by decide +kernel)
set_option maxRecDepth 20000 in
theorem gX6_init_X0_init_n35 : GoodIn wsX6_init (wsX0_init) := ggX6_init_X0_init
set_option maxRecDepth 20000 in
theorem ggX6_init_X1_init : GoodIn wsX6_init wsX1_init := goodIn_r _ [93, 94, 2, 3, 95, 24, 25, 96, 97, 98, 99, 42, 43, 100, 101, 102, 103, 46, 47, 48, 49, 50, 51, 52, 104, 54, 55, 56, 57, 58, 59, 60, 61, 62, 63, 64, 65, 66, 67, 141, 142, 143, 144, 134, 135, 136, 137, 138, 139, 140, 145, 146, 147, 148, 149, 150] (by decide +kernel) (by decide +kernel)
set_option maxRecDepth 20000 in
theorem gX6_init_X1_init_n42 : GoodIn wsX6_init (wsX1_init) := ggX6_init_X1_init
set_option maxRecDepth 20000 in
theorem ggX6_init_X2_init : GoodIn wsX6_init wsX2_init := goodIn_r _ [47, 48, 2, 3, 49, 50, 51, 52, 141, 142, 143, 144] (by decide +kernel) (by decide +kernel)
set_option maxRecDepth 20000 in
theorem gX6_init_X2_init_n49 : GoodIn wsX6_init (wsX2_init) := ggX6_init_X2_init
theorem dX6_init_0 : decode cX6_init 0 = .ok (.aload_n 0, 1) := by decide +kernel
theorem dX6_init_1 : decode cX6_init 1 = .ok (.invokespecial 1, 3) := by decide +kernel
theorem dX6_init_4 : decode cX6_init 4 = .ok (.aload_n 0, 1) := by decide +kernel
theorem dX6_init_5 : decode cX6_init 5 = .ok (.new 7, 3) := by decide +kernel
theorem dX6_init_8 : decode cX6_init 8 = .ok (.dup, 1) := by decide +kernel
theorem dX6_init_9 : decode cX6_init 9 = .ok (.invokespecial 9, 3) := by decide +kernel
theorem dX6_init_12 : decode cX6_init 12 = .ok (.putfield 10, 3) := by decide +kernel
theorem dX6_init_15 : decode cX6_init 15 = .ok (.aload_n 0, 1) := by decide +kernel
theorem dX6_init_16 : decode cX6_init 16 = .ok (.new 7, 3) := by decide +kernel
theorem dX6_init_19 : decode cX6_init 19 = .ok (.dup, 1) := by decide +kernel
theorem dX6_init_20 : decode cX6_init 20 = .ok (.invokespecial 9, 3) := by decide +kernel
theorem dX6_init_23 : decode cX6_init 23 = .ok (.putfield 16, 3) := by decide +kernel
theorem dX6_init_26 : decode cX6_init 26 = .ok (.aload_n 0, 1) := by decide +kernel
theorem dX6_init_27 : decode cX6_init 27 = .ok (.new 7, 3) := by decide +kernel
theorem dX6_init_30 : decode cX6_init 30 = .ok (.dup, 1) := by decide +kernel
theorem dX6_init_31 : decode cX6_init 31 = .ok (.invokespecial 9, 3) := by decide +kernel
theorem dX6_init_34 : decode cX6_init 34 = .ok (.putfield 19, 3) := by decide +kernel
theorem dX6_init_37 : decode cX6_init 37 = .ok (.aload_n 0, 1) := by decide +kernel
theorem dX6_init_38 : decode cX6_init 38 = .ok (.iconst 0, 1) := by decide +kernel
theorem dX6_init_39 : decode cX6_init 39 = .ok (.putfield 22, 3) := by decide +kernel
theorem dX6_init_42 : decode cX6_init 42 = .ok (.aload_n 0, 1) := by decide +kernel
theorem dX6_init_43 : decode cX6_init 43 = .ok (.new 26, 3) := by decide +kernel
theorem dX6_init_46 : decode cX6_init 46 = .ok (.dup, 1) := by decide +kernel
theorem dX6_init_47 : decode cX6_init 47 = .ok (.invokespecial 28, 3) := by decide +kernel
theorem dX6_init_50 : decode cX6_init 50 = .ok (.putfield 29, 3) := by decide +kernel
theorem dX6_init_53 : decode cX6_init 53 = .ok (.aload_n 0, 1) := by decide +kernel
theorem dX6_init_54 : decode cX6_init 54 = .ok (.new 33, 3) := by decide +kernel
theorem dX6_init_57 : decode cX6_init 57 = .ok (.dup, 1) := by decide +kernel
theorem dX6_init_58 : decode cX6_init 58 = .ok (.invokespecial 35, 3) := by decide +kernel
theorem dX6_init_61 : decode cX6_init 61 = .ok (.putfield 36, 3) := by decide +kernel
theorem dX6_init_64 : decode cX6_init 64 = .ok (.aload_n 0, 1) := by decide +kernel
theorem dX6_init_65 : decode cX6_init 65 = .ok (.new 40, 3) := by decide +kernel
theorem dX6_init_68 : decode cX6_init 68 = .ok (.dup, 1) := by decide +kernel
theorem dX6_init_69 : decode cX6_init 69 = .ok (.invokespecial 42, 3) := by decide +kernel
theorem dX6_init_72 : decode cX6_init 72 = .ok (.putfield 43, 3) := by decide +kernel
theorem dX6_init_75 : decode cX6_init 75 = .ok (.aload_n 0, 1) := by decide +kernel
theorem dX6_init_76 : decode cX6_init 76 = .ok (.new 47, 3) := by decide +kernel
theorem dX6_init_79 : decode cX6_init 79 = .ok (.dup, 1) := by decide +kernel
theorem dX6_init_80 : decode cX6_init 80 = .ok (.invokespecial 49, 3) := by decide +kernel
theorem dX6_init_83 : decode cX6_init 83 = .ok (.putfield 50, 3) := by decide +kernel
theorem dX6_init_86 : decode cX6_init 86 = .ok (.return_, 1) := by decide +kernel
set_option maxRecDepth 20000 in
theorem ggX6_wash_X6_within : GoodIn wsX6_wash wsX6_within := goodIn_r _ [6] (by decide +kernel) (by decide +kernel)
set_option maxRecDepth 20000 in
theorem gX6_wash_X6_within : GoodIn wsX6_wash (va_wsS RX6 54 yX6_within wsX6_within) := goodIn_app (goodIn_of _ (by decide +kernel)) ggX6_wash_X6_within
theorem dX6_wash_0 : decode cX6_wash 0 = .ok (.iload_n 1, 1) := by decide +kernel
theorem dX6_wash_1 : decode cX6_wash 1 = .ok (.iconst 1, 1) := by decide +kernel
theorem dX6_wash_2 : decode cX6_wash 2 = .ok (.bipush 30, 2) := by decide +kernel
theorem dX6_wash_4 : decode cX6_wash 4 = .ok (.invokestatic 54, 3) := by decide +kernel
theorem dX6_wash_7 : decode cX6_wash 7 = .ok (.ifCond .eq 35, 3) := by decide +kernel
theorem dX6_wash_10 : decode cX6_wash 10 = .ok (.iload_n 2, 1) := by decide +kernel
theorem dX6_wash_11 : decode cX6_wash 11 = .ok (.iconst 0, 1) := by decide +kernel
theorem dX6_wash_12 : decode cX6_wash 12 = .ok (.sipush 300, 3) := by decide +kernel
theorem dX6_wash_15 : decode cX6_wash 15 = .ok (.invokestatic 54, 3) := by decide +kernel
theorem dX6_wash_18 : decode cX6_wash 18 = .ok (.ifCond .eq 24, 3) := by decide +kernel
theorem dX6_wash_21 : decode cX6_wash 21 = .ok (.iload_n 3, 1) := by decide +kernel
theorem dX6_wash_22 : decode cX6_wash 22 = .ok (.iconst 0, 1) := by decide +kernel
theorem dX6_wash_23 : decode cX6_wash 23 = .ok (.bipush 99, 2) := by decide +kernel
theorem dX6_wash_25 : decode cX6_wash 25 = .ok (.invokestatic 54, 3) := by decide +kernel
theorem dX6_wash_28 : decode cX6_wash 28 = .ok (.ifCond .eq 14, 3) := by decide +kernel
theorem dX6_wash_31 : decode cX6_wash 31 = .ok (.iload 4, 2) := by decide +kernel
theorem dX6_wash_33 : decode cX6_wash 33 = .ok (.iconst 0, 1) := by decide +kernel
theorem dX6_wash_34 : decode cX6_wash 34 = .ok (.bipush 99, 2) := by decide +kernel
theorem dX6_wash_36 : decode cX6_wash 36 = .ok (.invokestatic 54, 3) := by decide +kernel
theorem dX6_wash_39 : decode cX6_wash 39 = .ok (.ifCond .ne 6, 3) := by decide +kernel
theorem dX6_wash_42 : decode cX6_wash 42 = .ok (.bipush (-2), 2) := by decide +kernel
theorem dX6_wash_44 : decode cX6_wash 44 = .ok (.ireturn, 1) := by decide +kernel
theorem dX6_wash_45 : decode cX6_wash 45 = .ok (.aload_n 0, 1) := by decide +kernel
theorem dX6_wash_46 : decode cX6_wash 46 = .ok (.getfield 10, 3) := by decide +kernel
theorem dX6_wash_49 : decode cX6_wash 49 = .ok (.getfield 58, 3) := by decide +kernel
theorem dX6_wash_52 : decode cX6_wash 52 = .ok (.iconst 0, 1) := by decide +kernel
theorem dX6_wash_53 : decode cX6_wash 53 = .ok (.iaload, 1) := by decide +kernel
theorem dX6_wash_54 : decode cX6_wash 54 = .ok (.istore 5, 2) := by decide +kernel
theorem dX6_wash_56 : decode cX6_wash 56 = .ok (.aload_n 0, 1) := by decide +kernel
theorem dX6_wash_57 : decode cX6_wash 57 = .ok (.getfield 10, 3) := by decide +kernel
theorem dX6_wash_60 : decode cX6_wash 60 = .ok (.getfield 58, 3) := by decide +kernel
theorem dX6_wash_63 : decode cX6_wash 63 = .ok (.iconst 0, 1) := by decide +kernel
theorem dX6_wash_64 : decode cX6_wash 64 = .ok (.iload_n 1, 1) := by decide +kernel
theorem dX6_wash_65 : decode cX6_wash 65 = .ok (.iastore, 1) := by decide +kernel
theorem dX6_wash_66 : decode cX6_wash 66 = .ok (.aload_n 0, 1) := by decide +kernel
theorem dX6_wash_67 : decode cX6_wash 67 = .ok (.getfield 10, 3) := by decide +kernel
theorem dX6_wash_70 : decode cX6_wash 70 = .ok (.getfield 58, 3) := by decide +kernel
theorem dX6_wash_73 : decode cX6_wash 73 = .ok (.iconst 1, 1) := by decide +kernel
theorem dX6_wash_74 : decode cX6_wash 74 = .ok (.iload_n 2, 1) := by decide +kernel
theorem dX6_wash_75 : decode cX6_wash 75 = .ok (.iastore, 1) := by decide +kernel
theorem dX6_wash_76 : decode cX6_wash 76 = .ok (.aload_n 0, 1) := by decide +kernel
theorem dX6_wash_77 : decode cX6_wash 77 = .ok (.getfield 10, 3) := by decide +kernel
theorem dX6_wash_80 : decode cX6_wash 80 = .ok (.getfield 58, 3) := by decide +kernel
theorem dX6_wash_83 : decode cX6_wash 83 = .ok (.iconst 2, 1) := by decide +kernel
theorem dX6_wash_84 : decode cX6_wash 84 = .ok (.iload_n 3, 1) := by decide +kernel
theorem dX6_wash_85 : decode cX6_wash 85 = .ok (.iastore, 1) := by decide +kernel
theorem dX6_wash_86 : decode cX6_wash 86 = .ok (.aload_n 0, 1) := by decide +kernel
theorem dX6_wash_87 : decode cX6_wash 87 = .ok (.getfield 10, 3) := by decide +kernel
theorem dX6_wash_90 : decode cX6_wash 90 = .ok (.getfield 58, 3) := by decide +kernel
theorem dX6_wash_93 : decode cX6_wash 93 = .ok (.iconst 3, 1) := by decide +kernel
theorem dX6_wash_94 : decode cX6_wash 94 = .ok (.iload 4, 2) := by decide +kernel
theorem dX6_wash_96 : decode cX6_wash 96 = .ok (.iastore, 1) := by decide +kernel
theorem dX6_wash_97 : decode cX6_wash 97 = .ok (.iload 5, 2) := by decide +kernel
theorem dX6_wash_99 : decode cX6_wash 99 = .ok (.ireturn, 1) := by decide +kernel
set_option maxRecDepth 20000 in
theorem ggX6_table_X6_within : GoodIn wsX6_table wsX6_within := goodIn_r _ [6] (by decide +kernel) (by decide +kernel)
set_option maxRecDepth 20000 in
theorem gX6_table_X6_within : GoodIn wsX6_table (va_wsS RX6 54 yX6_within wsX6_within) := goodIn_app (goodIn_of _ (by decide +kernel)) ggX6_table_X6_within
theorem dX6_table_0 : decode cX6_table 0 = .ok (.iload_n 1, 1) := by decide +kernel
theorem dX6_table_1 : decode cX6_table 1 = .ok (.iconst 0, 1) := by decide +kernel
theorem dX6_table_2 : decode cX6_table 2 = .ok (.bipush 10, 2) := by decide +kernel
theorem dX6_table_4 : decode cX6_table 4 = .ok (.invokestatic 54, 3) := by decide +kernel
theorem dX6_table_7 : decode cX6_table 7 = .ok (.ifCond .ne 5, 3) := by decide +kernel
theorem dX6_table_10 : decode cX6_table 10 = .ok (.iconst (-1), 1) := by decide +kernel
theorem dX6_table_11 : decode cX6_table 11 = .ok (.ireturn, 1) := by decide +kernel
theorem dX6_table_12 : decode cX6_table 12 = .ok (.iload_n 2, 1) := by decide +kernel
theorem dX6_table_13 : decode cX6_table 13 = .ok (.iconst 0, 1) := by decide +kernel
theorem dX6_table_14 : decode cX6_table 14 = .ok (.sipush 1000, 3) := by decide +kernel
theorem dX6_table_17 : decode cX6_table 17 = .ok (.invokestatic 54, 3) := by decide +kernel
theorem dX6_table_20 : decode cX6_table 20 = .ok (.ifCond .ne 6, 3) := by decide +kernel
theorem dX6_table_23 : decode cX6_table 23 = .ok (.bipush (-2), 2) := by decide +kernel
theorem dX6_table_25 : decode cX6_table 25 = .ok (.ireturn, 1) := by decide +kernel
theorem dX6_table_26 : decode cX6_table 26 = .ok (.aload_n 0, 1) := by decide +kernel
theorem dX6_table_27 : decode cX6_table 27 = .ok (.getfield 10, 3) := by decide +kernel
theorem dX6_table_30 : decode cX6_table 30 = .ok (.getfield 62, 3) := by decide +kernel
theorem dX6_table_33 : decode cX6_table 33 = .ok (.iload_n 1, 1) := by decide +kernel
theorem dX6_table_34 : decode cX6_table 34 = .ok (.iaload, 1) := by decide +kernel
theorem dX6_table_35 : decode cX6_table 35 = .ok (.istore_n 3, 1) := by decide +kernel
theorem dX6_table_36 : decode cX6_table 36 = .ok (.aload_n 0, 1) := by decide +kernel
theorem dX6_table_37 : decode cX6_table 37 = .ok (.getfield 10, 3) := by decide +kernel
theorem dX6_table_40 : decode cX6_table 40 = .ok (.getfield 62, 3) := by decide +kernel
theorem dX6_table_43 : decode cX6_table 43 = .ok (.iload_n 1, 1) := by decide +kernel
theorem dX6_table_44 : decode cX6_table 44 = .ok (.iload_n 2, 1) := by decide +kernel
theorem dX6_table_45 : decode cX6_table 45 = .ok (.iastore, 1) := by decide +kernel
theorem dX6_table_46 : decode cX6_table 46 = .ok (.iload_n 3, 1) := by decide +kernel
theorem dX6_table_47 : decode cX6_table 47 = .ok (.ireturn, 1) := by decide +kernel
set_option maxRecDepth 20000 in
theorem ggX6_rule_X6_within : GoodIn wsX6_rule wsX6_within := goodIn_r _ [8] (by decide +kernel) (by decide +kernel)
set_option maxRecDepth 20000 in
theorem gX6_rule_X6_within : GoodIn wsX6_rule (va_wsS RX6 54 yX6_within wsX6_within) := goodIn_app (goodIn_of _ (by decide +kernel)) ggX6_rule_X6_within
theorem dX6_rule_0 : decode cX6_rule 0 = .ok (.iload_n 1, 1) := by decide +kernel
theorem dX6_rule_1 : decode cX6_rule 1 = .ok (.iconst 0, 1) := by decide +kernel
theorem dX6_rule_2 : decode cX6_rule 2 = .ok (.iconst 5, 1) := by decide +kernel
theorem dX6_rule_3 : decode cX6_rule 3 = .ok (.invokestatic 54, 3) := by decide +kernel
theorem dX6_rule_6 : decode cX6_rule 6 = .ok (.ifCond .eq 20, 3) := by decide +kernel
theorem dX6_rule_9 : decode cX6_rule 9 = .ok (.iload_n 2, 1) := by decide +kernel
theorem dX6_rule_10 : decode cX6_rule 10 = .ok (.getstatic 65, 3) := by decide +kernel
theorem dX6_rule_13 : decode cX6_rule 13 = .ok (.iload_n 1, 1) := by decide +kernel
theorem dX6_rule_14 : decode cX6_rule 14 = .ok (.iaload, 1) := by decide +kernel
theorem dX6_rule_15 : decode cX6_rule 15 = .ok (.getstatic 68, 3) := by decide +kernel
theorem dX6_rule_18 : decode cX6_rule 18 = .ok (.iload_n 1, 1) := by decide +kernel
theorem dX6_rule_19 : decode cX6_rule 19 = .ok (.iaload, 1) := by decide +kernel
theorem dX6_rule_20 : decode cX6_rule 20 = .ok (.invokestatic 54, 3) := by decide +kernel
theorem dX6_rule_23 : decode cX6_rule 23 = .ok (.ifCond .ne 6, 3) := by decide +kernel
theorem dX6_rule_26 : decode cX6_rule 26 = .ok (.bipush (-2), 2) := by decide +kernel
theorem dX6_rule_28 : decode cX6_rule 28 = .ok (.ireturn, 1) := by decide +kernel
theorem dX6_rule_29 : decode cX6_rule 29 = .ok (.aload_n 0, 1) := by decide +kernel
theorem dX6_rule_30 : decode cX6_rule 30 = .ok (.getfield 10, 3) := by decide +kernel
theorem dX6_rule_33 : decode cX6_rule 33 = .ok (.getfield 71, 3) := by decide +kernel
theorem dX6_rule_36 : decode cX6_rule 36 = .ok (.iload_n 1, 1) := by decide +kernel
theorem dX6_rule_37 : decode cX6_rule 37 = .ok (.iaload, 1) := by decide +kernel
theorem dX6_rule_38 : decode cX6_rule 38 = .ok (.istore_n 3, 1) := by decide +kernel
theorem dX6_rule_39 : decode cX6_rule 39 = .ok (.aload_n 0, 1) := by decide +kernel
theorem dX6_rule_40 : decode cX6_rule 40 = .ok (.getfield 10, 3) := by decide +kernel
theorem dX6_rule_43 : decode cX6_rule 43 = .ok (.getfield 71, 3) := by decide +kernel
theorem dX6_rule_46 : decode cX6_rule 46 = .ok (.iload_n 1, 1) := by decide +kernel
theorem dX6_rule_47 : decode cX6_rule 47 = .ok (.iload_n 2, 1) := by decide +kernel
theorem dX6_rule_48 : decode cX6_rule 48 = .ok (.iastore, 1) := by decide +kernel
theorem dX6_rule_49 : decode cX6_rule 49 = .ok (.iload_n 3, 1) := by decide +kernel
theorem dX6_rule_50 : decode cX6_rule 50 = .ok (.ireturn, 1) := by decide +kernel
set_option maxRecDepth 20000 in
theorem ggX6_over_X6_within : GoodIn wsX6_over wsX6_within := goodIn_r _ [5] (by decide +kernel) (by decide +kernel)
set_option maxRecDepth 20000 in
theorem gX6_over_X6_within : GoodIn wsX6_over (va_wsS RX6 54 yX6_within wsX6_within) := goodIn_app (goodIn_of _ (by decide +kernel)) ggX6_over_X6_within
set_option maxRecDepth 20000 in
theorem ggX6_over_X5_overOf : GoodIn wsX6_over wsX5_overOf := goodIn_r _ [10, 11, 12, 13, 14, 15, 16, 17, 18, 27, 28, 29, 30, 31, 32] (by decide +kernel) (by decide +kernel)
set_option maxRecDepth 20000 in
theorem gX6_over_X5_overOf : GoodIn wsX6_over (wsV RX6 74 RX5 yX5_overOf wsX5_overOf) := goodIn_app (goodIn_of _ (by decide +kernel)) ggX6_over_X5_overOf
theorem dX6_over_0 : decode cX6_over 0 = .ok (.iload_n 1, 1) := by decide +kernel
theorem dX6_over_1 : decode cX6_over 1 = .ok (.iconst 0, 1) := by decide +kernel
theorem dX6_over_2 : decode cX6_over 2 = .ok (.sipush 1000, 3) := by decide +kernel
theorem dX6_over_5 : decode cX6_over 5 = .ok (.invokestatic 54, 3) := by decide +kernel
theorem dX6_over_8 : decode cX6_over 8 = .ok (.ifCond .eq 14, 3) := by decide +kernel
theorem dX6_over_11 : decode cX6_over 11 = .ok (.aload_n 0, 1) := by decide +kernel
theorem dX6_over_12 : decode cX6_over 12 = .ok (.getfield 10, 3) := by decide +kernel
theorem dX6_over_15 : decode cX6_over 15 = .ok (.iload_n 1, 1) := by decide +kernel
theorem dX6_over_16 : decode cX6_over 16 = .ok (.invokevirtual 74, 3) := by decide +kernel
theorem dX6_over_19 : decode cX6_over 19 = .ok (.goto 5, 3) := by decide +kernel
theorem dX6_over_22 : decode cX6_over 22 = .ok (.bipush (-2), 2) := by decide +kernel
theorem dX6_over_24 : decode cX6_over 24 = .ok (.ireturn, 1) := by decide +kernel
set_option maxRecDepth 20000 in
theorem ggX6_run_X6_seeNextRun : GoodIn wsX6_run wsX6_seeNextRun := goodIn_r _ [12, 1, 2, 3, 13, 14, 15, 16, 17, 18, 19, 20, 21, 22, 23, 24, 25, 26, 27, 28, 29, 30, 31, 32, 33, 34, 35, 36, 37, 38, 39, 40, 41, 42, 43, 44, 45, 46, 47, 48, 49, 50, 51, 52, 53, 54, 11, 55, 56, 57, 58, 59, 60, 61, 62, 63, 64, 65, 66, 67, 68, 69, 70, 71, 72, 73, 74, 75, 76, 77, 78, 79, 80, 81, 82, 83, 84, 85, 86, 87, 88, 89, 90, 91, 92, 93, 94, 95, 96, 97, 98, 99, 100, 101, 102, 103, 104, 105, 106, 107, 108, 109, 110, 111, 112, 113, 114, 115, 116, 117, 118, 119, 120, 121, 140, 141, 142, 143, 144, 145, 146, 147, 148, 149, 150, 151, 152, 153, 154, 155, 156, 157, 158, 159, 160, 161, 162, 163, 164, 165, 166, 167, 168, 169, 170, 171, 172, 173] (by decide +kernel) (by decide +kernel)
set_option maxRecDepth 20000 in
theorem gX6_run_X6_seeNextRun : GoodIn wsX6_run (wsV RX6 78 RX6 yX6_seeNextRun wsX6_seeNextRun) := goodIn_app (goodIn_of _ (by decide +kernel)) ggX6_run_X6_seeNextRun
set_option maxRecDepth 20000 in
theorem ggX6_run_X4_keepInto : GoodIn wsX6_run wsX4_keepInto := goodIn_r _ [125, 102, 104, 40, 41, 42, 29, 43, 31, 32, 33, 34, 39, 27, 28, 30, 35, 36, 37, 38, 154, 155, 156, 157, 158, 159, 160, 161, 162, 163, 164, 165, 166, 167] (by decide +kernel) (by decide +kernel)
set_option maxRecDepth 20000 in
theorem gX6_run_X4_keepInto : GoodIn wsX6_run (wsV RX6 84 RX4 yX4_keepInto wsX4_keepInto) := goodIn_app (goodIn_of _ (by decide +kernel)) ggX6_run_X4_keepInto
set_option maxRecDepth 20000 in
theorem ggX6_run_X3_appendAsNewest : GoodIn wsX6_run wsX3_appendAsNewest := goodIn_r _ [129, 49, 86, 130, 131, 132, 47, 133, 134, 66, 63, 67, 135, 136, 137, 138, 87, 89, 91, 93, 117, 118, 119, 120, 139, 83, 84, 85, 88, 90, 92, 94, 168, 169, 170, 171, 172, 173, 164, 165, 166, 167] (by decide +kernel) (by decide +kernel)
set_option maxRecDepth 20000 in
theorem gX6_run_X3_appendAsNewest : GoodIn wsX6_run (wsV RX6 95 RX3 yX3_appendAsNewest wsX3_appendAsNewest) := goodIn_app (goodIn_of _ (by decide +kernel)) ggX6_run_X3_appendAsNewest
theorem dX6_run_0 : decode cX6_run 0 = .ok (.aload_n 0, 1) := by decide +kernel
theorem dX6_run_1 : decode cX6_run 1 = .ok (.invokevirtual 78, 3) := by decide +kernel
theorem dX6_run_4 : decode cX6_run 4 = .ok (.aload_n 0, 1) := by decide +kernel
theorem dX6_run_5 : decode cX6_run 5 = .ok (.getfield 29, 3) := by decide +kernel
theorem dX6_run_8 : decode cX6_run 8 = .ok (.aload_n 0, 1) := by decide +kernel
theorem dX6_run_9 : decode cX6_run 9 = .ok (.getfield 10, 3) := by decide +kernel
theorem dX6_run_12 : decode cX6_run 12 = .ok (.getfield 81, 3) := by decide +kernel
theorem dX6_run_15 : decode cX6_run 15 = .ok (.invokevirtual 84, 3) := by decide +kernel
theorem dX6_run_18 : decode cX6_run 18 = .ok (.aload_n 0, 1) := by decide +kernel
theorem dX6_run_19 : decode cX6_run 19 = .ok (.getfield 10, 3) := by decide +kernel
theorem dX6_run_22 : decode cX6_run 22 = .ok (.getfield 88, 3) := by decide +kernel
theorem dX6_run_25 : decode cX6_run 25 = .ok (.aload_n 0, 1) := by decide +kernel
theorem dX6_run_26 : decode cX6_run 26 = .ok (.getfield 29, 3) := by decide +kernel
theorem dX6_run_29 : decode cX6_run 29 = .ok (.getfield 92, 3) := by decide +kernel
theorem dX6_run_32 : decode cX6_run 32 = .ok (.invokevirtual 95, 3) := by decide +kernel
theorem dX6_run_35 : decode cX6_run 35 = .ok (.aload_n 0, 1) := by decide +kernel
theorem dX6_run_36 : decode cX6_run 36 = .ok (.getfield 10, 3) := by decide +kernel
theorem dX6_run_39 : decode cX6_run 39 = .ok (.dup, 1) := by decide +kernel
theorem dX6_run_40 : decode cX6_run 40 = .ok (.getfield 100, 3) := by decide +kernel
theorem dX6_run_43 : decode cX6_run 43 = .ok (.iconst 1, 1) := by decide +kernel
theorem dX6_run_44 : decode cX6_run 44 = .ok (.iadd, 1) := by decide +kernel
theorem dX6_run_45 : decode cX6_run 45 = .ok (.putfield 100, 3) := by decide +kernel
theorem dX6_run_48 : decode cX6_run 48 = .ok (.aload_n 0, 1) := by decide +kernel
theorem dX6_run_49 : decode cX6_run 49 = .ok (.getfield 29, 3) := by decide +kernel
theorem dX6_run_52 : decode cX6_run 52 = .ok (.getfield 92, 3) := by decide +kernel
theorem dX6_run_55 : decode cX6_run 55 = .ok (.getfield 103, 3) := by decide +kernel
theorem dX6_run_58 : decode cX6_run 58 = .ok (.ireturn, 1) := by decide +kernel
set_option maxRecDepth 20000 in
theorem ggX6_litre_X6_seeNextRun : GoodIn wsX6_litre wsX6_seeNextRun := goodIn_r _ [8, 1, 9, 10, 11, 12, 13, 14, 15, 16, 17, 18, 19, 20, 21, 22, 23, 24, 25, 26, 27, 28, 29, 30, 31, 32, 33, 34, 35, 36, 37, 38, 39, 40, 41, 42, 43, 44, 45, 46, 47, 48, 49, 50, 51, 52, 7, 53, 54, 55, 56, 57, 58, 59, 60, 61, 62, 63, 64, 65, 66, 67, 68, 69, 70, 71, 72, 73, 74, 75, 76, 77, 78, 79, 80, 81, 82, 83, 84, 85, 86, 87, 88, 89, 90, 91, 92, 93, 94, 95, 96, 97, 98, 99, 100, 101, 102, 103, 104, 105, 106, 107, 108, 109, 110, 111, 112, 113, 114, 115, 116, 117, 118, 119, 127, 128, 129, 130, 131, 132, 133, 134, 151, 152, 153, 154, 155, 156, 135, 136, 137, 138, 139, 140, 141, 142, 143, 144, 157, 158, 159, 160, 145, 146, 147, 148, 149, 150] (by decide +kernel) (by decide +kernel)
set_option maxRecDepth 20000 in
theorem gX6_litre_X6_seeNextRun : GoodIn wsX6_litre (wsV RX6 78 RX6 yX6_seeNextRun wsX6_seeNextRun) := goodIn_app (goodIn_of _ (by decide +kernel)) ggX6_litre_X6_seeNextRun
set_option maxRecDepth 20000 in
theorem ggX6_litre_X6_within : GoodIn wsX6_litre wsX6_within := goodIn_r _ [122] (by decide +kernel) (by decide +kernel)
set_option maxRecDepth 20000 in
theorem gX6_litre_X6_within : GoodIn wsX6_litre (va_wsS RX6 54 yX6_within wsX6_within) := goodIn_app (goodIn_of _ (by decide +kernel)) ggX6_litre_X6_within
set_option maxRecDepth 20000 in
theorem ggX6_litre_X4_tellLitre : GoodIn wsX6_litre wsX4_tellLitre := goodIn_r _ [126, 98, 99, 23, 20, 75, 111, 112, 113, 45, 114, 85, 87, 89, 91, 115, 116, 117, 118, 47, 84, 119, 25, 26, 27, 28, 29, 30, 31, 32, 48, 49, 50, 51, 52, 7, 53, 135, 136, 137, 138, 139, 140, 141, 142, 143, 144, 145, 146, 147, 148, 149, 150, 157, 158, 159, 160] (by decide +kernel) (by decide +kernel)
set_option maxRecDepth 20000 in
theorem gX6_litre_X4_tellLitre : GoodIn wsX6_litre (wsV RX6 112 RX4 yX4_tellLitre wsX4_tellLitre) := goodIn_app (goodIn_of _ (by decide +kernel)) ggX6_litre_X4_tellLitre
theorem dX6_litre_0 : decode cX6_litre 0 = .ok (.aload_n 0, 1) := by decide +kernel
theorem dX6_litre_1 : decode cX6_litre 1 = .ok (.invokevirtual 78, 3) := by decide +kernel
theorem dX6_litre_4 : decode cX6_litre 4 = .ok (.iload_n 1, 1) := by decide +kernel
theorem dX6_litre_5 : decode cX6_litre 5 = .ok (.iconst (-1), 1) := by decide +kernel
theorem dX6_litre_6 : decode cX6_litre 6 = .ok (.aload_n 0, 1) := by decide +kernel
theorem dX6_litre_7 : decode cX6_litre 7 = .ok (.getfield 29, 3) := by decide +kernel
theorem dX6_litre_10 : decode cX6_litre 10 = .ok (.getfield 106, 3) := by decide +kernel
theorem dX6_litre_13 : decode cX6_litre 13 = .ok (.getfield 109, 3) := by decide +kernel
theorem dX6_litre_16 : decode cX6_litre 16 = .ok (.iconst 1, 1) := by decide +kernel
theorem dX6_litre_17 : decode cX6_litre 17 = .ok (.isub, 1) := by decide +kernel
theorem dX6_litre_18 : decode cX6_litre 18 = .ok (.invokestatic 54, 3) := by decide +kernel
theorem dX6_litre_21 : decode cX6_litre 21 = .ok (.ifCond .ne 5, 3) := by decide +kernel
theorem dX6_litre_24 : decode cX6_litre 24 = .ok (.iconst (-1), 1) := by decide +kernel
theorem dX6_litre_25 : decode cX6_litre 25 = .ok (.ireturn, 1) := by decide +kernel
theorem dX6_litre_26 : decode cX6_litre 26 = .ok (.iload_n 2, 1) := by decide +kernel
theorem dX6_litre_27 : decode cX6_litre 27 = .ok (.iconst 0, 1) := by decide +kernel
theorem dX6_litre_28 : decode cX6_litre 28 = .ok (.iconst 4, 1) := by decide +kernel
theorem dX6_litre_29 : decode cX6_litre 29 = .ok (.invokestatic 54, 3) := by decide +kernel
theorem dX6_litre_32 : decode cX6_litre 32 = .ok (.ifCond .ne 6, 3) := by decide +kernel
theorem dX6_litre_35 : decode cX6_litre 35 = .ok (.bipush (-2), 2) := by decide +kernel
theorem dX6_litre_37 : decode cX6_litre 37 = .ok (.ireturn, 1) := by decide +kernel
theorem dX6_litre_38 : decode cX6_litre 38 = .ok (.iload_n 1, 1) := by decide +kernel
theorem dX6_litre_39 : decode cX6_litre 39 = .ok (.iconst (-1), 1) := by decide +kernel
theorem dX6_litre_40 : decode cX6_litre 40 = .ok (.if_icmp .ne 16, 3) := by decide +kernel
theorem dX6_litre_43 : decode cX6_litre 43 = .ok (.aload_n 0, 1) := by decide +kernel
theorem dX6_litre_44 : decode cX6_litre 44 = .ok (.getfield 29, 3) := by decide +kernel
theorem dX6_litre_47 : decode cX6_litre 47 = .ok (.getfield 106, 3) := by decide +kernel
theorem dX6_litre_50 : decode cX6_litre 50 = .ok (.getfield 109, 3) := by decide +kernel
theorem dX6_litre_53 : decode cX6_litre 53 = .ok (.goto 12, 3) := by decide +kernel
theorem dX6_litre_56 : decode cX6_litre 56 = .ok (.aload_n 0, 1) := by decide +kernel
theorem dX6_litre_57 : decode cX6_litre 57 = .ok (.getfield 29, 3) := by decide +kernel
theorem dX6_litre_60 : decode cX6_litre 60 = .ok (.iload_n 1, 1) := by decide +kernel
theorem dX6_litre_61 : decode cX6_litre 61 = .ok (.iload_n 2, 1) := by decide +kernel
theorem dX6_litre_62 : decode cX6_litre 62 = .ok (.invokevirtual 112, 3) := by decide +kernel
theorem dX6_litre_65 : decode cX6_litre 65 = .ok (.ireturn, 1) := by decide +kernel
set_option maxRecDepth 20000 in
theorem ggX6_part_X6_within : GoodIn wsX6_part wsX6_within := goodIn_r _ [5] (by decide +kernel) (by decide +kernel)
set_option maxRecDepth 20000 in
theorem gX6_part_X6_within : GoodIn wsX6_part (va_wsS RX6 54 yX6_within wsX6_within) := goodIn_app (goodIn_of _ (by decide +kernel)) ggX6_part_X6_within
set_option maxRecDepth 20000 in
theorem ggX6_part_X6_seeNextRun : GoodIn wsX6_part wsX6_seeNextRun := goodIn_r _ [9, 1, 10, 11, 12, 13, 14, 15, 16, 17, 18, 19, 20, 21, 22, 23, 24, 25, 26, 27, 28, 29, 30, 31, 32, 33, 34, 35, 36, 37, 38, 39, 40, 41, 42, 43, 44, 45, 46, 47, 48, 49, 50, 51, 52, 53, 4, 54, 55, 56, 57, 58, 59, 60, 61, 62, 63, 64, 65, 66, 67, 68, 69, 70, 71, 72, 73, 74, 75, 76, 77, 78, 79, 80, 81, 82, 83, 84, 85, 86, 87, 88, 89, 90, 91, 92, 93, 94, 95, 96, 97, 98, 99, 100, 101, 102, 103, 104, 105, 106, 107, 108, 109, 110, 111, 112, 113, 114, 115, 116, 117, 118, 119, 120, 126, 127, 128, 129, 130, 131, 132, 133, 134, 135, 136, 137, 138, 139, 140, 141, 142, 143, 144, 145, 146, 147, 148, 149, 150, 151, 152, 153, 154, 155, 156, 157, 158, 159] (by decide +kernel) (by decide +kernel)
set_option maxRecDepth 20000 in
theorem gX6_part_X6_seeNextRun : GoodIn wsX6_part (wsV RX6 78 RX6 yX6_seeNextRun wsX6_seeNextRun) := goodIn_app (goodIn_of _ (by decide +kernel)) ggX6_part_X6_seeNextRun
set_option maxRecDepth 20000 in
theorem ggX6_part_X4_liquidOf : GoodIn wsX6_part wsX4_liquidOf := goodIn_r _ [124, 19, 101, 102, 103, 20, 140, 141, 142, 143, 144, 145, 146, 147, 148, 149] (by decide +kernel) (by decide +kernel)
set_option maxRecDepth 20000 in
theorem gX6_part_X4_liquidOf : GoodIn wsX6_part (wsV RX6 116 RX4 yX4_liquidOf wsX4_liquidOf) := goodIn_app (goodIn_of _ (by decide +kernel)) ggX6_part_X4_liquidOf
set_option maxRecDepth 20000 in
theorem ggX6_part_X2_tell : GoodIn wsX6_part wsX2_tell := goodIn_r _ [52, 30, 31, 32, 33, 53, 4, 54, 150, 151, 152, 153] (by decide +kernel) (by decide +kernel)
set_option maxRecDepth 20000 in
theorem gX6_part_X2_tell : GoodIn wsX6_part (wsV RX6 120 RX2 yX2_tell wsX2_tell) := goodIn_app (goodIn_of _ (by decide +kernel)) ggX6_part_X2_tell
theorem dX6_part_0 : decode cX6_part 0 = .ok (.iload_n 1, 1) := by decide +kernel
theorem dX6_part_1 : decode cX6_part 1 = .ok (.iconst 0, 1) := by decide +kernel
theorem dX6_part_2 : decode cX6_part 2 = .ok (.iconst 4, 1) := by decide +kernel
theorem dX6_part_3 : decode cX6_part 3 = .ok (.invokestatic 54, 3) := by decide +kernel
theorem dX6_part_6 : decode cX6_part 6 = .ok (.ifCond .eq 12, 3) := by decide +kernel
theorem dX6_part_9 : decode cX6_part 9 = .ok (.iload_n 2, 1) := by decide +kernel
theorem dX6_part_10 : decode cX6_part 10 = .ok (.iconst 0, 1) := by decide +kernel
theorem dX6_part_11 : decode cX6_part 11 = .ok (.iconst 5, 1) := by decide +kernel
theorem dX6_part_12 : decode cX6_part 12 = .ok (.invokestatic 54, 3) := by decide +kernel
theorem dX6_part_15 : decode cX6_part 15 = .ok (.ifCond .ne 6, 3) := by decide +kernel
theorem dX6_part_18 : decode cX6_part 18 = .ok (.bipush (-2), 2) := by decide +kernel
theorem dX6_part_20 : decode cX6_part 20 = .ok (.ireturn, 1) := by decide +kernel
theorem dX6_part_21 : decode cX6_part 21 = .ok (.aload_n 0, 1) := by decide +kernel
theorem dX6_part_22 : decode cX6_part 22 = .ok (.invokevirtual 78, 3) := by decide +kernel
theorem dX6_part_25 : decode cX6_part 25 = .ok (.aload_n 0, 1) := by decide +kernel
theorem dX6_part_26 : decode cX6_part 26 = .ok (.getfield 29, 3) := by decide +kernel
theorem dX6_part_29 : decode cX6_part 29 = .ok (.iload_n 1, 1) := by decide +kernel
theorem dX6_part_30 : decode cX6_part 30 = .ok (.invokevirtual 116, 3) := by decide +kernel
theorem dX6_part_33 : decode cX6_part 33 = .ok (.iload_n 2, 1) := by decide +kernel
theorem dX6_part_34 : decode cX6_part 34 = .ok (.invokevirtual 120, 3) := by decide +kernel
theorem dX6_part_37 : decode cX6_part 37 = .ok (.ireturn, 1) := by decide +kernel
set_option maxRecDepth 20000 in
theorem ggX6_kept_X6_within : GoodIn wsX6_kept wsX6_within := goodIn_r _ [6] (by decide +kernel) (by decide +kernel)
set_option maxRecDepth 20000 in
theorem gX6_kept_X6_within : GoodIn wsX6_kept (va_wsS RX6 54 yX6_within wsX6_within) := goodIn_app (goodIn_of _ (by decide +kernel)) ggX6_kept_X6_within
set_option maxRecDepth 20000 in
theorem ggX6_kept_X2_tell : GoodIn wsX6_kept wsX2_tell := goodIn_r _ [11, 12, 13, 14, 15, 16, 5, 17, 32, 33, 34, 35] (by decide +kernel) (by decide +kernel)
set_option maxRecDepth 20000 in
theorem gX6_kept_X2_tell : GoodIn wsX6_kept (wsV RX6 120 RX2 yX2_tell wsX2_tell) := goodIn_app (goodIn_of _ (by decide +kernel)) ggX6_kept_X2_tell
theorem dX6_kept_0 : decode cX6_kept 0 = .ok (.iload_n 1, 1) := by decide +kernel
theorem dX6_kept_1 : decode cX6_kept 1 = .ok (.iconst 0, 1) := by decide +kernel
theorem dX6_kept_2 : decode cX6_kept 2 = .ok (.iconst 5, 1) := by decide +kernel
theorem dX6_kept_3 : decode cX6_kept 3 = .ok (.invokestatic 54, 3) := by decide +kernel
theorem dX6_kept_6 : decode cX6_kept 6 = .ok (.ifCond .eq 17, 3) := by decide +kernel
theorem dX6_kept_9 : decode cX6_kept 9 = .ok (.aload_n 0, 1) := by decide +kernel
theorem dX6_kept_10 : decode cX6_kept 10 = .ok (.getfield 10, 3) := by decide +kernel
theorem dX6_kept_13 : decode cX6_kept 13 = .ok (.getfield 81, 3) := by decide +kernel
theorem dX6_kept_16 : decode cX6_kept 16 = .ok (.iload_n 1, 1) := by decide +kernel
theorem dX6_kept_17 : decode cX6_kept 17 = .ok (.invokevirtual 120, 3) := by decide +kernel
theorem dX6_kept_20 : decode cX6_kept 20 = .ok (.goto 5, 3) := by decide +kernel
theorem dX6_kept_23 : decode cX6_kept 23 = .ok (.bipush (-2), 2) := by decide +kernel
theorem dX6_kept_25 : decode cX6_kept 25 = .ok (.ireturn, 1) := by decide +kernel
set_option maxRecDepth 20000 in
theorem ggX6_pour_X2_clear : GoodIn wsX6_pour wsX2_clear := goodIn_r _ [8, 9, 10, 11, 7, 12, 13, 14, 15, 16, 31, 32, 33, 34] (by decide +kernel) (by decide +kernel)
set_option maxRecDepth 20000 in
theorem gX6_pour_X2_clear : GoodIn wsX6_pour (wsV RX6 123 RX2 yX2_clear wsX2_clear) := goodIn_app (goodIn_of _ (by decide +kernel)) ggX6_pour_X2_clear
theorem dX6_pour_0 : decode cX6_pour 0 = .ok (.aload_n 0, 1) := by decide +kernel
theorem dX6_pour_1 : decode cX6_pour 1 = .ok (.getfield 10, 3) := by decide +kernel
theorem dX6_pour_4 : decode cX6_pour 4 = .ok (.getfield 81, 3) := by decide +kernel
theorem dX6_pour_7 : decode cX6_pour 7 = .ok (.getfield 103, 3) := by decide +kernel
theorem dX6_pour_10 : decode cX6_pour 10 = .ok (.istore_n 1, 1) := by decide +kernel
theorem dX6_pour_11 : decode cX6_pour 11 = .ok (.aload_n 0, 1) := by decide +kernel
theorem dX6_pour_12 : decode cX6_pour 12 = .ok (.getfield 10, 3) := by decide +kernel
theorem dX6_pour_15 : decode cX6_pour 15 = .ok (.getfield 81, 3) := by decide +kernel
theorem dX6_pour_18 : decode cX6_pour 18 = .ok (.invokevirtual 123, 3) := by decide +kernel
theorem dX6_pour_21 : decode cX6_pour 21 = .ok (.iload_n 1, 1) := by decide +kernel
theorem dX6_pour_22 : decode cX6_pour 22 = .ok (.ireturn, 1) := by decide +kernel
set_option maxRecDepth 20000 in
theorem ggX6_settled_X6_within : GoodIn wsX6_settled wsX6_within := goodIn_r _ [12] (by decide +kernel) (by decide +kernel)
set_option maxRecDepth 20000 in
theorem gX6_settled_X6_within : GoodIn wsX6_settled (va_wsS RX6 54 yX6_within wsX6_within) := goodIn_app (goodIn_of _ (by decide +kernel)) ggX6_settled_X6_within
set_option maxRecDepth 20000 in
theorem ggX6_settled_X1_settle : GoodIn wsX6_settled wsX1_settle := goodIn_r _ [17, 18, 19, 20, 21, 22, 23, 24, 25, 26, 27, 16, 28, 29, 30, 31, 32, 33, 34, 35, 36, 37, 38, 39, 40, 41, 42, 43, 44, 45, 46, 47, 48, 49, 50, 51, 52, 53, 54, 55, 56, 57, 58, 59, 60, 61, 62, 63, 64, 65, 66, 67, 68, 69, 70, 71, 72, 73, 74, 75, 76, 77, 78, 79, 80, 81, 82, 83, 84, 85, 86, 87, 88, 89, 90, 91, 92, 93, 94, 95, 11, 96, 97, 98, 99, 100, 101, 102, 103, 104, 105, 106, 107, 108, 109, 110, 111, 112, 113, 114, 115, 116, 117, 118, 119, 120, 121, 122, 123, 124, 125, 126, 127, 128, 129, 130, 131, 132, 133, 134, 135, 136, 137, 138, 139, 140, 141, 142, 143, 144, 145, 146, 147, 148, 149, 150, 151, 152, 153, 154, 155, 156, 157, 158, 167, 168, 169, 170, 171, 172, 173, 178, 179, 180, 181, 182, 183, 174, 175, 176, 177, 184, 185, 186, 187, 188, 189, 190, 191, 192, 193, 194, 195, 196, 197, 198, 199] (by decide +kernel) (by decide +kernel)
set_option maxRecDepth 20000 in
theorem gX6_settled_X1_settle : GoodIn wsX6_settled (wsV RX6 126 RX1 yX1_settle wsX1_settle) := goodIn_app (goodIn_of _ (by decide +kernel)) ggX6_settled_X1_settle
theorem dX6_settled_0 : decode cX6_settled 0 = .ok (.iload_n 1, 1) := by decide +kernel
theorem dX6_settled_1 : decode cX6_settled 1 = .ok (.iconst 0, 1) := by decide +kernel
theorem dX6_settled_2 : decode cX6_settled 2 = .ok (.iconst 3, 1) := by decide +kernel
theorem dX6_settled_3 : decode cX6_settled 3 = .ok (.invokestatic 54, 3) := by decide +kernel
theorem dX6_settled_6 : decode cX6_settled 6 = .ok (.ifCond .ne 6, 3) := by decide +kernel
theorem dX6_settled_9 : decode cX6_settled 9 = .ok (.bipush (-2), 2) := by decide +kernel
theorem dX6_settled_11 : decode cX6_settled 11 = .ok (.ireturn, 1) := by decide +kernel
theorem dX6_settled_12 : decode cX6_settled 12 = .ok (.aload_n 0, 1) := by decide +kernel
theorem dX6_settled_13 : decode cX6_settled 13 = .ok (.getfield 43, 3) := by decide +kernel
theorem dX6_settled_16 : decode cX6_settled 16 = .ok (.aload_n 0, 1) := by decide +kernel
theorem dX6_settled_17 : decode cX6_settled 17 = .ok (.getfield 10, 3) := by decide +kernel
theorem dX6_settled_20 : decode cX6_settled 20 = .ok (.aload_n 0, 1) := by decide +kernel
theorem dX6_settled_21 : decode cX6_settled 21 = .ok (.getfield 29, 3) := by decide +kernel
theorem dX6_settled_24 : decode cX6_settled 24 = .ok (.invokevirtual 126, 3) := by decide +kernel
theorem dX6_settled_27 : decode cX6_settled 27 = .ok (.ifCond .ne 6, 3) := by decide +kernel
theorem dX6_settled_30 : decode cX6_settled 30 = .ok (.bipush (-6), 2) := by decide +kernel
theorem dX6_settled_32 : decode cX6_settled 32 = .ok (.ireturn, 1) := by decide +kernel
theorem dX6_settled_33 : decode cX6_settled 33 = .ok (.iload_n 1, 1) := by decide +kernel
theorem dX6_settled_34 : decode cX6_settled 34 = .ok (.tableswitch 53 0 2 #[26, 34, 42], 26) := by decide +kernel
theorem dX6_settled_60 : decode cX6_settled 60 = .ok (.aload_n 0, 1) := by decide +kernel
theorem dX6_settled_61 : decode cX6_settled 61 = .ok (.getfield 43, 3) := by decide +kernel
theorem dX6_settled_64 : decode cX6_settled 64 = .ok (.getfield 130, 3) := by decide +kernel
theorem dX6_settled_67 : decode cX6_settled 67 = .ok (.ireturn, 1) := by decide +kernel
theorem dX6_settled_68 : decode cX6_settled 68 = .ok (.aload_n 0, 1) := by decide +kernel
theorem dX6_settled_69 : decode cX6_settled 69 = .ok (.getfield 43, 3) := by decide +kernel
theorem dX6_settled_72 : decode cX6_settled 72 = .ok (.getfield 133, 3) := by decide +kernel
theorem dX6_settled_75 : decode cX6_settled 75 = .ok (.ireturn, 1) := by decide +kernel
theorem dX6_settled_76 : decode cX6_settled 76 = .ok (.aload_n 0, 1) := by decide +kernel
theorem dX6_settled_77 : decode cX6_settled 77 = .ok (.getfield 43, 3) := by decide +kernel
theorem dX6_settled_80 : decode cX6_settled 80 = .ok (.getfield 136, 3) := by decide +kernel
theorem dX6_settled_83 : decode cX6_settled 83 = .ok (.getfield 103, 3) := by decide +kernel
theorem dX6_settled_86 : decode cX6_settled 86 = .ok (.ireturn, 1) := by decide +kernel
theorem dX6_settled_87 : decode cX6_settled 87 = .ok (.aload_n 0, 1) := by decide +kernel
theorem dX6_settled_88 : decode cX6_settled 88 = .ok (.getfield 43, 3) := by decide +kernel
theorem dX6_settled_91 : decode cX6_settled 91 = .ok (.getfield 136, 3) := by decide +kernel
theorem dX6_settled_94 : decode cX6_settled 94 = .ok (.getfield 139, 3) := by decide +kernel
theorem dX6_settled_97 : decode cX6_settled 97 = .ok (.ireturn, 1) := by decide +kernel
set_option maxRecDepth 20000 in
theorem ggX6_best_X6_within : GoodIn wsX6_best wsX6_within := goodIn_r _ [8] (by decide +kernel) (by decide +kernel)
set_option maxRecDepth 20000 in
theorem gX6_best_X6_within : GoodIn wsX6_best (va_wsS RX6 54 yX6_within wsX6_within) := goodIn_app (goodIn_of _ (by decide +kernel)) ggX6_best_X6_within
set_option maxRecDepth 20000 in
theorem ggX6_best_X0_seek : GoodIn wsX6_best wsX0_seek := goodIn_r _ [13, 14, 15, 16, 17, 18, 19, 20, 21, 22, 23, 24, 25, 26, 27, 28, 29, 30, 31, 32, 33, 34, 35, 36, 37, 38, 39, 40, 41, 42, 43, 44, 45, 46, 47, 48, 49, 50, 51, 52, 53, 54, 55, 56, 57, 58, 7, 59, 60, 61, 62, 63, 64, 65, 66, 67, 68, 69, 70, 71, 72, 73, 74, 75, 76, 77, 78, 79, 80, 81, 82, 83, 84, 85, 86, 87, 88, 89, 90, 91, 92, 93, 94, 95, 96, 97, 98, 99, 100, 101, 102, 103, 104, 105, 106, 107, 108, 109, 110, 111, 112, 113, 114, 115, 116, 117, 118, 119, 120, 121, 122, 123, 124, 125, 126, 127, 128, 12, 129, 130, 131, 132, 133, 134, 135, 136, 154, 155, 156, 157, 158, 159, 149, 150, 151, 152, 153, 160, 161, 162, 163, 164, 165, 166, 167, 168, 169, 170, 171, 172, 173, 174, 175, 176, 177, 178, 179] (by decide +kernel) (by decide +kernel)
set_option maxRecDepth 20000 in
theorem gX6_best_X0_seek : GoodIn wsX6_best (wsV RX6 142 RX0 yX0_seek wsX0_seek) := goodIn_app (goodIn_of _ (by decide +kernel)) ggX6_best_X0_seek
set_option maxRecDepth 20000 in
theorem ggX6_best_X0_tell : GoodIn wsX6_best wsX0_tell := goodIn_r _ [140, 133, 134, 132, 135, 149, 150, 151, 152, 153] (by decide +kernel) (by decide +kernel)
set_option maxRecDepth 20000 in
theorem gX6_best_X0_tell : GoodIn wsX6_best (wsV RX6 149 RX0 yX0_tell wsX0_tell) := goodIn_app (goodIn_of _ (by decide +kernel)) ggX6_best_X0_tell
theorem dX6_best_0 : decode cX6_best 0 = .ok (.iload_n 1, 1) := by decide +kernel
theorem dX6_best_1 : decode cX6_best 1 = .ok (.iconst 0, 1) := by decide +kernel
theorem dX6_best_2 : decode cX6_best 2 = .ok (.iconst 4, 1) := by decide +kernel
theorem dX6_best_3 : decode cX6_best 3 = .ok (.invokestatic 54, 3) := by decide +kernel
theorem dX6_best_6 : decode cX6_best 6 = .ok (.ifCond .ne 6, 3) := by decide +kernel
theorem dX6_best_9 : decode cX6_best 9 = .ok (.bipush (-2), 2) := by decide +kernel
theorem dX6_best_11 : decode cX6_best 11 = .ok (.ireturn, 1) := by decide +kernel
theorem dX6_best_12 : decode cX6_best 12 = .ok (.aload_n 0, 1) := by decide +kernel
theorem dX6_best_13 : decode cX6_best 13 = .ok (.getfield 36, 3) := by decide +kernel
theorem dX6_best_16 : decode cX6_best 16 = .ok (.aload_n 0, 1) := by decide +kernel
theorem dX6_best_17 : decode cX6_best 17 = .ok (.getfield 10, 3) := by decide +kernel
theorem dX6_best_20 : decode cX6_best 20 = .ok (.aload_n 0, 1) := by decide +kernel
theorem dX6_best_21 : decode cX6_best 21 = .ok (.getfield 29, 3) := by decide +kernel
theorem dX6_best_24 : decode cX6_best 24 = .ok (.invokevirtual 142, 3) := by decide +kernel
theorem dX6_best_27 : decode cX6_best 27 = .ok (.iload_n 1, 1) := by decide +kernel
theorem dX6_best_28 : decode cX6_best 28 = .ok (.iconst 4, 1) := by decide +kernel
theorem dX6_best_29 : decode cX6_best 29 = .ok (.if_icmp .ne 11, 3) := by decide +kernel
theorem dX6_best_32 : decode cX6_best 32 = .ok (.aload_n 0, 1) := by decide +kernel
theorem dX6_best_33 : decode cX6_best 33 = .ok (.getfield 36, 3) := by decide +kernel
theorem dX6_best_36 : decode cX6_best 36 = .ok (.getfield 146, 3) := by decide +kernel
theorem dX6_best_39 : decode cX6_best 39 = .ok (.ireturn, 1) := by decide +kernel
theorem dX6_best_40 : decode cX6_best 40 = .ok (.aload_n 0, 1) := by decide +kernel
theorem dX6_best_41 : decode cX6_best 41 = .ok (.getfield 36, 3) := by decide +kernel
theorem dX6_best_44 : decode cX6_best 44 = .ok (.getfield 146, 3) := by decide +kernel
theorem dX6_best_47 : decode cX6_best 47 = .ok (.ifCond .ne 8, 3) := by decide +kernel
theorem dX6_best_50 : decode cX6_best 50 = .ok (.bipush (-6), 2) := by decide +kernel
theorem dX6_best_52 : decode cX6_best 52 = .ok (.goto 11, 3) := by decide +kernel
theorem dX6_best_55 : decode cX6_best 55 = .ok (.aload_n 0, 1) := by decide +kernel
theorem dX6_best_56 : decode cX6_best 56 = .ok (.getfield 36, 3) := by decide +kernel
theorem dX6_best_59 : decode cX6_best 59 = .ok (.iload_n 1, 1) := by decide +kernel
theorem dX6_best_60 : decode cX6_best 60 = .ok (.invokevirtual 149, 3) := by decide +kernel
theorem dX6_best_63 : decode cX6_best 63 = .ok (.ireturn, 1) := by decide +kernel
set_option maxRecDepth 20000 in
theorem ggX6_take_X0_seek : GoodIn wsX6_take wsX0_seek := goodIn_r _ [13, 14, 15, 16, 17, 18, 19, 20, 21, 22, 23, 24, 25, 26, 27, 28, 29, 30, 31, 32, 33, 34, 35, 36, 37, 38, 39, 40, 41, 42, 43, 44, 45, 46, 47, 48, 49, 50, 51, 52, 53, 54, 55, 56, 57, 58, 59, 60, 61, 62, 63, 64, 65, 66, 67, 68, 69, 70, 71, 72, 73, 74, 75, 76, 77, 78, 79, 80, 81, 82, 83, 84, 85, 86, 87, 88, 89, 90, 91, 92, 93, 94, 95, 96, 97, 98, 99, 100, 101, 102, 103, 104, 105, 106, 107, 108, 109, 110, 111, 112, 113, 114, 115, 116, 117, 118, 119, 120, 121, 122, 123, 124, 125, 126, 127, 128, 129, 12, 130, 131, 132, 133, 134, 135, 136, 137, 151, 152, 153, 154, 155, 156, 146, 147, 148, 149, 150, 157, 158, 159, 160, 161, 162, 163, 164, 165, 166, 167, 168, 169, 170, 171, 172, 173, 174, 175, 176] (by decide +kernel) (by decide +kernel)
set_option maxRecDepth 20000 in
theorem gX6_take_X0_seek : GoodIn wsX6_take (wsV RX6 142 RX0 yX0_seek wsX0_seek) := goodIn_app (goodIn_of _ (by decide +kernel)) ggX6_take_X0_seek
theorem dX6_take_0 : decode cX6_take 0 = .ok (.aload_n 0, 1) := by decide +kernel
theorem dX6_take_1 : decode cX6_take 1 = .ok (.getfield 36, 3) := by decide +kernel
theorem dX6_take_4 : decode cX6_take 4 = .ok (.aload_n 0, 1) := by decide +kernel
theorem dX6_take_5 : decode cX6_take 5 = .ok (.getfield 10, 3) := by decide +kernel
theorem dX6_take_8 : decode cX6_take 8 = .ok (.aload_n 0, 1) := by decide +kernel
theorem dX6_take_9 : decode cX6_take 9 = .ok (.getfield 29, 3) := by decide +kernel
theorem dX6_take_12 : decode cX6_take 12 = .ok (.invokevirtual 142, 3) := by decide +kernel
theorem dX6_take_15 : decode cX6_take 15 = .ok (.aload_n 0, 1) := by decide +kernel
theorem dX6_take_16 : decode cX6_take 16 = .ok (.getfield 36, 3) := by decide +kernel
theorem dX6_take_19 : decode cX6_take 19 = .ok (.getfield 146, 3) := by decide +kernel
theorem dX6_take_22 : decode cX6_take 22 = .ok (.ifCond .ne 6, 3) := by decide +kernel
theorem dX6_take_25 : decode cX6_take 25 = .ok (.bipush (-3), 2) := by decide +kernel
theorem dX6_take_27 : decode cX6_take 27 = .ok (.ireturn, 1) := by decide +kernel
theorem dX6_take_28 : decode cX6_take 28 = .ok (.aload_n 0, 1) := by decide +kernel
theorem dX6_take_29 : decode cX6_take 29 = .ok (.getfield 10, 3) := by decide +kernel
theorem dX6_take_32 : decode cX6_take 32 = .ok (.getfield 71, 3) := by decide +kernel
theorem dX6_take_35 : decode cX6_take 35 = .ok (.iconst 0, 1) := by decide +kernel
theorem dX6_take_36 : decode cX6_take 36 = .ok (.aload_n 0, 1) := by decide +kernel
theorem dX6_take_37 : decode cX6_take 37 = .ok (.getfield 36, 3) := by decide +kernel
theorem dX6_take_40 : decode cX6_take 40 = .ok (.getfield 150, 3) := by decide +kernel
theorem dX6_take_43 : decode cX6_take 43 = .ok (.iastore, 1) := by decide +kernel
theorem dX6_take_44 : decode cX6_take 44 = .ok (.aload_n 0, 1) := by decide +kernel
theorem dX6_take_45 : decode cX6_take 45 = .ok (.getfield 10, 3) := by decide +kernel
theorem dX6_take_48 : decode cX6_take 48 = .ok (.getfield 71, 3) := by decide +kernel
theorem dX6_take_51 : decode cX6_take 51 = .ok (.iconst 1, 1) := by decide +kernel
theorem dX6_take_52 : decode cX6_take 52 = .ok (.aload_n 0, 1) := by decide +kernel
theorem dX6_take_53 : decode cX6_take 53 = .ok (.getfield 36, 3) := by decide +kernel
theorem dX6_take_56 : decode cX6_take 56 = .ok (.getfield 153, 3) := by decide +kernel
theorem dX6_take_59 : decode cX6_take 59 = .ok (.iastore, 1) := by decide +kernel
theorem dX6_take_60 : decode cX6_take 60 = .ok (.aload_n 0, 1) := by decide +kernel
theorem dX6_take_61 : decode cX6_take 61 = .ok (.getfield 36, 3) := by decide +kernel
theorem dX6_take_64 : decode cX6_take 64 = .ok (.getfield 156, 3) := by decide +kernel
theorem dX6_take_67 : decode cX6_take 67 = .ok (.ireturn, 1) := by decide +kernel
set_option maxRecDepth 20000 in
theorem ggX6_cask_X6_within : GoodIn wsX6_cask wsX6_within := goodIn_r _ [8] (by decide +kernel) (by decide +kernel)
set_option maxRecDepth 20000 in
theorem gX6_cask_X6_within : GoodIn wsX6_cask (va_wsS RX6 54 yX6_within wsX6_within) := goodIn_app (goodIn_of _ (by decide +kernel)) ggX6_cask_X6_within
set_option maxRecDepth 20000 in
theorem ggX6_cask_X1_runsToFill : GoodIn wsX6_cask wsX1_runsToFill := goodIn_r _ [13, 14, 15, 16, 17, 18, 12, 19, 20, 21, 22, 23, 24, 25, 26, 27, 28, 29, 30, 31, 32, 33, 34, 35, 36, 37, 38, 39, 40, 41, 42, 43, 44, 45, 46, 47, 48, 49, 50, 51, 52, 53, 54, 55, 56, 57, 58, 59, 60, 61, 62, 63, 64, 65, 66, 67, 68, 69, 70, 71, 72, 73, 74, 75, 76, 77, 78, 79, 80, 81, 82, 83, 84, 85, 86, 87, 88, 89, 7, 90, 91, 92, 93, 94, 95, 96, 97, 98, 99, 100, 101, 102, 103, 104, 105, 106, 107, 108, 109, 110, 111, 112, 113, 114, 115, 116, 117, 118, 119, 120, 121, 122, 123, 124, 125, 126, 127, 128, 129, 130, 131, 132, 133, 134, 135, 136, 137, 138, 139, 140, 141, 142, 143, 144, 145, 146, 156, 157, 158, 159, 160, 161, 162, 163, 164, 165, 166, 167, 168, 169, 170, 171, 172, 173, 174, 175, 176, 177, 178, 179, 180, 181, 182, 183, 184, 185, 186, 187, 188] (by decide +kernel) (by decide +kernel)
set_option maxRecDepth 20000 in
theorem gX6_cask_X1_runsToFill : GoodIn wsX6_cask (wsV RX6 157 RX1 yX1_runsToFill wsX1_runsToFill) := goodIn_app (goodIn_of _ (by decide +kernel)) ggX6_cask_X1_runsToFill
set_option maxRecDepth 20000 in
theorem ggX6_cask_X2_tell : GoodIn wsX6_cask wsX2_tell := goodIn_r _ [88, 29, 30, 31, 32, 89, 7, 90, 163, 164, 165, 166] (by decide +kernel) (by decide +kernel)
set_option maxRecDepth 20000 in
theorem gX6_cask_X2_tell : GoodIn wsX6_cask (wsV RX6 120 RX2 yX2_tell wsX2_tell) := goodIn_app (goodIn_of _ (by decide +kernel)) ggX6_cask_X2_tell
theorem dX6_cask_0 : decode cX6_cask 0 = .ok (.iload_n 1, 1) := by decide +kernel
theorem dX6_cask_1 : decode cX6_cask 1 = .ok (.iconst 1, 1) := by decide +kernel
theorem dX6_cask_2 : decode cX6_cask 2 = .ok (.sipush 999, 3) := by decide +kernel
theorem dX6_cask_5 : decode cX6_cask 5 = .ok (.invokestatic 54, 3) := by decide +kernel
theorem dX6_cask_8 : decode cX6_cask 8 = .ok (.ifCond .eq 12, 3) := by decide +kernel
theorem dX6_cask_11 : decode cX6_cask 11 = .ok (.iload_n 2, 1) := by decide +kernel
theorem dX6_cask_12 : decode cX6_cask 12 = .ok (.iconst 0, 1) := by decide +kernel
theorem dX6_cask_13 : decode cX6_cask 13 = .ok (.iconst 1, 1) := by decide +kernel
theorem dX6_cask_14 : decode cX6_cask 14 = .ok (.invokestatic 54, 3) := by decide +kernel
theorem dX6_cask_17 : decode cX6_cask 17 = .ok (.ifCond .ne 6, 3) := by decide +kernel
theorem dX6_cask_20 : decode cX6_cask 20 = .ok (.bipush (-2), 2) := by decide +kernel
theorem dX6_cask_22 : decode cX6_cask 22 = .ok (.ireturn, 1) := by decide +kernel
theorem dX6_cask_23 : decode cX6_cask 23 = .ok (.aload_n 0, 1) := by decide +kernel
theorem dX6_cask_24 : decode cX6_cask 24 = .ok (.getfield 43, 3) := by decide +kernel
theorem dX6_cask_27 : decode cX6_cask 27 = .ok (.iload_n 1, 1) := by decide +kernel
theorem dX6_cask_28 : decode cX6_cask 28 = .ok (.aload_n 0, 1) := by decide +kernel
theorem dX6_cask_29 : decode cX6_cask 29 = .ok (.getfield 10, 3) := by decide +kernel
theorem dX6_cask_32 : decode cX6_cask 32 = .ok (.aload_n 0, 1) := by decide +kernel
theorem dX6_cask_33 : decode cX6_cask 33 = .ok (.getfield 29, 3) := by decide +kernel
theorem dX6_cask_36 : decode cX6_cask 36 = .ok (.invokevirtual 157, 3) := by decide +kernel
theorem dX6_cask_39 : decode cX6_cask 39 = .ok (.istore_n 3, 1) := by decide +kernel
theorem dX6_cask_40 : decode cX6_cask 40 = .ok (.iload_n 3, 1) := by decide +kernel
theorem dX6_cask_41 : decode cX6_cask 41 = .ok (.ifCond .ne 6, 3) := by decide +kernel
theorem dX6_cask_44 : decode cX6_cask 44 = .ok (.bipush (-6), 2) := by decide +kernel
theorem dX6_cask_46 : decode cX6_cask 46 = .ok (.ireturn, 1) := by decide +kernel
theorem dX6_cask_47 : decode cX6_cask 47 = .ok (.iload_n 2, 1) := by decide +kernel
theorem dX6_cask_48 : decode cX6_cask 48 = .ok (.ifCond .ne 7, 3) := by decide +kernel
theorem dX6_cask_51 : decode cX6_cask 51 = .ok (.iload_n 3, 1) := by decide +kernel
theorem dX6_cask_52 : decode cX6_cask 52 = .ok (.goto 14, 3) := by decide +kernel
theorem dX6_cask_55 : decode cX6_cask 55 = .ok (.aload_n 0, 1) := by decide +kernel
theorem dX6_cask_56 : decode cX6_cask 56 = .ok (.getfield 43, 3) := by decide +kernel
theorem dX6_cask_59 : decode cX6_cask 59 = .ok (.getfield 136, 3) := by decide +kernel
theorem dX6_cask_62 : decode cX6_cask 62 = .ok (.iconst 4, 1) := by decide +kernel
theorem dX6_cask_63 : decode cX6_cask 63 = .ok (.invokevirtual 120, 3) := by decide +kernel
theorem dX6_cask_66 : decode cX6_cask 66 = .ok (.ireturn, 1) := by decide +kernel
set_option maxRecDepth 20000 in
theorem ggX6_page_X6_within : GoodIn wsX6_page wsX6_within := goodIn_r _ [8] (by decide +kernel) (by decide +kernel)
set_option maxRecDepth 20000 in
theorem gX6_page_X6_within : GoodIn wsX6_page (va_wsS RX6 54 yX6_within wsX6_within) := goodIn_app (goodIn_of _ (by decide +kernel)) ggX6_page_X6_within
set_option maxRecDepth 20000 in
theorem ggX6_page_X3_load : GoodIn wsX6_page wsX3_load := goodIn_r _ [13, 14, 15, 16, 17, 18, 19, 20, 12, 21, 22, 23, 24, 25, 26, 27, 28, 29, 30, 31, 32, 53, 54, 55, 56, 57, 58, 59, 60, 61, 62] (by decide +kernel) (by decide +kernel)
set_option maxRecDepth 20000 in
theorem gX6_page_X3_load : GoodIn wsX6_page (wsV RX6 161 RX3 yX3_load wsX3_load) := goodIn_app (goodIn_of _ (by decide +kernel)) ggX6_page_X3_load
set_option maxRecDepth 20000 in
theorem ggX6_page_X2_tell : GoodIn wsX6_page wsX2_tell := goodIn_r _ [36, 29, 30, 31, 32, 37, 7, 38, 59, 60, 61, 62] (by decide +kernel) (by decide +kernel)
set_option maxRecDepth 20000 in
theorem gX6_page_X2_tell : GoodIn wsX6_page (wsV RX6 120 RX2 yX2_tell wsX2_tell) := goodIn_app (goodIn_of _ (by decide +kernel)) ggX6_page_X2_tell
theorem dX6_page_0 : decode cX6_page 0 = .ok (.iload_n 1, 1) := by decide +kernel
theorem dX6_page_1 : decode cX6_page 1 = .ok (.iconst 0, 1) := by decide +kernel
theorem dX6_page_2 : decode cX6_page 2 = .ok (.aload_n 0, 1) := by decide +kernel
theorem dX6_page_3 : decode cX6_page 3 = .ok (.getfield 10, 3) := by decide +kernel
theorem dX6_page_6 : decode cX6_page 6 = .ok (.getfield 88, 3) := by decide +kernel
theorem dX6_page_9 : decode cX6_page 9 = .ok (.getfield 109, 3) := by decide +kernel
theorem dX6_page_12 : decode cX6_page 12 = .ok (.iconst 1, 1) := by decide +kernel
theorem dX6_page_13 : decode cX6_page 13 = .ok (.isub, 1) := by decide +kernel
theorem dX6_page_14 : decode cX6_page 14 = .ok (.invokestatic 54, 3) := by decide +kernel
theorem dX6_page_17 : decode cX6_page 17 = .ok (.ifCond .ne 5, 3) := by decide +kernel
theorem dX6_page_20 : decode cX6_page 20 = .ok (.iconst (-1), 1) := by decide +kernel
theorem dX6_page_21 : decode cX6_page 21 = .ok (.ireturn, 1) := by decide +kernel
theorem dX6_page_22 : decode cX6_page 22 = .ok (.iload_n 2, 1) := by decide +kernel
theorem dX6_page_23 : decode cX6_page 23 = .ok (.iconst 0, 1) := by decide +kernel
theorem dX6_page_24 : decode cX6_page 24 = .ok (.iconst 5, 1) := by decide +kernel
theorem dX6_page_25 : decode cX6_page 25 = .ok (.invokestatic 54, 3) := by decide +kernel
theorem dX6_page_28 : decode cX6_page 28 = .ok (.ifCond .ne 6, 3) := by decide +kernel
theorem dX6_page_31 : decode cX6_page 31 = .ok (.bipush (-2), 2) := by decide +kernel
theorem dX6_page_33 : decode cX6_page 33 = .ok (.ireturn, 1) := by decide +kernel
theorem dX6_page_34 : decode cX6_page 34 = .ok (.aload_n 0, 1) := by decide +kernel
theorem dX6_page_35 : decode cX6_page 35 = .ok (.getfield 10, 3) := by decide +kernel
theorem dX6_page_38 : decode cX6_page 38 = .ok (.getfield 88, 3) := by decide +kernel
theorem dX6_page_41 : decode cX6_page 41 = .ok (.iload_n 1, 1) := by decide +kernel
theorem dX6_page_42 : decode cX6_page 42 = .ok (.aload_n 0, 1) := by decide +kernel
theorem dX6_page_43 : decode cX6_page 43 = .ok (.getfield 50, 3) := by decide +kernel
theorem dX6_page_46 : decode cX6_page 46 = .ok (.invokevirtual 161, 3) := by decide +kernel
theorem dX6_page_49 : decode cX6_page 49 = .ok (.aload_n 0, 1) := by decide +kernel
theorem dX6_page_50 : decode cX6_page 50 = .ok (.getfield 50, 3) := by decide +kernel
theorem dX6_page_53 : decode cX6_page 53 = .ok (.iload_n 2, 1) := by decide +kernel
theorem dX6_page_54 : decode cX6_page 54 = .ok (.invokevirtual 120, 3) := by decide +kernel
theorem dX6_page_57 : decode cX6_page 57 = .ok (.ireturn, 1) := by decide +kernel
set_option maxRecDepth 20000 in
theorem ggX6_weed_X6_within : GoodIn wsX6_weed wsX6_within := goodIn_r _ [8] (by decide +kernel) (by decide +kernel)
set_option maxRecDepth 20000 in
theorem gX6_weed_X6_within : GoodIn wsX6_weed (va_wsS RX6 54 yX6_within wsX6_within) := goodIn_app (goodIn_of _ (by decide +kernel)) ggX6_weed_X6_within
set_option maxRecDepth 20000 in
theorem ggX6_weed_X3_dropBelow : GoodIn wsX6_weed wsX3_dropBelow := goodIn_r _ [13, 14, 15, 16, 17, 12, 18, 19, 20, 21, 22, 23, 24, 25, 26, 27, 28, 29, 30, 31, 32, 33, 34, 35, 36, 37, 38, 39, 40, 41, 7, 42, 43, 44, 45, 46, 61, 62, 63, 64, 65, 66, 67, 68, 69, 70] (by decide +kernel) (by decide +kernel)
set_option maxRecDepth 20000 in
theorem gX6_weed_X3_dropBelow : GoodIn wsX6_weed (wsV RX6 165 RX3 yX3_dropBelow wsX3_dropBelow) := goodIn_app (goodIn_of _ (by decide +kernel)) ggX6_weed_X3_dropBelow
theorem dX6_weed_0 : decode cX6_weed 0 = .ok (.iload_n 1, 1) := by decide +kernel
theorem dX6_weed_1 : decode cX6_weed 1 = .ok (.iconst 0, 1) := by decide +kernel
theorem dX6_weed_2 : decode cX6_weed 2 = .ok (.sipush 1000, 3) := by decide +kernel
theorem dX6_weed_5 : decode cX6_weed 5 = .ok (.invokestatic 54, 3) := by decide +kernel
theorem dX6_weed_8 : decode cX6_weed 8 = .ok (.ifCond .ne 6, 3) := by decide +kernel
theorem dX6_weed_11 : decode cX6_weed 11 = .ok (.bipush (-2), 2) := by decide +kernel
theorem dX6_weed_13 : decode cX6_weed 13 = .ok (.ireturn, 1) := by decide +kernel
theorem dX6_weed_14 : decode cX6_weed 14 = .ok (.aload_n 0, 1) := by decide +kernel
theorem dX6_weed_15 : decode cX6_weed 15 = .ok (.getfield 10, 3) := by decide +kernel
theorem dX6_weed_18 : decode cX6_weed 18 = .ok (.getfield 88, 3) := by decide +kernel
theorem dX6_weed_21 : decode cX6_weed 21 = .ok (.iload_n 1, 1) := by decide +kernel
theorem dX6_weed_22 : decode cX6_weed 22 = .ok (.aload_n 0, 1) := by decide +kernel
theorem dX6_weed_23 : decode cX6_weed 23 = .ok (.getfield 50, 3) := by decide +kernel
theorem dX6_weed_26 : decode cX6_weed 26 = .ok (.invokevirtual 165, 3) := by decide +kernel
theorem dX6_weed_29 : decode cX6_weed 29 = .ok (.aload_n 0, 1) := by decide +kernel
theorem dX6_weed_30 : decode cX6_weed 30 = .ok (.getfield 10, 3) := by decide +kernel
theorem dX6_weed_33 : decode cX6_weed 33 = .ok (.getfield 88, 3) := by decide +kernel
theorem dX6_weed_36 : decode cX6_weed 36 = .ok (.getfield 109, 3) := by decide +kernel
theorem dX6_weed_39 : decode cX6_weed 39 = .ok (.ireturn, 1) := by decide +kernel
set_option maxRecDepth 20000 in
theorem ggX6_image_X6_within : GoodIn wsX6_image wsX6_within := goodIn_r _ [6] (by decide +kernel) (by decide +kernel)
set_option maxRecDepth 20000 in
theorem gX6_image_X6_within : GoodIn wsX6_image (va_wsS RX6 54 yX6_within wsX6_within) := goodIn_app (goodIn_of _ (by decide +kernel)) ggX6_image_X6_within
set_option maxRecDepth 20000 in
theorem ggX6_image_X6_imageAt : GoodIn wsX6_image wsX6_imageAt := goodIn_r _ [10, 11, 12, 60, 61, 62, 63, 64, 65, 66, 67] (by decide +kernel) (by decide +kernel)
set_option maxRecDepth 20000 in
theorem gX6_image_X6_imageAt : GoodIn wsX6_image (wsV RX6 168 RX6 yX6_imageAt wsX6_imageAt) := goodIn_app (goodIn_of _ (by decide +kernel)) ggX6_image_X6_imageAt
set_option maxRecDepth 20000 in
theorem ggX6_image_X5_become : GoodIn wsX6_image wsX5_become := goodIn_r _ [17, 18, 19, 20, 21, 22, 23, 24, 25, 26, 27, 28, 29, 30, 31, 32, 33, 34, 35, 36, 37, 38, 39, 40, 41, 42, 43, 44, 45, 46, 47, 48, 49, 50, 51, 52, 53, 54, 55, 56, 57, 58, 59, 68, 69, 70, 71, 72, 73, 74, 75, 76, 77, 78, 79, 80, 81, 82, 83] (by decide +kernel) (by decide +kernel)
set_option maxRecDepth 20000 in
theorem gX6_image_X5_become : GoodIn wsX6_image (wsV RX6 172 RX5 yX5_become wsX5_become) := goodIn_app (goodIn_of _ (by decide +kernel)) ggX6_image_X5_become
theorem dX6_image_0 : decode cX6_image 0 = .ok (.iload_n 1, 1) := by decide +kernel
theorem dX6_image_1 : decode cX6_image 1 = .ok (.iconst 0, 1) := by decide +kernel
theorem dX6_image_2 : decode cX6_image 2 = .ok (.iconst 1, 1) := by decide +kernel
theorem dX6_image_3 : decode cX6_image 3 = .ok (.invokestatic 54, 3) := by decide +kernel
theorem dX6_image_6 : decode cX6_image 6 = .ok (.ifCond .ne 6, 3) := by decide +kernel
theorem dX6_image_9 : decode cX6_image 9 = .ok (.bipush (-2), 2) := by decide +kernel
theorem dX6_image_11 : decode cX6_image 11 = .ok (.ireturn, 1) := by decide +kernel
theorem dX6_image_12 : decode cX6_image 12 = .ok (.aload_n 0, 1) := by decide +kernel
theorem dX6_image_13 : decode cX6_image 13 = .ok (.iload_n 1, 1) := by decide +kernel
theorem dX6_image_14 : decode cX6_image 14 = .ok (.invokevirtual 168, 3) := by decide +kernel
theorem dX6_image_17 : decode cX6_image 17 = .ok (.aload_n 0, 1) := by decide +kernel
theorem dX6_image_18 : decode cX6_image 18 = .ok (.getfield 10, 3) := by decide +kernel
theorem dX6_image_21 : decode cX6_image 21 = .ok (.invokevirtual 172, 3) := by decide +kernel
theorem dX6_image_24 : decode cX6_image 24 = .ok (.aload_n 0, 1) := by decide +kernel
theorem dX6_image_25 : decode cX6_image 25 = .ok (.dup, 1) := by decide +kernel
theorem dX6_image_26 : decode cX6_image 26 = .ok (.getfield 22, 3) := by decide +kernel
theorem dX6_image_29 : decode cX6_image 29 = .ok (.iconst 1, 1) := by decide +kernel
theorem dX6_image_30 : decode cX6_image 30 = .ok (.iload_n 1, 1) := by decide +kernel
theorem dX6_image_31 : decode cX6_image 31 = .ok (.ishl, 1) := by decide +kernel
theorem dX6_image_32 : decode cX6_image 32 = .ok (.ior, 1) := by decide +kernel
theorem dX6_image_33 : decode cX6_image 33 = .ok (.putfield 22, 3) := by decide +kernel
theorem dX6_image_36 : decode cX6_image 36 = .ok (.iconst 1, 1) := by decide +kernel
theorem dX6_image_37 : decode cX6_image 37 = .ok (.ireturn, 1) := by decide +kernel
set_option maxRecDepth 20000 in
theorem ggX6_restore_X6_within : GoodIn wsX6_restore wsX6_within := goodIn_r _ [6] (by decide +kernel) (by decide +kernel)
set_option maxRecDepth 20000 in
theorem gX6_restore_X6_within : GoodIn wsX6_restore (va_wsS RX6 54 yX6_within wsX6_within) := goodIn_app (goodIn_of _ (by decide +kernel)) ggX6_restore_X6_within
set_option maxRecDepth 20000 in
theorem ggX6_restore_X6_imageAt : GoodIn wsX6_restore wsX6_imageAt := goodIn_r _ [10, 11, 12, 60, 61, 62, 63, 64, 65, 66, 67] (by decide +kernel) (by decide +kernel)
set_option maxRecDepth 20000 in
theorem gX6_restore_X6_imageAt : GoodIn wsX6_restore (wsV RX6 168 RX6 yX6_imageAt wsX6_imageAt) := goodIn_app (goodIn_of _ (by decide +kernel)) ggX6_restore_X6_imageAt
set_option maxRecDepth 20000 in
theorem ggX6_restore_X5_become : GoodIn wsX6_restore wsX5_become := goodIn_r _ [17, 18, 19, 20, 21, 22, 23, 24, 25, 26, 27, 28, 29, 30, 31, 32, 33, 34, 35, 36, 37, 38, 39, 40, 41, 42, 43, 44, 45, 46, 47, 48, 49, 50, 51, 52, 53, 54, 55, 56, 57, 58, 59, 68, 69, 70, 71, 72, 73, 74, 75, 76, 77, 78, 79, 80, 81, 82, 83] (by decide +kernel) (by decide +kernel)
set_option maxRecDepth 20000 in
theorem gX6_restore_X5_become : GoodIn wsX6_restore (wsV RX6 172 RX5 yX5_become wsX5_become) := goodIn_app (goodIn_of _ (by decide +kernel)) ggX6_restore_X5_become
theorem dX6_restore_0 : decode cX6_restore 0 = .ok (.iload_n 1, 1) := by decide +kernel
theorem dX6_restore_1 : decode cX6_restore 1 = .ok (.iconst 0, 1) := by decide +kernel
theorem dX6_restore_2 : decode cX6_restore 2 = .ok (.iconst 1, 1) := by decide +kernel
theorem dX6_restore_3 : decode cX6_restore 3 = .ok (.invokestatic 54, 3) := by decide +kernel
theorem dX6_restore_6 : decode cX6_restore 6 = .ok (.ifCond .ne 6, 3) := by decide +kernel
theorem dX6_restore_9 : decode cX6_restore 9 = .ok (.bipush (-2), 2) := by decide +kernel
theorem dX6_restore_11 : decode cX6_restore 11 = .ok (.ireturn, 1) := by decide +kernel
theorem dX6_restore_12 : decode cX6_restore 12 = .ok (.aload_n 0, 1) := by decide +kernel
theorem dX6_restore_13 : decode cX6_restore 13 = .ok (.getfield 22, 3) := by decide +kernel
theorem dX6_restore_16 : decode cX6_restore 16 = .ok (.iconst 1, 1) := by decide +kernel
theorem dX6_restore_17 : decode cX6_restore 17 = .ok (.iload_n 1, 1) := by decide +kernel
theorem dX6_restore_18 : decode cX6_restore 18 = .ok (.ishl, 1) := by decide +kernel
theorem dX6_restore_19 : decode cX6_restore 19 = .ok (.iand, 1) := by decide +kernel
theorem dX6_restore_20 : decode cX6_restore 20 = .ok (.ifCond .ne 6, 3) := by decide +kernel
theorem dX6_restore_23 : decode cX6_restore 23 = .ok (.bipush (-3), 2) := by decide +kernel
theorem dX6_restore_25 : decode cX6_restore 25 = .ok (.ireturn, 1) := by decide +kernel
theorem dX6_restore_26 : decode cX6_restore 26 = .ok (.aload_n 0, 1) := by decide +kernel
theorem dX6_restore_27 : decode cX6_restore 27 = .ok (.getfield 10, 3) := by decide +kernel
theorem dX6_restore_30 : decode cX6_restore 30 = .ok (.aload_n 0, 1) := by decide +kernel
theorem dX6_restore_31 : decode cX6_restore 31 = .ok (.iload_n 1, 1) := by decide +kernel
theorem dX6_restore_32 : decode cX6_restore 32 = .ok (.invokevirtual 168, 3) := by decide +kernel
theorem dX6_restore_35 : decode cX6_restore 35 = .ok (.invokevirtual 172, 3) := by decide +kernel
theorem dX6_restore_38 : decode cX6_restore 38 = .ok (.iconst 1, 1) := by decide +kernel
theorem dX6_restore_39 : decode cX6_restore 39 = .ok (.ireturn, 1) := by decide +kernel
set_option maxRecDepth 20000 in
theorem ggX6_count_X6_within : GoodIn wsX6_count wsX6_within := goodIn_r _ [12] (by decide +kernel) (by decide +kernel)
set_option maxRecDepth 20000 in
theorem gX6_count_X6_within : GoodIn wsX6_count (va_wsS RX6 54 yX6_within wsX6_within) := goodIn_app (goodIn_of _ (by decide +kernel)) ggX6_count_X6_within
theorem dX6_count_0 : decode cX6_count 0 = .ok (.iload_n 1, 1) := by decide +kernel
theorem dX6_count_1 : decode cX6_count 1 = .ok (.iconst 3, 1) := by decide +kernel
theorem dX6_count_2 : decode cX6_count 2 = .ok (.bipush 6, 2) := by decide +kernel
theorem dX6_count_4 : decode cX6_count 4 = .ok (.invokestatic 54, 3) := by decide +kernel
theorem dX6_count_7 : decode cX6_count 7 = .ok (.ifCond .eq 15, 3) := by decide +kernel
theorem dX6_count_10 : decode cX6_count 10 = .ok (.aload_n 0, 1) := by decide +kernel
theorem dX6_count_11 : decode cX6_count 11 = .ok (.getfield 10, 3) := by decide +kernel
theorem dX6_count_14 : decode cX6_count 14 = .ok (.getfield 58, 3) := by decide +kernel
theorem dX6_count_17 : decode cX6_count 17 = .ok (.iload_n 1, 1) := by decide +kernel
theorem dX6_count_18 : decode cX6_count 18 = .ok (.iconst 3, 1) := by decide +kernel
theorem dX6_count_19 : decode cX6_count 19 = .ok (.isub, 1) := by decide +kernel
theorem dX6_count_20 : decode cX6_count 20 = .ok (.iaload, 1) := by decide +kernel
theorem dX6_count_21 : decode cX6_count 21 = .ok (.ireturn, 1) := by decide +kernel
theorem dX6_count_22 : decode cX6_count 22 = .ok (.iload_n 1, 1) := by decide +kernel
theorem dX6_count_23 : decode cX6_count 23 = .ok (.bipush 10, 2) := by decide +kernel
theorem dX6_count_25 : decode cX6_count 25 = .ok (.bipush 15, 2) := by decide +kernel
theorem dX6_count_27 : decode cX6_count 27 = .ok (.invokestatic 54, 3) := by decide +kernel
theorem dX6_count_30 : decode cX6_count 30 = .ok (.ifCond .eq 16, 3) := by decide +kernel
theorem dX6_count_33 : decode cX6_count 33 = .ok (.aload_n 0, 1) := by decide +kernel
theorem dX6_count_34 : decode cX6_count 34 = .ok (.getfield 10, 3) := by decide +kernel
theorem dX6_count_37 : decode cX6_count 37 = .ok (.getfield 71, 3) := by decide +kernel
theorem dX6_count_40 : decode cX6_count 40 = .ok (.iload_n 1, 1) := by decide +kernel
theorem dX6_count_41 : decode cX6_count 41 = .ok (.bipush 10, 2) := by decide +kernel
theorem dX6_count_43 : decode cX6_count 43 = .ok (.isub, 1) := by decide +kernel
theorem dX6_count_44 : decode cX6_count 44 = .ok (.iaload, 1) := by decide +kernel
theorem dX6_count_45 : decode cX6_count 45 = .ok (.ireturn, 1) := by decide +kernel
theorem dX6_count_46 : decode cX6_count 46 = .ok (.iload_n 1, 1) := by decide +kernel
theorem dX6_count_47 : decode cX6_count 47 = .ok (.bipush 20, 2) := by decide +kernel
theorem dX6_count_49 : decode cX6_count 49 = .ok (.bipush 30, 2) := by decide +kernel
theorem dX6_count_51 : decode cX6_count 51 = .ok (.invokestatic 54, 3) := by decide +kernel
theorem dX6_count_54 : decode cX6_count 54 = .ok (.ifCond .eq 16, 3) := by decide +kernel
theorem dX6_count_57 : decode cX6_count 57 = .ok (.aload_n 0, 1) := by decide +kernel
theorem dX6_count_58 : decode cX6_count 58 = .ok (.getfield 10, 3) := by decide +kernel
theorem dX6_count_61 : decode cX6_count 61 = .ok (.getfield 62, 3) := by decide +kernel
theorem dX6_count_64 : decode cX6_count 64 = .ok (.iload_n 1, 1) := by decide +kernel
theorem dX6_count_65 : decode cX6_count 65 = .ok (.bipush 20, 2) := by decide +kernel
theorem dX6_count_67 : decode cX6_count 67 = .ok (.isub, 1) := by decide +kernel
theorem dX6_count_68 : decode cX6_count 68 = .ok (.iaload, 1) := by decide +kernel
theorem dX6_count_69 : decode cX6_count 69 = .ok (.ireturn, 1) := by decide +kernel
theorem dX6_count_70 : decode cX6_count 70 = .ok (.iload_n 1, 1) := by decide +kernel
theorem dX6_count_71 : decode cX6_count 71 = .ok (.tableswitch 49 0 2 #[25, 33, 44], 25) := by decide +kernel
theorem dX6_count_96 : decode cX6_count 96 = .ok (.aload_n 0, 1) := by decide +kernel
theorem dX6_count_97 : decode cX6_count 97 = .ok (.getfield 10, 3) := by decide +kernel
theorem dX6_count_100 : decode cX6_count 100 = .ok (.getfield 100, 3) := by decide +kernel
theorem dX6_count_103 : decode cX6_count 103 = .ok (.ireturn, 1) := by decide +kernel
theorem dX6_count_104 : decode cX6_count 104 = .ok (.aload_n 0, 1) := by decide +kernel
theorem dX6_count_105 : decode cX6_count 105 = .ok (.getfield 10, 3) := by decide +kernel
theorem dX6_count_108 : decode cX6_count 108 = .ok (.getfield 88, 3) := by decide +kernel
theorem dX6_count_111 : decode cX6_count 111 = .ok (.getfield 109, 3) := by decide +kernel
theorem dX6_count_114 : decode cX6_count 114 = .ok (.ireturn, 1) := by decide +kernel
theorem dX6_count_115 : decode cX6_count 115 = .ok (.aload_n 0, 1) := by decide +kernel
theorem dX6_count_116 : decode cX6_count 116 = .ok (.getfield 22, 3) := by decide +kernel
theorem dX6_count_119 : decode cX6_count 119 = .ok (.ireturn, 1) := by decide +kernel
theorem dX6_count_120 : decode cX6_count 120 = .ok (.bipush (-2), 2) := by decide +kernel
theorem dX6_count_122 : decode cX6_count 122 = .ok (.ireturn, 1) := by decide +kernel
set_option maxRecDepth 20000 in
theorem ggX6_seeNextRun_X4_boil : GoodIn wsX6_seeNextRun wsX4_boil := goodIn_r _ [9, 10, 11, 12, 13, 14, 15, 16, 17, 18, 19, 20, 21, 22, 23, 24, 25, 26, 27, 28, 29, 30, 31, 32, 33, 34, 35, 36, 37, 38, 39, 40, 41, 42, 43, 44, 45, 46, 47, 48, 49, 50, 51, 52, 53, 54, 55, 56, 57, 58, 59, 60, 61, 62, 63, 8, 64, 65, 66, 67, 68, 69, 70, 71, 72, 73, 74, 75, 76, 77, 78, 79, 80, 81, 82, 83, 84, 85, 86, 122, 123, 124, 125, 126, 127, 128, 129, 130, 131, 132, 133, 134, 135, 136, 137, 138, 139, 140, 141, 142, 143, 144, 145, 146, 147] (by decide +kernel) (by decide +kernel)
set_option maxRecDepth 20000 in
theorem gX6_seeNextRun_X4_boil : GoodIn wsX6_seeNextRun (wsV RX6 176 RX4 yX4_boil wsX4_boil) := goodIn_app (goodIn_of _ (by decide +kernel)) ggX6_seeNextRun_X4_boil
set_option maxRecDepth 20000 in
theorem ggX6_seeNextRun_X4_cutAt : GoodIn wsX6_seeNextRun wsX4_cutAt := goodIn_r _ [90, 13, 91, 66, 54, 55, 56, 92, 93, 16, 94, 95, 96, 97, 98, 99, 8, 100, 69, 101, 102, 103, 20, 104, 30, 18, 19, 21, 22, 23, 24, 25, 105, 106, 107, 38, 108, 79, 81, 83, 85, 109, 110, 111, 112, 40, 78, 113, 26, 27, 28, 29, 128, 129, 130, 131, 132, 133, 134, 135, 136, 137, 142, 143, 144, 145, 146, 147, 138, 139, 140, 141] (by decide +kernel) (by decide +kernel)
set_option maxRecDepth 20000 in
theorem gX6_seeNextRun_X4_cutAt : GoodIn wsX6_seeNextRun (wsV RX6 180 RX4 yX4_cutAt wsX4_cutAt) := goodIn_app (goodIn_of _ (by decide +kernel)) ggX6_seeNextRun_X4_cutAt
theorem dX6_seeNextRun_0 : decode cX6_seeNextRun 0 = .ok (.aload_n 0, 1) := by decide +kernel
theorem dX6_seeNextRun_1 : decode cX6_seeNextRun 1 = .ok (.getfield 29, 3) := by decide +kernel
theorem dX6_seeNextRun_4 : decode cX6_seeNextRun 4 = .ok (.aload_n 0, 1) := by decide +kernel
theorem dX6_seeNextRun_5 : decode cX6_seeNextRun 5 = .ok (.getfield 10, 3) := by decide +kernel
theorem dX6_seeNextRun_8 : decode cX6_seeNextRun 8 = .ok (.aload_n 0, 1) := by decide +kernel
theorem dX6_seeNextRun_9 : decode cX6_seeNextRun 9 = .ok (.getfield 10, 3) := by decide +kernel
theorem dX6_seeNextRun_12 : decode cX6_seeNextRun 12 = .ok (.getfield 81, 3) := by decide +kernel
theorem dX6_seeNextRun_15 : decode cX6_seeNextRun 15 = .ok (.invokevirtual 176, 3) := by decide +kernel
theorem dX6_seeNextRun_18 : decode cX6_seeNextRun 18 = .ok (.aload_n 0, 1) := by decide +kernel
theorem dX6_seeNextRun_19 : decode cX6_seeNextRun 19 = .ok (.getfield 29, 3) := by decide +kernel
theorem dX6_seeNextRun_22 : decode cX6_seeNextRun 22 = .ok (.aload_n 0, 1) := by decide +kernel
theorem dX6_seeNextRun_23 : decode cX6_seeNextRun 23 = .ok (.getfield 10, 3) := by decide +kernel
theorem dX6_seeNextRun_26 : decode cX6_seeNextRun 26 = .ok (.getfield 71, 3) := by decide +kernel
theorem dX6_seeNextRun_29 : decode cX6_seeNextRun 29 = .ok (.iconst 0, 1) := by decide +kernel
theorem dX6_seeNextRun_30 : decode cX6_seeNextRun 30 = .ok (.iaload, 1) := by decide +kernel
theorem dX6_seeNextRun_31 : decode cX6_seeNextRun 31 = .ok (.aload_n 0, 1) := by decide +kernel
theorem dX6_seeNextRun_32 : decode cX6_seeNextRun 32 = .ok (.getfield 10, 3) := by decide +kernel
theorem dX6_seeNextRun_35 : decode cX6_seeNextRun 35 = .ok (.getfield 71, 3) := by decide +kernel
theorem dX6_seeNextRun_38 : decode cX6_seeNextRun 38 = .ok (.iconst 1, 1) := by decide +kernel
theorem dX6_seeNextRun_39 : decode cX6_seeNextRun 39 = .ok (.iaload, 1) := by decide +kernel
theorem dX6_seeNextRun_40 : decode cX6_seeNextRun 40 = .ok (.invokevirtual 180, 3) := by decide +kernel
theorem dX6_seeNextRun_43 : decode cX6_seeNextRun 43 = .ok (.return_, 1) := by decide +kernel
theorem dX6_imageAt_0 : decode cX6_imageAt 0 = .ok (.iload_n 1, 1) := by decide +kernel
theorem dX6_imageAt_1 : decode cX6_imageAt 1 = .ok (.ifCond .ne 10, 3) := by decide +kernel
theorem dX6_imageAt_4 : decode cX6_imageAt 4 = .ok (.aload_n 0, 1) := by decide +kernel
theorem dX6_imageAt_5 : decode cX6_imageAt 5 = .ok (.getfield 16, 3) := by decide +kernel
theorem dX6_imageAt_8 : decode cX6_imageAt 8 = .ok (.goto 7, 3) := by decide +kernel
theorem dX6_imageAt_11 : decode cX6_imageAt 11 = .ok (.aload_n 0, 1) := by decide +kernel
theorem dX6_imageAt_12 : decode cX6_imageAt 12 = .ok (.getfield 19, 3) := by decide +kernel
theorem dX6_imageAt_15 : decode cX6_imageAt 15 = .ok (.areturn, 1) := by decide +kernel
theorem dX6_within_0 : decode cX6_within 0 = .ok (.iload_n 0, 1) := by decide +kernel
theorem dX6_within_1 : decode cX6_within 1 = .ok (.iload_n 1, 1) := by decide +kernel
theorem dX6_within_2 : decode cX6_within 2 = .ok (.if_icmp .lt 12, 3) := by decide +kernel
theorem dX6_within_5 : decode cX6_within 5 = .ok (.iload_n 0, 1) := by decide +kernel
theorem dX6_within_6 : decode cX6_within 6 = .ok (.iload_n 2, 1) := by decide +kernel
theorem dX6_within_7 : decode cX6_within 7 = .ok (.if_icmp .gt 7, 3) := by decide +kernel
theorem dX6_within_10 : decode cX6_within 10 = .ok (.iconst 1, 1) := by decide +kernel
theorem dX6_within_11 : decode cX6_within 11 = .ok (.goto 4, 3) := by decide +kernel
theorem dX6_within_14 : decode cX6_within 14 = .ok (.iconst 0, 1) := by decide +kernel
theorem dX6_within_15 : decode cX6_within 15 = .ok (.ireturn, 1) := by decide +kernel
theorem dX6_quotient_0 : decode cX6_quotient 0 = .ok (.iload_n 1, 1) := by decide +kernel
theorem dX6_quotient_1 : decode cX6_quotient 1 = .ok (.ifCond .le 9, 3) := by decide +kernel
theorem dX6_quotient_4 : decode cX6_quotient 4 = .ok (.iload_n 0, 1) := by decide +kernel
theorem dX6_quotient_5 : decode cX6_quotient 5 = .ok (.iload_n 1, 1) := by decide +kernel
theorem dX6_quotient_6 : decode cX6_quotient 6 = .ok (.idiv, 1) := by decide +kernel
theorem dX6_quotient_7 : decode cX6_quotient 7 = .ok (.goto 4, 3) := by decide +kernel
theorem dX6_quotient_10 : decode cX6_quotient 10 = .ok (.iconst 0, 1) := by decide +kernel
theorem dX6_quotient_11 : decode cX6_quotient 11 = .ok (.ireturn, 1) := by decide +kernel
