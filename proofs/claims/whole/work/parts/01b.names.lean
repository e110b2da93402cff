theorem dX0_init_0 : decode cX0_init 0 = .ok (.aload_n 0, 1) := by decide +kernel
theorem dX0_init_1 : decode cX0_init 1 = .ok (.invokespecial 3, 3) := by decide +kernel
theorem dX0_init_4 : decode cX0_init 4 = .ok (.aload_n 0, 1) := by decide +kernel
theorem dX0_init_5 : decode cX0_init 5 = .ok (.iconst 0, 1) := by decide +kernel
theorem dX0_init_6 : decode cX0_init 6 = .ok (.putfield 9, 3) := by decide +kernel
theorem dX0_init_9 : decode cX0_init 9 = .ok (.aload_n 0, 1) := by decide +kernel
theorem dX0_init_10 : decode cX0_init 10 = .ok (.iconst 0, 1) := by decide +kernel
theorem dX0_init_11 : decode cX0_init 11 = .ok (.putfield 15, 3) := by decide +kernel
theorem dX0_init_14 : decode cX0_init 14 = .ok (.aload_n 0, 1) := by decide +kernel
theorem dX0_init_15 : decode cX0_init 15 = .ok (.iconst 0, 1) := by decide +kernel
theorem dX0_init_16 : decode cX0_init 16 = .ok (.putfield 18, 3) := by decide +kernel
theorem dX0_init_19 : decode cX0_init 19 = .ok (.aload_n 0, 1) := by decide +kernel
theorem dX0_init_20 : decode cX0_init 20 = .ok (.iconst 0, 1) := by decide +kernel
theorem dX0_init_21 : decode cX0_init 21 = .ok (.putfield 21, 3) := by decide +kernel
theorem dX0_init_24 : decode cX0_init 24 = .ok (.aload_n 0, 1) := by decide +kernel
theorem dX0_init_25 : decode cX0_init 25 = .ok (.iconst 0, 1) := by decide +kernel
theorem dX0_init_26 : decode cX0_init 26 = .ok (.putfield 24, 3) := by decide +kernel
theorem dX0_init_29 : decode cX0_init 29 = .ok (.return_, 1) := by decide +kernel
set_option maxRecDepth 20000 in
theorem ggX0_seek_X4_boil : GoodIn wsX0_seek wsX4_boil := goodIn_r _ [9, 10, 11, 12, 13, 14, 15, 16, 17, 18, 19, 20, 21, 22, 23, 24, 25, 26, 27, 28, 29, 30, 31, 32, 33, 34, 35, 36, 37, 38, 39, 40, 41, 42, 43, 44, 45, 46, 47, 48, 49, 50, 51, 52, 53, 54, 55, 56, 57, 58, 59, 60, 61, 62, 63, 8, 64, 65, 66, 67, 68, 69, 70, 71, 72, 73, 74, 75, 76, 77, 78, 79, 80, 81, 82, 83, 84, 85, 86, 126, 127, 128, 129, 130, 131, 137, 138, 139, 140, 141, 142, 143, 144, 145, 146, 147, 148, 149, 150, 151, 152, 153, 154, 155, 156] (by decide +kernel) (by decide +kernel)
set_option maxRecDepth 20000 in
theorem gX0_seek_X4_boil : GoodIn wsX0_seek (wsV RX0 33 RX4 yX4_boil wsX4_boil) := goodIn_app (goodIn_of _ (by decide +kernel)) ggX0_seek_X4_boil
set_option maxRecDepth 20000 in
theorem ggX0_seek_X4_cutAt : GoodIn wsX0_seek wsX4_cutAt := goodIn_r _ [90, 13, 91, 66, 54, 55, 56, 92, 93, 16, 94, 95, 96, 97, 98, 99, 8, 100, 69, 101, 102, 103, 20, 104, 30, 18, 19, 21, 22, 23, 24, 25, 105, 106, 107, 38, 108, 79, 81, 83, 85, 109, 110, 111, 112, 40, 78, 113, 26, 27, 28, 29, 137, 138, 139, 140, 141, 142, 143, 144, 145, 146, 151, 152, 153, 154, 155, 156, 147, 148, 149, 150] (by decide +kernel) (by decide +kernel)
set_option maxRecDepth 20000 in
theorem gX0_seek_X4_cutAt : GoodIn wsX0_seek (wsV RX0 46 RX4 yX4_cutAt wsX4_cutAt) := goodIn_app (goodIn_of _ (by decide +kernel)) ggX0_seek_X4_cutAt
set_option maxRecDepth 20000 in
theorem ggX0_seek_X0_weigh : GoodIn wsX0_seek wsX0_weigh := goodIn_r _ [118, 119, 2, 120, 121, 122, 123, 124, 125, 42, 43, 20, 44, 22, 23, 24, 25, 45, 46, 47, 147, 148, 149, 150, 132, 133, 134, 135, 136] (by decide +kernel) (by decide +kernel)
set_option maxRecDepth 20000 in
theorem gX0_seek_X0_weigh : GoodIn wsX0_seek (wsV RX0 53 RX0 yX0_weigh wsX0_weigh) := goodIn_app (goodIn_of _ (by decide +kernel)) ggX0_seek_X0_weigh
theorem dX0_seek_0 : decode cX0_seek 0 = .ok (.aload_n 2, 1) := by decide +kernel
theorem dX0_seek_1 : decode cX0_seek 1 = .ok (.aload_n 1, 1) := by decide +kernel
theorem dX0_seek_2 : decode cX0_seek 2 = .ok (.aload_n 1, 1) := by decide +kernel
theorem dX0_seek_3 : decode cX0_seek 3 = .ok (.getfield 27, 3) := by decide +kernel
theorem dX0_seek_6 : decode cX0_seek 6 = .ok (.invokevirtual 33, 3) := by decide +kernel
theorem dX0_seek_9 : decode cX0_seek 9 = .ok (.aload_n 0, 1) := by decide +kernel
theorem dX0_seek_10 : decode cX0_seek 10 = .ok (.iconst 0, 1) := by decide +kernel
theorem dX0_seek_11 : decode cX0_seek 11 = .ok (.putfield 9, 3) := by decide +kernel
theorem dX0_seek_14 : decode cX0_seek 14 = .ok (.iconst 0, 1) := by decide +kernel
theorem dX0_seek_15 : decode cX0_seek 15 = .ok (.istore_n 3, 1) := by decide +kernel
theorem dX0_seek_16 : decode cX0_seek 16 = .ok (.iload_n 3, 1) := by decide +kernel
theorem dX0_seek_17 : decode cX0_seek 17 = .ok (.getstatic 39, 3) := by decide +kernel
theorem dX0_seek_20 : decode cX0_seek 20 = .ok (.iconst 0, 1) := by decide +kernel
theorem dX0_seek_21 : decode cX0_seek 21 = .ok (.iaload, 1) := by decide +kernel
theorem dX0_seek_22 : decode cX0_seek 22 = .ok (.if_icmp .gt 57, 3) := by decide +kernel
theorem dX0_seek_25 : decode cX0_seek 25 = .ok (.aload_n 1, 1) := by decide +kernel
theorem dX0_seek_26 : decode cX0_seek 26 = .ok (.getfield 43, 3) := by decide +kernel
theorem dX0_seek_29 : decode cX0_seek 29 = .ok (.iconst 2, 1) := by decide +kernel
theorem dX0_seek_30 : decode cX0_seek 30 = .ok (.iaload, 1) := by decide +kernel
theorem dX0_seek_31 : decode cX0_seek 31 = .ok (.istore 4, 2) := by decide +kernel
theorem dX0_seek_33 : decode cX0_seek 33 = .ok (.iload 4, 2) := by decide +kernel
theorem dX0_seek_35 : decode cX0_seek 35 = .ok (.getstatic 39, 3) := by decide +kernel
theorem dX0_seek_38 : decode cX0_seek 38 = .ok (.iconst 1, 1) := by decide +kernel
theorem dX0_seek_39 : decode cX0_seek 39 = .ok (.iaload, 1) := by decide +kernel
theorem dX0_seek_40 : decode cX0_seek 40 = .ok (.if_icmp .gt 33, 3) := by decide +kernel
theorem dX0_seek_43 : decode cX0_seek 43 = .ok (.aload_n 2, 1) := by decide +kernel
theorem dX0_seek_44 : decode cX0_seek 44 = .ok (.iload_n 3, 1) := by decide +kernel
theorem dX0_seek_45 : decode cX0_seek 45 = .ok (.iload 4, 2) := by decide +kernel
theorem dX0_seek_47 : decode cX0_seek 47 = .ok (.invokevirtual 46, 3) := by decide +kernel
theorem dX0_seek_50 : decode cX0_seek 50 = .ok (.aload_n 0, 1) := by decide +kernel
theorem dX0_seek_51 : decode cX0_seek 51 = .ok (.iload_n 3, 1) := by decide +kernel
theorem dX0_seek_52 : decode cX0_seek 52 = .ok (.iload 4, 2) := by decide +kernel
theorem dX0_seek_54 : decode cX0_seek 54 = .ok (.aload_n 2, 1) := by decide +kernel
theorem dX0_seek_55 : decode cX0_seek 55 = .ok (.getfield 50, 3) := by decide +kernel
theorem dX0_seek_58 : decode cX0_seek 58 = .ok (.aload_n 1, 1) := by decide +kernel
theorem dX0_seek_59 : decode cX0_seek 59 = .ok (.getfield 43, 3) := by decide +kernel
theorem dX0_seek_62 : decode cX0_seek 62 = .ok (.iconst 5, 1) := by decide +kernel
theorem dX0_seek_63 : decode cX0_seek 63 = .ok (.iaload, 1) := by decide +kernel
theorem dX0_seek_64 : decode cX0_seek 64 = .ok (.invokevirtual 53, 3) := by decide +kernel
theorem dX0_seek_67 : decode cX0_seek 67 = .ok (.iinc 4 50, 3) := by decide +kernel
theorem dX0_seek_70 : decode cX0_seek 70 = .ok (.goto (-37), 3) := by decide +kernel
theorem dX0_seek_73 : decode cX0_seek 73 = .ok (.iinc 3 1, 3) := by decide +kernel
theorem dX0_seek_76 : decode cX0_seek 76 = .ok (.goto (-60), 3) := by decide +kernel
theorem dX0_seek_79 : decode cX0_seek 79 = .ok (.return_, 1) := by decide +kernel
set_option maxRecDepth 20000 in
theorem ggX0_weigh_X2_tell : GoodIn wsX0_weigh wsX2_tell := goodIn_r _ [12, 13, 14, 15, 16, 17, 18, 19, 20, 21, 22, 23] (by decide +kernel) (by decide +kernel)
set_option maxRecDepth 20000 in
theorem gX0_weigh_X2_tell : GoodIn wsX0_weigh (wsV RX0 62 RX2 yX2_tell wsX2_tell) := goodIn_app (goodIn_of _ (by decide +kernel)) ggX0_weigh_X2_tell
theorem dX0_weigh_0 : decode cX0_weigh 0 = .ok (.aload_n 3, 1) := by decide +kernel
theorem dX0_weigh_1 : decode cX0_weigh 1 = .ok (.getfield 57, 3) := by decide +kernel
theorem dX0_weigh_4 : decode cX0_weigh 4 = .ok (.iconst 1, 1) := by decide +kernel
theorem dX0_weigh_5 : decode cX0_weigh 5 = .ok (.if_icmp .lt 13, 3) := by decide +kernel
theorem dX0_weigh_8 : decode cX0_weigh 8 = .ok (.aload_n 3, 1) := by decide +kernel
theorem dX0_weigh_9 : decode cX0_weigh 9 = .ok (.iconst 5, 1) := by decide +kernel
theorem dX0_weigh_10 : decode cX0_weigh 10 = .ok (.invokevirtual 62, 3) := by decide +kernel
theorem dX0_weigh_13 : decode cX0_weigh 13 = .ok (.iload 4, 2) := by decide +kernel
theorem dX0_weigh_15 : decode cX0_weigh 15 = .ok (.if_icmp .le 4, 3) := by decide +kernel
theorem dX0_weigh_18 : decode cX0_weigh 18 = .ok (.return_, 1) := by decide +kernel
theorem dX0_weigh_19 : decode cX0_weigh 19 = .ok (.aload_n 0, 1) := by decide +kernel
theorem dX0_weigh_20 : decode cX0_weigh 20 = .ok (.dup, 1) := by decide +kernel
theorem dX0_weigh_21 : decode cX0_weigh 21 = .ok (.getfield 9, 3) := by decide +kernel
theorem dX0_weigh_24 : decode cX0_weigh 24 = .ok (.iconst 1, 1) := by decide +kernel
theorem dX0_weigh_25 : decode cX0_weigh 25 = .ok (.iadd, 1) := by decide +kernel
theorem dX0_weigh_26 : decode cX0_weigh 26 = .ok (.putfield 9, 3) := by decide +kernel
theorem dX0_weigh_29 : decode cX0_weigh 29 = .ok (.aload_n 0, 1) := by decide +kernel
theorem dX0_weigh_30 : decode cX0_weigh 30 = .ok (.getfield 9, 3) := by decide +kernel
theorem dX0_weigh_33 : decode cX0_weigh 33 = .ok (.iconst 1, 1) := by decide +kernel
theorem dX0_weigh_34 : decode cX0_weigh 34 = .ok (.if_icmp .eq 14, 3) := by decide +kernel
theorem dX0_weigh_37 : decode cX0_weigh 37 = .ok (.aload_n 3, 1) := by decide +kernel
theorem dX0_weigh_38 : decode cX0_weigh 38 = .ok (.getfield 66, 3) := by decide +kernel
theorem dX0_weigh_41 : decode cX0_weigh 41 = .ok (.aload_n 0, 1) := by decide +kernel
theorem dX0_weigh_42 : decode cX0_weigh 42 = .ok (.getfield 21, 3) := by decide +kernel
theorem dX0_weigh_45 : decode cX0_weigh 45 = .ok (.if_icmp .le 30, 3) := by decide +kernel
theorem dX0_weigh_48 : decode cX0_weigh 48 = .ok (.aload_n 0, 1) := by decide +kernel
theorem dX0_weigh_49 : decode cX0_weigh 49 = .ok (.iload_n 1, 1) := by decide +kernel
theorem dX0_weigh_50 : decode cX0_weigh 50 = .ok (.putfield 15, 3) := by decide +kernel
theorem dX0_weigh_53 : decode cX0_weigh 53 = .ok (.aload_n 0, 1) := by decide +kernel
theorem dX0_weigh_54 : decode cX0_weigh 54 = .ok (.iload_n 2, 1) := by decide +kernel
theorem dX0_weigh_55 : decode cX0_weigh 55 = .ok (.putfield 18, 3) := by decide +kernel
theorem dX0_weigh_58 : decode cX0_weigh 58 = .ok (.aload_n 0, 1) := by decide +kernel
theorem dX0_weigh_59 : decode cX0_weigh 59 = .ok (.aload_n 3, 1) := by decide +kernel
theorem dX0_weigh_60 : decode cX0_weigh 60 = .ok (.getfield 66, 3) := by decide +kernel
theorem dX0_weigh_63 : decode cX0_weigh 63 = .ok (.putfield 21, 3) := by decide +kernel
theorem dX0_weigh_66 : decode cX0_weigh 66 = .ok (.aload_n 0, 1) := by decide +kernel
theorem dX0_weigh_67 : decode cX0_weigh 67 = .ok (.aload_n 3, 1) := by decide +kernel
theorem dX0_weigh_68 : decode cX0_weigh 68 = .ok (.iconst 5, 1) := by decide +kernel
theorem dX0_weigh_69 : decode cX0_weigh 69 = .ok (.invokevirtual 62, 3) := by decide +kernel
theorem dX0_weigh_72 : decode cX0_weigh 72 = .ok (.putfield 24, 3) := by decide +kernel
theorem dX0_weigh_75 : decode cX0_weigh 75 = .ok (.return_, 1) := by decide +kernel
theorem dX0_tell_0 : decode cX0_tell 0 = .ok (.iload_n 1, 1) := by decide +kernel
theorem dX0_tell_1 : decode cX0_tell 1 = .ok (.tableswitch 42 0 2 #[27, 32, 37], 27) := by decide +kernel
theorem dX0_tell_28 : decode cX0_tell 28 = .ok (.aload_n 0, 1) := by decide +kernel
theorem dX0_tell_29 : decode cX0_tell 29 = .ok (.getfield 15, 3) := by decide +kernel
theorem dX0_tell_32 : decode cX0_tell 32 = .ok (.ireturn, 1) := by decide +kernel
theorem dX0_tell_33 : decode cX0_tell 33 = .ok (.aload_n 0, 1) := by decide +kernel
theorem dX0_tell_34 : decode cX0_tell 34 = .ok (.getfield 18, 3) := by decide +kernel
theorem dX0_tell_37 : decode cX0_tell 37 = .ok (.ireturn, 1) := by decide +kernel
theorem dX0_tell_38 : decode cX0_tell 38 = .ok (.aload_n 0, 1) := by decide +kernel
theorem dX0_tell_39 : decode cX0_tell 39 = .ok (.getfield 21, 3) := by decide +kernel
theorem dX0_tell_42 : decode cX0_tell 42 = .ok (.ireturn, 1) := by decide +kernel
theorem dX0_tell_43 : decode cX0_tell 43 = .ok (.aload_n 0, 1) := by decide +kernel
theorem dX0_tell_44 : decode cX0_tell 44 = .ok (.getfield 24, 3) := by decide +kernel
theorem dX0_tell_47 : decode cX0_tell 47 = .ok (.ireturn, 1) := by decide +kernel
set_option maxRecDepth 20000 in
theorem ggX1_init_X2_init : GoodIn wsX1_init wsX2_init := goodIn_r _ [18, 19, 2, 3, 20, 21, 22, 23, 39, 40, 41, 42] (by decide +kernel) (by decide +kernel)
set_option maxRecDepth 20000 in
theorem gX1_init_X2_init_n11 : GoodIn wsX1_init (wsX2_init) := ggX1_init_X2_init
set_option maxRecDepth 20000 in
theorem ggX1_init_X3_init : GoodIn wsX1_init wsX3_init := goodIn_r _ [26, 27, 2, 3, 28, 29, 30, 31, 32, 33, 34, 35, 36, 37, 38, 50, 51, 52, 53, 54, 55] (by decide +kernel) (by decide +kernel)
set_option maxRecDepth 20000 in
theorem gX1_init_X3_init : GoodIn wsX1_init (wsX3_init) := ggX1_init_X3_init
theorem dX1_init_0 : decode cX1_init 0 = .ok (.aload_n 0, 1) := by decide +kernel
theorem dX1_init_1 : decode cX1_init 1 = .ok (.invokespecial 3, 3) := by decide +kernel
theorem dX1_init_4 : decode cX1_init 4 = .ok (.aload_n 0, 1) := by decide +kernel
theorem dX1_init_5 : decode cX1_init 5 = .ok (.new 9, 3) := by decide +kernel
theorem dX1_init_8 : decode cX1_init 8 = .ok (.dup, 1) := by decide +kernel
theorem dX1_init_9 : decode cX1_init 9 = .ok (.invokespecial 11, 3) := by decide +kernel
theorem dX1_init_12 : decode cX1_init 12 = .ok (.putfield 12, 3) := by decide +kernel
theorem dX1_init_15 : decode cX1_init 15 = .ok (.aload_n 0, 1) := by decide +kernel
theorem dX1_init_16 : decode cX1_init 16 = .ok (.new 9, 3) := by decide +kernel
theorem dX1_init_19 : decode cX1_init 19 = .ok (.dup, 1) := by decide +kernel
theorem dX1_init_20 : decode cX1_init 20 = .ok (.invokespecial 11, 3) := by decide +kernel
theorem dX1_init_23 : decode cX1_init 23 = .ok (.putfield 18, 3) := by decide +kernel
theorem dX1_init_26 : decode cX1_init 26 = .ok (.aload_n 0, 1) := by decide +kernel
theorem dX1_init_27 : decode cX1_init 27 = .ok (.new 9, 3) := by decide +kernel
theorem dX1_init_30 : decode cX1_init 30 = .ok (.dup, 1) := by decide +kernel
theorem dX1_init_31 : decode cX1_init 31 = .ok (.invokespecial 11, 3) := by decide +kernel
theorem dX1_init_34 : decode cX1_init 34 = .ok (.putfield 21, 3) := by decide +kernel
theorem dX1_init_37 : decode cX1_init 37 = .ok (.aload_n 0, 1) := by decide +kernel
theorem dX1_init_38 : decode cX1_init 38 = .ok (.new 24, 3) := by decide +kernel
theorem dX1_init_41 : decode cX1_init 41 = .ok (.dup, 1) := by decide +kernel
theorem dX1_init_42 : decode cX1_init 42 = .ok (.sipush 300, 3) := by decide +kernel
theorem dX1_init_45 : decode cX1_init 45 = .ok (.invokespecial 26, 3) := by decide +kernel
theorem dX1_init_48 : decode cX1_init 48 = .ok (.putfield 29, 3) := by decide +kernel
theorem dX1_init_51 : decode cX1_init 51 = .ok (.aload_n 0, 1) := by decide +kernel
theorem dX1_init_52 : decode cX1_init 52 = .ok (.new 24, 3) := by decide +kernel
theorem dX1_init_55 : decode cX1_init 55 = .ok (.dup, 1) := by decide +kernel
theorem dX1_init_56 : decode cX1_init 56 = .ok (.sipush 300, 3) := by decide +kernel
theorem dX1_init_59 : decode cX1_init 59 = .ok (.invokespecial 26, 3) := by decide +kernel
theorem dX1_init_62 : decode cX1_init 62 = .ok (.putfield 33, 3) := by decide +kernel
theorem dX1_init_65 : decode cX1_init 65 = .ok (.aload_n 0, 1) := by decide +kernel
theorem dX1_init_66 : decode cX1_init 66 = .ok (.iconst 0, 1) := by decide +kernel
theorem dX1_init_67 : decode cX1_init 67 = .ok (.putfield 36, 3) := by decide +kernel
theorem dX1_init_70 : decode cX1_init 70 = .ok (.aload_n 0, 1) := by decide +kernel
theorem dX1_init_71 : decode cX1_init 71 = .ok (.iconst 0, 1) := by decide +kernel
theorem dX1_init_72 : decode cX1_init 72 = .ok (.putfield 40, 3) := by decide +kernel
theorem dX1_init_75 : decode cX1_init 75 = .ok (.return_, 1) := by decide +kernel
set_option maxRecDepth 20000 in
theorem ggX1_begin_X2_become : GoodIn wsX1_begin wsX2_become := goodIn_r _ [10, 11, 12, 13, 14, 15, 16, 17, 9, 18, 42, 43, 44, 45] (by decide +kernel) (by decide +kernel)
set_option maxRecDepth 20000 in
theorem gX1_begin_X2_become : GoodIn wsX1_begin (wsV RX1 46 RX2 yX2_become wsX2_become) := goodIn_app (goodIn_of _ (by decide +kernel)) ggX1_begin_X2_become
set_option maxRecDepth 20000 in
theorem ggX1_begin_X2_clear : GoodIn wsX1_begin wsX2_clear := goodIn_r _ [22, 15, 16, 17, 9, 18, 11, 12, 13, 14, 42, 43, 44, 45] (by decide +kernel) (by decide +kernel)
set_option maxRecDepth 20000 in
theorem gX1_begin_X2_clear : GoodIn wsX1_begin (wsV RX1 50 RX2 yX2_clear wsX2_clear) := goodIn_app (goodIn_of _ (by decide +kernel)) ggX1_begin_X2_clear
set_option maxRecDepth 20000 in
theorem ggX1_begin_X3_clear : GoodIn wsX1_begin wsX3_clear := goodIn_r _ [27, 28, 46, 47, 48, 49, 50, 51] (by decide +kernel) (by decide +kernel)
set_option maxRecDepth 20000 in
theorem gX1_begin_X3_clear : GoodIn wsX1_begin (wsV RX1 53 RX3 yX3_clear wsX3_clear) := goodIn_app (goodIn_of _ (by decide +kernel)) ggX1_begin_X3_clear
theorem dX1_begin_0 : decode cX1_begin 0 = .ok (.aload_n 0, 1) := by decide +kernel
theorem dX1_begin_1 : decode cX1_begin 1 = .ok (.getfield 12, 3) := by decide +kernel
theorem dX1_begin_4 : decode cX1_begin 4 = .ok (.aload_n 1, 1) := by decide +kernel
theorem dX1_begin_5 : decode cX1_begin 5 = .ok (.getfield 43, 3) := by decide +kernel
theorem dX1_begin_8 : decode cX1_begin 8 = .ok (.invokevirtual 46, 3) := by decide +kernel
theorem dX1_begin_11 : decode cX1_begin 11 = .ok (.aload_n 0, 1) := by decide +kernel
theorem dX1_begin_12 : decode cX1_begin 12 = .ok (.getfield 18, 3) := by decide +kernel
theorem dX1_begin_15 : decode cX1_begin 15 = .ok (.invokevirtual 50, 3) := by decide +kernel
theorem dX1_begin_18 : decode cX1_begin 18 = .ok (.aload_n 0, 1) := by decide +kernel
theorem dX1_begin_19 : decode cX1_begin 19 = .ok (.getfield 29, 3) := by decide +kernel
theorem dX1_begin_22 : decode cX1_begin 22 = .ok (.invokevirtual 53, 3) := by decide +kernel
theorem dX1_begin_25 : decode cX1_begin 25 = .ok (.aload_n 0, 1) := by decide +kernel
theorem dX1_begin_26 : decode cX1_begin 26 = .ok (.getfield 33, 3) := by decide +kernel
theorem dX1_begin_29 : decode cX1_begin 29 = .ok (.invokevirtual 53, 3) := by decide +kernel
theorem dX1_begin_32 : decode cX1_begin 32 = .ok (.return_, 1) := by decide +kernel
set_option maxRecDepth 20000 in
theorem ggX1_goOn_X3_append : GoodIn wsX1_goOn wsX3_append := goodIn_r _ [11, 12, 13, 14, 15, 16, 17, 18, 19, 20, 21, 145, 146, 147, 148, 149, 150, 151, 152, 153, 154] (by decide +kernel) (by decide +kernel)
set_option maxRecDepth 20000 in
theorem gX1_goOn_X3_append : GoodIn wsX1_goOn (wsV RX1 54 RX3 yX3_append wsX3_append) := goodIn_app (goodIn_of _ (by decide +kernel)) ggX1_goOn_X3_append
set_option maxRecDepth 20000 in
theorem ggX1_goOn_X4_boil : GoodIn wsX1_goOn wsX4_boil := goodIn_r _ [26, 27, 28, 29, 30, 31, 32, 33, 34, 35, 36, 37, 38, 39, 40, 41, 42, 43, 44, 45, 46, 47, 48, 49, 50, 51, 52, 53, 54, 10, 55, 12, 56, 57, 58, 59, 60, 61, 62, 63, 64, 65, 66, 67, 68, 69, 70, 71, 72, 73, 74, 75, 76, 77, 78, 25, 79, 80, 81, 82, 83, 84, 85, 86, 87, 88, 89, 8, 9, 11, 13, 14, 15, 16, 17, 18, 19, 20, 21, 129, 130, 131, 132, 133, 134, 135, 136, 137, 138, 139, 140, 141, 142, 143, 144, 151, 152, 153, 154, 145, 146, 147, 148, 149, 150] (by decide +kernel) (by decide +kernel)
set_option maxRecDepth 20000 in
theorem gX1_goOn_X4_boil : GoodIn wsX1_goOn (wsV RX1 57 RX4 yX4_boil wsX4_boil) := goodIn_app (goodIn_of _ (by decide +kernel)) ggX1_goOn_X4_boil
set_option maxRecDepth 20000 in
theorem ggX1_goOn_X4_cutAt : GoodIn wsX1_goOn wsX4_cutAt := goodIn_r _ [93, 30, 94, 81, 69, 70, 71, 95, 96, 33, 97, 98, 99, 100, 101, 102, 25, 103, 84, 104, 105, 106, 37, 107, 47, 35, 36, 38, 39, 40, 41, 42, 108, 109, 110, 10, 111, 14, 16, 18, 20, 112, 113, 114, 115, 12, 13, 116, 43, 44, 45, 46, 135, 136, 137, 138, 139, 140, 141, 142, 143, 144, 145, 146, 147, 148, 149, 150, 151, 152, 153, 154] (by decide +kernel) (by decide +kernel)
set_option maxRecDepth 20000 in
theorem gX1_goOn_X4_cutAt : GoodIn wsX1_goOn (wsV RX1 67 RX4 yX4_cutAt wsX4_cutAt) := goodIn_app (goodIn_of _ (by decide +kernel)) ggX1_goOn_X4_cutAt
set_option maxRecDepth 20000 in
theorem ggX1_goOn_X4_keepInto : GoodIn wsX1_goOn wsX4_keepInto := goodIn_r _ [120, 97, 99, 48, 49, 50, 37, 51, 39, 40, 41, 42, 47, 35, 36, 38, 43, 44, 45, 46, 135, 136, 137, 138, 139, 140, 141, 142, 143, 144, 151, 152, 153, 154] (by decide +kernel) (by decide +kernel)
set_option maxRecDepth 20000 in
theorem gX1_goOn_X4_keepInto : GoodIn wsX1_goOn (wsV RX1 71 RX4 yX4_keepInto wsX4_keepInto) := goodIn_app (goodIn_of _ (by decide +kernel)) ggX1_goOn_X4_keepInto
set_option maxRecDepth 20000 in
theorem ggX1_goOn_X2_add : GoodIn wsX1_goOn wsX2_add := goodIn_r _ [46, 39, 40, 41, 42, 47, 35, 36, 37, 38, 151, 152, 153, 154] (by decide +kernel) (by decide +kernel)
set_option maxRecDepth 20000 in
theorem gX1_goOn_X2_add : GoodIn wsX1_goOn (wsV RX1 77 RX2 yX2_add wsX2_add) := goodIn_app (goodIn_of _ (by decide +kernel)) ggX1_goOn_X2_add
theorem dX1_goOn_0 : decode cX1_goOn 0 = .ok (.aload_n 0, 1) := by decide +kernel
theorem dX1_goOn_1 : decode cX1_goOn 1 = .ok (.getfield 29, 3) := by decide +kernel
theorem dX1_goOn_4 : decode cX1_goOn 4 = .ok (.aload_n 0, 1) := by decide +kernel
theorem dX1_goOn_5 : decode cX1_goOn 5 = .ok (.getfield 12, 3) := by decide +kernel
theorem dX1_goOn_8 : decode cX1_goOn 8 = .ok (.invokevirtual 54, 3) := by decide +kernel
theorem dX1_goOn_11 : decode cX1_goOn 11 = .ok (.aload_n 0, 1) := by decide +kernel
theorem dX1_goOn_12 : decode cX1_goOn 12 = .ok (.getfield 33, 3) := by decide +kernel
theorem dX1_goOn_15 : decode cX1_goOn 15 = .ok (.aload_n 0, 1) := by decide +kernel
theorem dX1_goOn_16 : decode cX1_goOn 16 = .ok (.getfield 18, 3) := by decide +kernel
theorem dX1_goOn_19 : decode cX1_goOn 19 = .ok (.invokevirtual 54, 3) := by decide +kernel
theorem dX1_goOn_22 : decode cX1_goOn 22 = .ok (.aload_n 2, 1) := by decide +kernel
theorem dX1_goOn_23 : decode cX1_goOn 23 = .ok (.aload_n 1, 1) := by decide +kernel
theorem dX1_goOn_24 : decode cX1_goOn 24 = .ok (.aload_n 0, 1) := by decide +kernel
theorem dX1_goOn_25 : decode cX1_goOn 25 = .ok (.getfield 12, 3) := by decide +kernel
theorem dX1_goOn_28 : decode cX1_goOn 28 = .ok (.invokevirtual 57, 3) := by decide +kernel
theorem dX1_goOn_31 : decode cX1_goOn 31 = .ok (.aload_n 2, 1) := by decide +kernel
theorem dX1_goOn_32 : decode cX1_goOn 32 = .ok (.aload_n 1, 1) := by decide +kernel
theorem dX1_goOn_33 : decode cX1_goOn 33 = .ok (.getfield 63, 3) := by decide +kernel
theorem dX1_goOn_36 : decode cX1_goOn 36 = .ok (.iconst 0, 1) := by decide +kernel
theorem dX1_goOn_37 : decode cX1_goOn 37 = .ok (.iaload, 1) := by decide +kernel
theorem dX1_goOn_38 : decode cX1_goOn 38 = .ok (.aload_n 1, 1) := by decide +kernel
theorem dX1_goOn_39 : decode cX1_goOn 39 = .ok (.getfield 63, 3) := by decide +kernel
theorem dX1_goOn_42 : decode cX1_goOn 42 = .ok (.iconst 1, 1) := by decide +kernel
theorem dX1_goOn_43 : decode cX1_goOn 43 = .ok (.iaload, 1) := by decide +kernel
theorem dX1_goOn_44 : decode cX1_goOn 44 = .ok (.invokevirtual 67, 3) := by decide +kernel
theorem dX1_goOn_47 : decode cX1_goOn 47 = .ok (.aload_n 2, 1) := by decide +kernel
theorem dX1_goOn_48 : decode cX1_goOn 48 = .ok (.aload_n 0, 1) := by decide +kernel
theorem dX1_goOn_49 : decode cX1_goOn 49 = .ok (.getfield 12, 3) := by decide +kernel
theorem dX1_goOn_52 : decode cX1_goOn 52 = .ok (.invokevirtual 71, 3) := by decide +kernel
theorem dX1_goOn_55 : decode cX1_goOn 55 = .ok (.aload_n 0, 1) := by decide +kernel
theorem dX1_goOn_56 : decode cX1_goOn 56 = .ok (.getfield 18, 3) := by decide +kernel
theorem dX1_goOn_59 : decode cX1_goOn 59 = .ok (.aload_n 2, 1) := by decide +kernel
theorem dX1_goOn_60 : decode cX1_goOn 60 = .ok (.getfield 74, 3) := by decide +kernel
theorem dX1_goOn_63 : decode cX1_goOn 63 = .ok (.invokevirtual 77, 3) := by decide +kernel
theorem dX1_goOn_66 : decode cX1_goOn 66 = .ok (.return_, 1) := by decide +kernel
set_option maxRecDepth 20000 in
theorem ggX1_settle_X1_begin : GoodIn wsX1_settle wsX1_begin := goodIn_r _ [12, 2, 13, 7, 1, 5, 14, 15, 16, 17, 18, 19, 20, 21, 22, 23, 24, 25, 26, 27, 28, 29, 30, 31, 32, 33, 34, 35, 36, 144, 145, 146, 147, 148, 149, 150, 151, 152, 153, 154, 155, 156, 157, 158, 159, 160, 161, 162, 163, 164, 165, 166] (by decide +kernel) (by decide +kernel)
set_option maxRecDepth 20000 in
theorem gX1_settle_X1_begin : GoodIn wsX1_settle (wsV RX1 80 RX1 yX1_begin wsX1_begin) := goodIn_app (goodIn_of _ (by decide +kernel)) ggX1_settle_X1_begin
set_option maxRecDepth 20000 in
theorem ggX1_settle_X1_goOn : GoodIn wsX1_settle wsX1_goOn := goodIn_r _ [40, 1, 2, 5, 7, 41, 42, 43, 44, 45, 34, 46, 36, 47, 48, 49, 50, 51, 52, 53, 54, 55, 56, 57, 58, 59, 60, 61, 62, 63, 64, 65, 66, 67, 68, 24, 25, 17, 26, 19, 20, 21, 22, 69, 70, 71, 72, 23, 73, 15, 16, 18, 74, 32, 33, 35, 75, 76, 77, 78, 79, 80, 81, 82, 83, 84, 85, 86, 87, 88, 89, 90, 91, 92, 93, 94, 95, 96, 97, 98, 99, 100, 101, 102, 103, 104, 105, 106, 107, 108, 109, 110, 111, 112, 113, 114, 115, 116, 117, 118, 119, 120, 121, 122, 123, 28, 29, 30, 124, 125, 126, 127, 128, 129, 130, 131, 132, 133, 134, 135, 136, 137, 144, 145, 146, 147, 148, 149, 150, 151, 152, 153, 154, 155, 156, 167, 168, 169, 170, 171, 172, 173, 174, 175, 176, 161, 162, 163, 164, 165, 166, 157, 158, 159, 160] (by decide +kernel) (by decide +kernel)
set_option maxRecDepth 20000 in
theorem gX1_settle_X1_goOn : GoodIn wsX1_settle (wsV RX1 84 RX1 yX1_goOn wsX1_goOn) := goodIn_app (goodIn_of _ (by decide +kernel)) ggX1_settle_X1_goOn
set_option maxRecDepth 20000 in
theorem ggX1_settle_X3_find : GoodIn wsX1_settle wsX3_find := goodIn_r _ [141, 36, 47, 50, 51, 54, 55, 52, 53, 48, 49, 161, 162, 163, 164, 165, 166, 157, 158, 159, 160] (by decide +kernel) (by decide +kernel)
set_option maxRecDepth 20000 in
theorem gX1_settle_X3_find : GoodIn wsX1_settle (wsV RX1 88 RX3 yX3_find wsX3_find) := goodIn_app (goodIn_of _ (by decide +kernel)) ggX1_settle_X3_find
set_option maxRecDepth 20000 in
theorem ggX1_settle_X3_load : GoodIn wsX1_settle wsX3_load := goodIn_r _ [127, 48, 50, 52, 54, 128, 129, 130, 34, 131, 36, 47, 132, 24, 25, 17, 26, 19, 20, 21, 22, 161, 162, 163, 164, 165, 166, 157, 158, 159, 160] (by decide +kernel) (by decide +kernel)
set_option maxRecDepth 20000 in
theorem gX1_settle_X3_load : GoodIn wsX1_settle (wsV RX1 92 RX3 yX3_load wsX3_load) := goodIn_app (goodIn_of _ (by decide +kernel)) ggX1_settle_X3_load
set_option maxRecDepth 20000 in
theorem ggX1_settle_X2_lose : GoodIn wsX1_settle wsX2_lose := goodIn_r _ [107, 19, 20, 21, 22, 23, 24, 25, 17, 26, 157, 158, 159, 160] (by decide +kernel) (by decide +kernel)
set_option maxRecDepth 20000 in
theorem gX1_settle_X2_lose : GoodIn wsX1_settle (wsV RX1 96 RX2 yX2_lose wsX2_lose) := goodIn_app (goodIn_of _ (by decide +kernel)) ggX1_settle_X2_lose
theorem dX1_settle_0 : decode cX1_settle 0 = .ok (.aload_n 0, 1) := by decide +kernel
theorem dX1_settle_1 : decode cX1_settle 1 = .ok (.aload_n 1, 1) := by decide +kernel
theorem dX1_settle_2 : decode cX1_settle 2 = .ok (.invokevirtual 80, 3) := by decide +kernel
theorem dX1_settle_5 : decode cX1_settle 5 = .ok (.iconst 1, 1) := by decide +kernel
theorem dX1_settle_6 : decode cX1_settle 6 = .ok (.istore_n 3, 1) := by decide +kernel
theorem dX1_settle_7 : decode cX1_settle 7 = .ok (.iload_n 3, 1) := by decide +kernel
theorem dX1_settle_8 : decode cX1_settle 8 = .ok (.sipush 300, 3) := by decide +kernel
theorem dX1_settle_11 : decode cX1_settle 11 = .ok (.if_icmp .gt 73, 3) := by decide +kernel
theorem dX1_settle_14 : decode cX1_settle 14 = .ok (.aload_n 0, 1) := by decide +kernel
theorem dX1_settle_15 : decode cX1_settle 15 = .ok (.aload_n 1, 1) := by decide +kernel
theorem dX1_settle_16 : decode cX1_settle 16 = .ok (.aload_n 2, 1) := by decide +kernel
theorem dX1_settle_17 : decode cX1_settle 17 = .ok (.invokevirtual 84, 3) := by decide +kernel
theorem dX1_settle_20 : decode cX1_settle 20 = .ok (.aload_n 0, 1) := by decide +kernel
theorem dX1_settle_21 : decode cX1_settle 21 = .ok (.getfield 29, 3) := by decide +kernel
theorem dX1_settle_24 : decode cX1_settle 24 = .ok (.aload_n 0, 1) := by decide +kernel
theorem dX1_settle_25 : decode cX1_settle 25 = .ok (.getfield 12, 3) := by decide +kernel
theorem dX1_settle_28 : decode cX1_settle 28 = .ok (.invokevirtual 88, 3) := by decide +kernel
theorem dX1_settle_31 : decode cX1_settle 31 = .ok (.istore 4, 2) := by decide +kernel
theorem dX1_settle_33 : decode cX1_settle 33 = .ok (.iload 4, 2) := by decide +kernel
theorem dX1_settle_35 : decode cX1_settle 35 = .ok (.ifCond .lt 43, 3) := by decide +kernel
theorem dX1_settle_38 : decode cX1_settle 38 = .ok (.aload_n 0, 1) := by decide +kernel
theorem dX1_settle_39 : decode cX1_settle 39 = .ok (.iload 4, 2) := by decide +kernel
theorem dX1_settle_41 : decode cX1_settle 41 = .ok (.putfield 36, 3) := by decide +kernel
theorem dX1_settle_44 : decode cX1_settle 44 = .ok (.aload_n 0, 1) := by decide +kernel
theorem dX1_settle_45 : decode cX1_settle 45 = .ok (.iload_n 3, 1) := by decide +kernel
theorem dX1_settle_46 : decode cX1_settle 46 = .ok (.iload 4, 2) := by decide +kernel
theorem dX1_settle_48 : decode cX1_settle 48 = .ok (.isub, 1) := by decide +kernel
theorem dX1_settle_49 : decode cX1_settle 49 = .ok (.putfield 40, 3) := by decide +kernel
theorem dX1_settle_52 : decode cX1_settle 52 = .ok (.aload_n 0, 1) := by decide +kernel
theorem dX1_settle_53 : decode cX1_settle 53 = .ok (.getfield 33, 3) := by decide +kernel
theorem dX1_settle_56 : decode cX1_settle 56 = .ok (.iload 4, 2) := by decide +kernel
theorem dX1_settle_58 : decode cX1_settle 58 = .ok (.aload_n 0, 1) := by decide +kernel
theorem dX1_settle_59 : decode cX1_settle 59 = .ok (.getfield 21, 3) := by decide +kernel
theorem dX1_settle_62 : decode cX1_settle 62 = .ok (.invokevirtual 92, 3) := by decide +kernel
theorem dX1_settle_65 : decode cX1_settle 65 = .ok (.aload_n 0, 1) := by decide +kernel
theorem dX1_settle_66 : decode cX1_settle 66 = .ok (.getfield 18, 3) := by decide +kernel
theorem dX1_settle_69 : decode cX1_settle 69 = .ok (.aload_n 0, 1) := by decide +kernel
theorem dX1_settle_70 : decode cX1_settle 70 = .ok (.getfield 21, 3) := by decide +kernel
theorem dX1_settle_73 : decode cX1_settle 73 = .ok (.invokevirtual 96, 3) := by decide +kernel
theorem dX1_settle_76 : decode cX1_settle 76 = .ok (.iconst 1, 1) := by decide +kernel
theorem dX1_settle_77 : decode cX1_settle 77 = .ok (.ireturn, 1) := by decide +kernel
theorem dX1_settle_78 : decode cX1_settle 78 = .ok (.iinc 3 1, 3) := by decide +kernel
theorem dX1_settle_81 : decode cX1_settle 81 = .ok (.goto (-74), 3) := by decide +kernel
theorem dX1_settle_84 : decode cX1_settle 84 = .ok (.iconst 0, 1) := by decide +kernel
theorem dX1_settle_85 : decode cX1_settle 85 = .ok (.ireturn, 1) := by decide +kernel
set_option maxRecDepth 20000 in
theorem ggX1_runsToFill_X1_begin : GoodIn wsX1_runsToFill wsX1_begin := goodIn_r _ [7, 8, 9, 1, 10, 11, 12, 13, 14, 15, 16, 17, 18, 19, 20, 21, 22, 23, 24, 25, 26, 27, 28, 29, 30, 31, 32, 33, 34, 136, 137, 138, 139, 140, 141, 142, 147, 148, 149, 150, 151, 152, 143, 144, 145, 146, 153, 154, 155, 156, 157, 158] (by decide +kernel) (by decide +kernel)
set_option maxRecDepth 20000 in
theorem gX1_runsToFill_X1_begin : GoodIn wsX1_runsToFill (wsV RX1 80 RX1 yX1_begin wsX1_begin) := goodIn_app (goodIn_of _ (by decide +kernel)) ggX1_runsToFill_X1_begin
set_option maxRecDepth 20000 in
theorem ggX1_runsToFill_X1_goOn : GoodIn wsX1_runsToFill wsX1_goOn := goodIn_r _ [38, 10, 8, 11, 1, 39, 40, 41, 42, 43, 32, 44, 34, 45, 46, 47, 48, 49, 50, 51, 52, 53, 54, 55, 56, 57, 58, 59, 60, 61, 62, 63, 64, 65, 66, 22, 23, 15, 24, 17, 18, 19, 20, 67, 68, 69, 70, 21, 71, 13, 14, 16, 72, 30, 31, 33, 73, 74, 75, 76, 77, 78, 79, 80, 81, 82, 83, 84, 85, 86, 87, 88, 89, 90, 91, 92, 93, 94, 95, 96, 97, 98, 99, 100, 101, 102, 103, 104, 105, 106, 107, 108, 109, 110, 111, 112, 113, 114, 115, 116, 117, 118, 119, 120, 121, 26, 27, 28, 122, 123, 124, 125, 126, 127, 128, 129, 130, 131, 132, 133, 134, 135, 136, 137, 138, 139, 140, 141, 142, 147, 148, 149, 150, 151, 152, 159, 160, 161, 162, 163, 164, 165, 166, 167, 168, 153, 154, 155, 156, 157, 158, 143, 144, 145, 146] (by decide +kernel) (by decide +kernel)
set_option maxRecDepth 20000 in
theorem gX1_runsToFill_X1_goOn : GoodIn wsX1_runsToFill (wsV RX1 84 RX1 yX1_goOn wsX1_goOn) := goodIn_app (goodIn_of _ (by decide +kernel)) ggX1_runsToFill_X1_goOn
theorem dX1_runsToFill_0 : decode cX1_runsToFill 0 = .ok (.aload_n 0, 1) := by decide +kernel
theorem dX1_runsToFill_1 : decode cX1_runsToFill 1 = .ok (.aload_n 2, 1) := by decide +kernel
theorem dX1_runsToFill_2 : decode cX1_runsToFill 2 = .ok (.invokevirtual 80, 3) := by decide +kernel
theorem dX1_runsToFill_5 : decode cX1_runsToFill 5 = .ok (.iconst 1, 1) := by decide +kernel
theorem dX1_runsToFill_6 : decode cX1_runsToFill 6 = .ok (.istore 4, 2) := by decide +kernel
theorem dX1_runsToFill_8 : decode cX1_runsToFill 8 = .ok (.iload 4, 2) := by decide +kernel
theorem dX1_runsToFill_10 : decode cX1_runsToFill 10 = .ok (.sipush 300, 3) := by decide +kernel
theorem dX1_runsToFill_13 : decode cX1_runsToFill 13 = .ok (.if_icmp .gt 29, 3) := by decide +kernel
theorem dX1_runsToFill_16 : decode cX1_runsToFill 16 = .ok (.aload_n 0, 1) := by decide +kernel
theorem dX1_runsToFill_17 : decode cX1_runsToFill 17 = .ok (.aload_n 2, 1) := by decide +kernel
theorem dX1_runsToFill_18 : decode cX1_runsToFill 18 = .ok (.aload_n 3, 1) := by decide +kernel
theorem dX1_runsToFill_19 : decode cX1_runsToFill 19 = .ok (.invokevirtual 84, 3) := by decide +kernel
theorem dX1_runsToFill_22 : decode cX1_runsToFill 22 = .ok (.aload_n 0, 1) := by decide +kernel
theorem dX1_runsToFill_23 : decode cX1_runsToFill 23 = .ok (.getfield 18, 3) := by decide +kernel
theorem dX1_runsToFill_26 : decode cX1_runsToFill 26 = .ok (.getfield 99, 3) := by decide +kernel
theorem dX1_runsToFill_29 : decode cX1_runsToFill 29 = .ok (.iload_n 1, 1) := by decide +kernel
theorem dX1_runsToFill_30 : decode cX1_runsToFill 30 = .ok (.if_icmp .lt 6, 3) := by decide +kernel
theorem dX1_runsToFill_33 : decode cX1_runsToFill 33 = .ok (.iload 4, 2) := by decide +kernel
theorem dX1_runsToFill_35 : decode cX1_runsToFill 35 = .ok (.ireturn, 1) := by decide +kernel
theorem dX1_runsToFill_36 : decode cX1_runsToFill 36 = .ok (.iinc 4 1, 3) := by decide +kernel
theorem dX1_runsToFill_39 : decode cX1_runsToFill 39 = .ok (.goto (-31), 3) := by decide +kernel
theorem dX1_runsToFill_42 : decode cX1_runsToFill 42 = .ok (.iconst 0, 1) := by decide +kernel
theorem dX1_runsToFill_43 : decode cX1_runsToFill 43 = .ok (.ireturn, 1) := by decide +kernel
theorem dX2_init_0 : decode cX2_init 0 = .ok (.aload_n 0, 1) := by decide +kernel
theorem dX2_init_1 : decode cX2_init 1 = .ok (.invokespecial 3, 3) := by decide +kernel
theorem dX2_init_4 : decode cX2_init 4 = .ok (.aload_n 0, 1) := by decide +kernel
theorem dX2_init_5 : decode cX2_init 5 = .ok (.iconst 0, 1) := by decide +kernel
theorem dX2_init_6 : decode cX2_init 6 = .ok (.putfield 9, 3) := by decide +kernel
theorem dX2_init_9 : decode cX2_init 9 = .ok (.aload_n 0, 1) := by decide +kernel
theorem dX2_init_10 : decode cX2_init 10 = .ok (.iconst 0, 1) := by decide +kernel
theorem dX2_init_11 : decode cX2_init 11 = .ok (.putfield 15, 3) := by decide +kernel
theorem dX2_init_14 : decode cX2_init 14 = .ok (.aload_n 0, 1) := by decide +kernel
theorem dX2_init_15 : decode cX2_init 15 = .ok (.iconst 0, 1) := by decide +kernel
theorem dX2_init_16 : decode cX2_init 16 = .ok (.putfield 18, 3) := by decide +kernel
theorem dX2_init_19 : decode cX2_init 19 = .ok (.aload_n 0, 1) := by decide +kernel
theorem dX2_init_20 : decode cX2_init 20 = .ok (.iconst 0, 1) := by decide +kernel
theorem dX2_init_21 : decode cX2_init 21 = .ok (.putfield 21, 3) := by decide +kernel
theorem dX2_init_24 : decode cX2_init 24 = .ok (.return_, 1) := by decide +kernel
theorem dX2_put_0 : decode cX2_put 0 = .ok (.aload_n 0, 1) := by decide +kernel
theorem dX2_put_1 : decode cX2_put 1 = .ok (.iload_n 1, 1) := by decide +kernel
theorem dX2_put_2 : decode cX2_put 2 = .ok (.putfield 9, 3) := by decide +kernel
theorem dX2_put_5 : decode cX2_put 5 = .ok (.aload_n 0, 1) := by decide +kernel
theorem dX2_put_6 : decode cX2_put 6 = .ok (.iload_n 2, 1) := by decide +kernel
theorem dX2_put_7 : decode cX2_put 7 = .ok (.putfield 15, 3) := by decide +kernel
theorem dX2_put_10 : decode cX2_put 10 = .ok (.aload_n 0, 1) := by decide +kernel
theorem dX2_put_11 : decode cX2_put 11 = .ok (.iload_n 3, 1) := by decide +kernel
theorem dX2_put_12 : decode cX2_put 12 = .ok (.putfield 18, 3) := by decide +kernel
theorem dX2_put_15 : decode cX2_put 15 = .ok (.aload_n 0, 1) := by decide +kernel
theorem dX2_put_16 : decode cX2_put 16 = .ok (.iload 4, 2) := by decide +kernel
theorem dX2_put_18 : decode cX2_put 18 = .ok (.putfield 21, 3) := by decide +kernel
theorem dX2_put_21 : decode cX2_put 21 = .ok (.return_, 1) := by decide +kernel
set_option maxRecDepth 20000 in
theorem ggX2_clear_X2_put : GoodIn wsX2_clear wsX2_put := goodIn_r _ [5, 6, 7, 8, 9, 10, 11, 12, 13] (by decide +kernel) (by decide +kernel)
set_option maxRecDepth 20000 in
theorem gX2_clear_X2_put : GoodIn wsX2_clear (wsV RX2 24 RX2 yX2_put wsX2_put) := goodIn_app (goodIn_of _ (by decide +kernel)) ggX2_clear_X2_put
theorem dX2_clear_0 : decode cX2_clear 0 = .ok (.aload_n 0, 1) := by decide +kernel
theorem dX2_clear_1 : decode cX2_clear 1 = .ok (.iconst 0, 1) := by decide +kernel
theorem dX2_clear_2 : decode cX2_clear 2 = .ok (.iconst 0, 1) := by decide +kernel
theorem dX2_clear_3 : decode cX2_clear 3 = .ok (.iconst 0, 1) := by decide +kernel
theorem dX2_clear_4 : decode cX2_clear 4 = .ok (.iconst 0, 1) := by decide +kernel
theorem dX2_clear_5 : decode cX2_clear 5 = .ok (.invokevirtual 24, 3) := by decide +kernel
theorem dX2_clear_8 : decode cX2_clear 8 = .ok (.return_, 1) := by decide +kernel
set_option maxRecDepth 20000 in
theorem ggX2_become_X2_put : GoodIn wsX2_become wsX2_put := goodIn_r _ [9, 1, 2, 3, 4, 10, 11, 12, 13] (by decide +kernel) (by decide +kernel)
set_option maxRecDepth 20000 in
theorem gX2_become_X2_put : GoodIn wsX2_become (wsV RX2 24 RX2 yX2_put wsX2_put) := goodIn_app (goodIn_of _ (by decide +kernel)) ggX2_become_X2_put
theorem dX2_become_0 : decode cX2_become 0 = .ok (.aload_n 0, 1) := by decide +kernel
theorem dX2_become_1 : decode cX2_become 1 = .ok (.aload_n 1, 1) := by decide +kernel
theorem dX2_become_2 : decode cX2_become 2 = .ok (.getfield 9, 3) := by decide +kernel
theorem dX2_become_5 : decode cX2_become 5 = .ok (.aload_n 1, 1) := by decide +kernel
theorem dX2_become_6 : decode cX2_become 6 = .ok (.getfield 15, 3) := by decide +kernel
theorem dX2_become_9 : decode cX2_become 9 = .ok (.aload_n 1, 1) := by decide +kernel
theorem dX2_become_10 : decode cX2_become 10 = .ok (.getfield 18, 3) := by decide +kernel
theorem dX2_become_13 : decode cX2_become 13 = .ok (.aload_n 1, 1) := by decide +kernel
theorem dX2_become_14 : decode cX2_become 14 = .ok (.getfield 21, 3) := by decide +kernel
theorem dX2_become_17 : decode cX2_become 17 = .ok (.invokevirtual 24, 3) := by decide +kernel
theorem dX2_become_20 : decode cX2_become 20 = .ok (.return_, 1) := by decide +kernel
set_option maxRecDepth 20000 in
theorem ggX2_add_X2_put : GoodIn wsX2_add wsX2_put := goodIn_r _ [9, 1, 2, 3, 4, 10, 11, 12, 13] (by decide +kernel) (by decide +kernel)
set_option maxRecDepth 20000 in
theorem gX2_add_X2_put : GoodIn wsX2_add (wsV RX2 24 RX2 yX2_put wsX2_put) := goodIn_app (goodIn_of _ (by decide +kernel)) ggX2_add_X2_put
theorem dX2_add_0 : decode cX2_add 0 = .ok (.aload_n 0, 1) := by decide +kernel
theorem dX2_add_1 : decode cX2_add 1 = .ok (.aload_n 0, 1) := by decide +kernel
theorem dX2_add_2 : decode cX2_add 2 = .ok (.getfield 9, 3) := by decide +kernel
theorem dX2_add_5 : decode cX2_add 5 = .ok (.aload_n 1, 1) := by decide +kernel
theorem dX2_add_6 : decode cX2_add 6 = .ok (.getfield 9, 3) := by decide +kernel
theorem dX2_add_9 : decode cX2_add 9 = .ok (.iadd, 1) := by decide +kernel
theorem dX2_add_10 : decode cX2_add 10 = .ok (.aload_n 0, 1) := by decide +kernel
theorem dX2_add_11 : decode cX2_add 11 = .ok (.getfield 15, 3) := by decide +kernel
theorem dX2_add_14 : decode cX2_add 14 = .ok (.aload_n 1, 1) := by decide +kernel
theorem dX2_add_15 : decode cX2_add 15 = .ok (.getfield 15, 3) := by decide +kernel
theorem dX2_add_18 : decode cX2_add 18 = .ok (.iadd, 1) := by decide +kernel
theorem dX2_add_19 : decode cX2_add 19 = .ok (.aload_n 0, 1) := by decide +kernel
theorem dX2_add_20 : decode cX2_add 20 = .ok (.getfield 18, 3) := by decide +kernel
theorem dX2_add_23 : decode cX2_add 23 = .ok (.aload_n 1, 1) := by decide +kernel
theorem dX2_add_24 : decode cX2_add 24 = .ok (.getfield 18, 3) := by decide +kernel
theorem dX2_add_27 : decode cX2_add 27 = .ok (.iadd, 1) := by decide +kernel
theorem dX2_add_28 : decode cX2_add 28 = .ok (.aload_n 0, 1) := by decide +kernel
theorem dX2_add_29 : decode cX2_add 29 = .ok (.getfield 21, 3) := by decide +kernel
theorem dX2_add_32 : decode cX2_add 32 = .ok (.aload_n 1, 1) := by decide +kernel
theorem dX2_add_33 : decode cX2_add 33 = .ok (.getfield 21, 3) := by decide +kernel
theorem dX2_add_36 : decode cX2_add 36 = .ok (.iadd, 1) := by decide +kernel
theorem dX2_add_37 : decode cX2_add 37 = .ok (.invokevirtual 24, 3) := by decide +kernel
theorem dX2_add_40 : decode cX2_add 40 = .ok (.return_, 1) := by decide +kernel
set_option maxRecDepth 20000 in
theorem ggX2_lose_X2_put : GoodIn wsX2_lose wsX2_put := goodIn_r _ [9, 1, 2, 3, 4, 10, 11, 12, 13] (by decide +kernel) (by decide +kernel)
set_option maxRecDepth 20000 in
theorem gX2_lose_X2_put : GoodIn wsX2_lose (wsV RX2 24 RX2 yX2_put wsX2_put) := goodIn_app (goodIn_of _ (by decide +kernel)) ggX2_lose_X2_put
theorem dX2_lose_0 : decode cX2_lose 0 = .ok (.aload_n 0, 1) := by decide +kernel
theorem dX2_lose_1 : decode cX2_lose 1 = .ok (.aload_n 0, 1) := by decide +kernel
theorem dX2_lose_2 : decode cX2_lose 2 = .ok (.getfield 9, 3) := by decide +kernel
theorem dX2_lose_5 : decode cX2_lose 5 = .ok (.aload_n 1, 1) := by decide +kernel
theorem dX2_lose_6 : decode cX2_lose 6 = .ok (.getfield 9, 3) := by decide +kernel
theorem dX2_lose_9 : decode cX2_lose 9 = .ok (.isub, 1) := by decide +kernel
theorem dX2_lose_10 : decode cX2_lose 10 = .ok (.aload_n 0, 1) := by decide +kernel
theorem dX2_lose_11 : decode cX2_lose 11 = .ok (.getfield 15, 3) := by decide +kernel
theorem dX2_lose_14 : decode cX2_lose 14 = .ok (.aload_n 1, 1) := by decide +kernel
theorem dX2_lose_15 : decode cX2_lose 15 = .ok (.getfield 15, 3) := by decide +kernel
theorem dX2_lose_18 : decode cX2_lose 18 = .ok (.isub, 1) := by decide +kernel
theorem dX2_lose_19 : decode cX2_lose 19 = .ok (.aload_n 0, 1) := by decide +kernel
theorem dX2_lose_20 : decode cX2_lose 20 = .ok (.getfield 18, 3) := by decide +kernel
theorem dX2_lose_23 : decode cX2_lose 23 = .ok (.aload_n 1, 1) := by decide +kernel
theorem dX2_lose_24 : decode cX2_lose 24 = .ok (.getfield 18, 3) := by decide +kernel
theorem dX2_lose_27 : decode cX2_lose 27 = .ok (.isub, 1) := by decide +kernel
theorem dX2_lose_28 : decode cX2_lose 28 = .ok (.aload_n 0, 1) := by decide +kernel
theorem dX2_lose_29 : decode cX2_lose 29 = .ok (.getfield 21, 3) := by decide +kernel
theorem dX2_lose_32 : decode cX2_lose 32 = .ok (.aload_n 1, 1) := by decide +kernel
theorem dX2_lose_33 : decode cX2_lose 33 = .ok (.getfield 21, 3) := by decide +kernel
theorem dX2_lose_36 : decode cX2_lose 36 = .ok (.isub, 1) := by decide +kernel
theorem dX2_lose_37 : decode cX2_lose 37 = .ok (.invokevirtual 24, 3) := by decide +kernel
theorem dX2_lose_40 : decode cX2_lose 40 = .ok (.return_, 1) := by decide +kernel
set_option maxRecDepth 20000 in
theorem ggX2_tell_X6_quotient : GoodIn wsX2_tell wsX6_quotient := goodIn_r _ [7] (by decide +kernel) (by decide +kernel)
set_option maxRecDepth 20000 in
theorem gX2_tell_X6_quotient_n28 : GoodIn wsX2_tell (wsX6_quotient) := ggX2_tell_X6_quotient
theorem dX2_tell_0 : decode cX2_tell 0 = .ok (.iload_n 1, 1) := by decide +kernel
theorem dX2_tell_1 : decode cX2_tell 1 = .ok (.tableswitch 67 0 4 #[35, 40, 45, 50, 55], 35) := by decide +kernel
theorem dX2_tell_36 : decode cX2_tell 36 = .ok (.aload_n 0, 1) := by decide +kernel
theorem dX2_tell_37 : decode cX2_tell 37 = .ok (.getfield 9, 3) := by decide +kernel
theorem dX2_tell_40 : decode cX2_tell 40 = .ok (.ireturn, 1) := by decide +kernel
theorem dX2_tell_41 : decode cX2_tell 41 = .ok (.aload_n 0, 1) := by decide +kernel
theorem dX2_tell_42 : decode cX2_tell 42 = .ok (.getfield 15, 3) := by decide +kernel
theorem dX2_tell_45 : decode cX2_tell 45 = .ok (.ireturn, 1) := by decide +kernel
theorem dX2_tell_46 : decode cX2_tell 46 = .ok (.aload_n 0, 1) := by decide +kernel
theorem dX2_tell_47 : decode cX2_tell 47 = .ok (.getfield 18, 3) := by decide +kernel
theorem dX2_tell_50 : decode cX2_tell 50 = .ok (.ireturn, 1) := by decide +kernel
theorem dX2_tell_51 : decode cX2_tell 51 = .ok (.aload_n 0, 1) := by decide +kernel
theorem dX2_tell_52 : decode cX2_tell 52 = .ok (.getfield 21, 3) := by decide +kernel
theorem dX2_tell_55 : decode cX2_tell 55 = .ok (.ireturn, 1) := by decide +kernel
theorem dX2_tell_56 : decode cX2_tell 56 = .ok (.aload_n 0, 1) := by decide +kernel
theorem dX2_tell_57 : decode cX2_tell 57 = .ok (.getfield 15, 3) := by decide +kernel
theorem dX2_tell_60 : decode cX2_tell 60 = .ok (.aload_n 0, 1) := by decide +kernel
theorem dX2_tell_61 : decode cX2_tell 61 = .ok (.getfield 9, 3) := by decide +kernel
theorem dX2_tell_64 : decode cX2_tell 64 = .ok (.invokestatic 28, 3) := by decide +kernel
theorem dX2_tell_67 : decode cX2_tell 67 = .ok (.ireturn, 1) := by decide +kernel
theorem dX2_tell_68 : decode cX2_tell 68 = .ok (.aload_n 0, 1) := by decide +kernel
theorem dX2_tell_69 : decode cX2_tell 69 = .ok (.getfield 18, 3) := by decide +kernel
theorem dX2_tell_72 : decode cX2_tell 72 = .ok (.aload_n 0, 1) := by decide +kernel
theorem dX2_tell_73 : decode cX2_tell 73 = .ok (.getfield 21, 3) := by decide +kernel
theorem dX2_tell_76 : decode cX2_tell 76 = .ok (.iadd, 1) := by decide +kernel
theorem dX2_tell_77 : decode cX2_tell 77 = .ok (.aload_n 0, 1) := by decide +kernel
theorem dX2_tell_78 : decode cX2_tell 78 = .ok (.getfield 9, 3) := by decide +kernel
theorem dX2_tell_81 : decode cX2_tell 81 = .ok (.invokestatic 28, 3) := by decide +kernel
theorem dX2_tell_84 : decode cX2_tell 84 = .ok (.ireturn, 1) := by decide +kernel
theorem dX3_init_0 : decode cX3_init 0 = .ok (.aload_n 0, 1) := by decide +kernel
theorem dX3_init_1 : decode cX3_init 1 = .ok (.invokespecial 3, 3) := by decide +kernel
theorem dX3_init_4 : decode cX3_init 4 = .ok (.aload_n 0, 1) := by decide +kernel
theorem dX3_init_5 : decode cX3_init 5 = .ok (.iconst 0, 1) := by decide +kernel
theorem dX3_init_6 : decode cX3_init 6 = .ok (.putfield 9, 3) := by decide +kernel
theorem dX3_init_9 : decode cX3_init 9 = .ok (.aload_n 0, 1) := by decide +kernel
theorem dX3_init_10 : decode cX3_init 10 = .ok (.iload_n 1, 1) := by decide +kernel
theorem dX3_init_11 : decode cX3_init 11 = .ok (.iconst 0, 1) := by decide +kernel
theorem dX3_init_12 : decode cX3_init 12 = .ok (.invokestatic 15, 3) := by decide +kernel
theorem dX3_init_15 : decode cX3_init 15 = .ok (.putfield 21, 3) := by decide +kernel
theorem dX3_init_18 : decode cX3_init 18 = .ok (.aload_n 0, 1) := by decide +kernel
theorem dX3_init_19 : decode cX3_init 19 = .ok (.aload_n 0, 1) := by decide +kernel
theorem dX3_init_20 : decode cX3_init 20 = .ok (.getfield 21, 3) := by decide +kernel
theorem dX3_init_23 : decode cX3_init 23 = .ok (.newarray .int, 2) := by decide +kernel
theorem dX3_init_25 : decode cX3_init 25 = .ok (.putfield 24, 3) := by decide +kernel
theorem dX3_init_28 : decode cX3_init 28 = .ok (.aload_n 0, 1) := by decide +kernel
theorem dX3_init_29 : decode cX3_init 29 = .ok (.aload_n 0, 1) := by decide +kernel
theorem dX3_init_30 : decode cX3_init 30 = .ok (.getfield 21, 3) := by decide +kernel
theorem dX3_init_33 : decode cX3_init 33 = .ok (.newarray .int, 2) := by decide +kernel
theorem dX3_init_35 : decode cX3_init 35 = .ok (.putfield 28, 3) := by decide +kernel
theorem dX3_init_38 : decode cX3_init 38 = .ok (.aload_n 0, 1) := by decide +kernel
theorem dX3_init_39 : decode cX3_init 39 = .ok (.aload_n 0, 1) := by decide +kernel
theorem dX3_init_40 : decode cX3_init 40 = .ok (.getfield 21, 3) := by decide +kernel
theorem dX3_init_43 : decode cX3_init 43 = .ok (.newarray .int, 2) := by decide +kernel
theorem dX3_init_45 : decode cX3_init 45 = .ok (.putfield 31, 3) := by decide +kernel
theorem dX3_init_48 : decode cX3_init 48 = .ok (.aload_n 0, 1) := by decide +kernel
theorem dX3_init_49 : decode cX3_init 49 = .ok (.aload_n 0, 1) := by decide +kernel
theorem dX3_init_50 : decode cX3_init 50 = .ok (.getfield 21, 3) := by decide +kernel
theorem dX3_init_53 : decode cX3_init 53 = .ok (.newarray .int, 2) := by decide +kernel
theorem dX3_init_55 : decode cX3_init 55 = .ok (.putfield 34, 3) := by decide +kernel
theorem dX3_init_58 : decode cX3_init 58 = .ok (.return_, 1) := by decide +kernel
theorem dX3_clear_0 : decode cX3_clear 0 = .ok (.aload_n 0, 1) := by decide +kernel
theorem dX3_clear_1 : decode cX3_clear 1 = .ok (.iconst 0, 1) := by decide +kernel
theorem dX3_clear_2 : decode cX3_clear 2 = .ok (.putfield 9, 3) := by decide +kernel
theorem dX3_clear_5 : decode cX3_clear 5 = .ok (.return_, 1) := by decide +kernel
theorem dX3_holds_0 : decode cX3_holds 0 = .ok (.iload_n 1, 1) := by decide +kernel
theorem dX3_holds_1 : decode cX3_holds 1 = .ok (.ifCond .lt 23, 3) := by decide +kernel
theorem dX3_holds_4 : decode cX3_holds 4 = .ok (.iload_n 1, 1) := by decide +kernel
theorem dX3_holds_5 : decode cX3_holds 5 = .ok (.aload_n 0, 1) := by decide +kernel
theorem dX3_holds_6 : decode cX3_holds 6 = .ok (.getfield 9, 3) := by decide +kernel
theorem dX3_holds_9 : decode cX3_holds 9 = .ok (.if_icmp .ge 15, 3) := by decide +kernel
theorem dX3_holds_12 : decode cX3_holds 12 = .ok (.iload_n 1, 1) := by decide +kernel
theorem dX3_holds_13 : decode cX3_holds 13 = .ok (.aload_n 0, 1) := by decide +kernel
theorem dX3_holds_14 : decode cX3_holds 14 = .ok (.getfield 21, 3) := by decide +kernel
theorem dX3_holds_17 : decode cX3_holds 17 = .ok (.if_icmp .ge 7, 3) := by decide +kernel
theorem dX3_holds_20 : decode cX3_holds 20 = .ok (.iconst 1, 1) := by decide +kernel
theorem dX3_holds_21 : decode cX3_holds 21 = .ok (.goto 4, 3) := by decide +kernel
theorem dX3_holds_24 : decode cX3_holds 24 = .ok (.iconst 0, 1) := by decide +kernel
theorem dX3_holds_25 : decode cX3_holds 25 = .ok (.ireturn, 1) := by decide +kernel
set_option maxRecDepth 20000 in
theorem ggX3_load_X3_holds : GoodIn wsX3_load wsX3_holds := goodIn_r _ [9, 10, 11, 21, 22, 23, 24, 25, 26] (by decide +kernel) (by decide +kernel)
set_option maxRecDepth 20000 in
theorem gX3_load_X3_holds : GoodIn wsX3_load (wsV RX3 37 RX3 yX3_holds wsX3_holds) := goodIn_app (goodIn_of _ (by decide +kernel)) ggX3_load_X3_holds
set_option maxRecDepth 20000 in
theorem ggX3_load_X2_put : GoodIn wsX3_load wsX2_put := goodIn_r _ [16, 17, 18, 19, 20, 27, 28, 29, 30] (by decide +kernel) (by decide +kernel)
set_option maxRecDepth 20000 in
theorem gX3_load_X2_put : GoodIn wsX3_load (wsV RX3 41 RX2 yX2_put wsX2_put) := goodIn_app (goodIn_of _ (by decide +kernel)) ggX3_load_X2_put
theorem dX3_load_0 : decode cX3_load 0 = .ok (.aload_n 0, 1) := by decide +kernel
theorem dX3_load_1 : decode cX3_load 1 = .ok (.iload_n 1, 1) := by decide +kernel
theorem dX3_load_2 : decode cX3_load 2 = .ok (.invokevirtual 37, 3) := by decide +kernel
theorem dX3_load_5 : decode cX3_load 5 = .ok (.ifCond .eq 31, 3) := by decide +kernel
theorem dX3_load_8 : decode cX3_load 8 = .ok (.aload_n 2, 1) := by decide +kernel
theorem dX3_load_9 : decode cX3_load 9 = .ok (.aload_n 0, 1) := by decide +kernel
theorem dX3_load_10 : decode cX3_load 10 = .ok (.getfield 24, 3) := by decide +kernel
theorem dX3_load_13 : decode cX3_load 13 = .ok (.iload_n 1, 1) := by decide +kernel
theorem dX3_load_14 : decode cX3_load 14 = .ok (.iaload, 1) := by decide +kernel
theorem dX3_load_15 : decode cX3_load 15 = .ok (.aload_n 0, 1) := by decide +kernel
theorem dX3_load_16 : decode cX3_load 16 = .ok (.getfield 28, 3) := by decide +kernel
theorem dX3_load_19 : decode cX3_load 19 = .ok (.iload_n 1, 1) := by decide +kernel
theorem dX3_load_20 : decode cX3_load 20 = .ok (.iaload, 1) := by decide +kernel
theorem dX3_load_21 : decode cX3_load 21 = .ok (.aload_n 0, 1) := by decide +kernel
theorem dX3_load_22 : decode cX3_load 22 = .ok (.getfield 31, 3) := by decide +kernel
theorem dX3_load_25 : decode cX3_load 25 = .ok (.iload_n 1, 1) := by decide +kernel
theorem dX3_load_26 : decode cX3_load 26 = .ok (.iaload, 1) := by decide +kernel
theorem dX3_load_27 : decode cX3_load 27 = .ok (.aload_n 0, 1) := by decide +kernel
theorem dX3_load_28 : decode cX3_load 28 = .ok (.getfield 34, 3) := by decide +kernel
theorem dX3_load_31 : decode cX3_load 31 = .ok (.iload_n 1, 1) := by decide +kernel
theorem dX3_load_32 : decode cX3_load 32 = .ok (.iaload, 1) := by decide +kernel
theorem dX3_load_33 : decode cX3_load 33 = .ok (.invokevirtual 41, 3) := by decide +kernel
theorem dX3_load_36 : decode cX3_load 36 = .ok (.return_, 1) := by decide +kernel
theorem dX3_append_0 : decode cX3_append 0 = .ok (.aload_n 0, 1) := by decide +kernel
theorem dX3_append_1 : decode cX3_append 1 = .ok (.getfield 9, 3) := by decide +kernel
theorem dX3_append_4 : decode cX3_append 4 = .ok (.ifCond .lt 14, 3) := by decide +kernel
theorem dX3_append_7 : decode cX3_append 7 = .ok (.aload_n 0, 1) := by decide +kernel
theorem dX3_append_8 : decode cX3_append 8 = .ok (.getfield 9, 3) := by decide +kernel
theorem dX3_append_11 : decode cX3_append 11 = .ok (.aload_n 0, 1) := by decide +kernel
theorem dX3_append_12 : decode cX3_append 12 = .ok (.getfield 21, 3) := by decide +kernel
theorem dX3_append_15 : decode cX3_append 15 = .ok (.if_icmp .lt 4, 3) := by decide +kernel
theorem dX3_append_18 : decode cX3_append 18 = .ok (.return_, 1) := by decide +kernel
theorem dX3_append_19 : decode cX3_append 19 = .ok (.aload_n 0, 1) := by decide +kernel
theorem dX3_append_20 : decode cX3_append 20 = .ok (.getfield 24, 3) := by decide +kernel
theorem dX3_append_23 : decode cX3_append 23 = .ok (.aload_n 0, 1) := by decide +kernel
theorem dX3_append_24 : decode cX3_append 24 = .ok (.getfield 9, 3) := by decide +kernel
theorem dX3_append_27 : decode cX3_append 27 = .ok (.aload_n 1, 1) := by decide +kernel
theorem dX3_append_28 : decode cX3_append 28 = .ok (.getfield 47, 3) := by decide +kernel
theorem dX3_append_31 : decode cX3_append 31 = .ok (.iastore, 1) := by decide +kernel
theorem dX3_append_32 : decode cX3_append 32 = .ok (.aload_n 0, 1) := by decide +kernel
theorem dX3_append_33 : decode cX3_append 33 = .ok (.getfield 28, 3) := by decide +kernel
theorem dX3_append_36 : decode cX3_append 36 = .ok (.aload_n 0, 1) := by decide +kernel
theorem dX3_append_37 : decode cX3_append 37 = .ok (.getfield 9, 3) := by decide +kernel
theorem dX3_append_40 : decode cX3_append 40 = .ok (.aload_n 1, 1) := by decide +kernel
theorem dX3_append_41 : decode cX3_append 41 = .ok (.getfield 49, 3) := by decide +kernel
theorem dX3_append_44 : decode cX3_append 44 = .ok (.iastore, 1) := by decide +kernel
theorem dX3_append_45 : decode cX3_append 45 = .ok (.aload_n 0, 1) := by decide +kernel
theorem dX3_append_46 : decode cX3_append 46 = .ok (.getfield 31, 3) := by decide +kernel
theorem dX3_append_49 : decode cX3_append 49 = .ok (.aload_n 0, 1) := by decide +kernel
theorem dX3_append_50 : decode cX3_append 50 = .ok (.getfield 9, 3) := by decide +kernel
theorem dX3_append_53 : decode cX3_append 53 = .ok (.aload_n 1, 1) := by decide +kernel
theorem dX3_append_54 : decode cX3_append 54 = .ok (.getfield 51, 3) := by decide +kernel
theorem dX3_append_57 : decode cX3_append 57 = .ok (.iastore, 1) := by decide +kernel
theorem dX3_append_58 : decode cX3_append 58 = .ok (.aload_n 0, 1) := by decide +kernel
theorem dX3_append_59 : decode cX3_append 59 = .ok (.getfield 34, 3) := by decide +kernel
theorem dX3_append_62 : decode cX3_append 62 = .ok (.aload_n 0, 1) := by decide +kernel
theorem dX3_append_63 : decode cX3_append 63 = .ok (.getfield 9, 3) := by decide +kernel
theorem dX3_append_66 : decode cX3_append 66 = .ok (.aload_n 1, 1) := by decide +kernel
theorem dX3_append_67 : decode cX3_append 67 = .ok (.getfield 53, 3) := by decide +kernel
theorem dX3_append_70 : decode cX3_append 70 = .ok (.iastore, 1) := by decide +kernel
theorem dX3_append_71 : decode cX3_append 71 = .ok (.aload_n 0, 1) := by decide +kernel
theorem dX3_append_72 : decode cX3_append 72 = .ok (.dup, 1) := by decide +kernel
theorem dX3_append_73 : decode cX3_append 73 = .ok (.getfield 9, 3) := by decide +kernel
theorem dX3_append_76 : decode cX3_append 76 = .ok (.iconst 1, 1) := by decide +kernel
theorem dX3_append_77 : decode cX3_append 77 = .ok (.iadd, 1) := by decide +kernel
theorem dX3_append_78 : decode cX3_append 78 = .ok (.putfield 9, 3) := by decide +kernel
theorem dX3_append_81 : decode cX3_append 81 = .ok (.return_, 1) := by decide +kernel
set_option maxRecDepth 20000 in
theorem ggX3_appendAsNewest_X3_dropEldest : GoodIn wsX3_appendAsNewest wsX3_dropEldest := goodIn_r _ [7, 1, 2, 8, 9, 10, 11, 12, 13, 14, 6, 15, 16, 17, 18, 19, 20, 21, 22, 23, 32, 33, 34, 35, 36, 37] (by decide +kernel) (by decide +kernel)
set_option maxRecDepth 20000 in
theorem gX3_appendAsNewest_X3_dropEldest : GoodIn wsX3_appendAsNewest (wsV RX3 55 RX3 yX3_dropEldest wsX3_dropEldest) := goodIn_app (goodIn_of _ (by decide +kernel)) ggX3_appendAsNewest_X3_dropEldest
set_option maxRecDepth 20000 in
theorem ggX3_appendAsNewest_X3_append : GoodIn wsX3_appendAsNewest wsX3_append := goodIn_r _ [27, 1, 2, 16, 28, 17, 29, 18, 30, 19, 31, 32, 33, 34, 35, 36, 37, 38, 39, 40, 41] (by decide +kernel) (by decide +kernel)
set_option maxRecDepth 20000 in
theorem gX3_appendAsNewest_X3_append : GoodIn wsX3_appendAsNewest (wsV RX3 58 RX3 yX3_append wsX3_append) := goodIn_app (goodIn_of _ (by decide +kernel)) ggX3_appendAsNewest_X3_append
theorem dX3_appendAsNewest_0 : decode cX3_appendAsNewest 0 = .ok (.aload_n 0, 1) := by decide +kernel
theorem dX3_appendAsNewest_1 : decode cX3_appendAsNewest 1 = .ok (.getfield 9, 3) := by decide +kernel
theorem dX3_appendAsNewest_4 : decode cX3_appendAsNewest 4 = .ok (.aload_n 0, 1) := by decide +kernel
theorem dX3_appendAsNewest_5 : decode cX3_appendAsNewest 5 = .ok (.getfield 21, 3) := by decide +kernel
theorem dX3_appendAsNewest_8 : decode cX3_appendAsNewest 8 = .ok (.if_icmp .lt 7, 3) := by decide +kernel
theorem dX3_appendAsNewest_11 : decode cX3_appendAsNewest 11 = .ok (.aload_n 0, 1) := by decide +kernel
theorem dX3_appendAsNewest_12 : decode cX3_appendAsNewest 12 = .ok (.invokevirtual 55, 3) := by decide +kernel
theorem dX3_appendAsNewest_15 : decode cX3_appendAsNewest 15 = .ok (.aload_n 0, 1) := by decide +kernel
theorem dX3_appendAsNewest_16 : decode cX3_appendAsNewest 16 = .ok (.aload_n 1, 1) := by decide +kernel
theorem dX3_appendAsNewest_17 : decode cX3_appendAsNewest 17 = .ok (.invokevirtual 58, 3) := by decide +kernel
theorem dX3_appendAsNewest_20 : decode cX3_appendAsNewest 20 = .ok (.return_, 1) := by decide +kernel
set_option maxRecDepth 20000 in
theorem ggX3_dropEldest_X3_move : GoodIn wsX3_dropEldest wsX3_move := goodIn_r _ [11, 12, 13, 14, 15, 16, 17, 18, 10, 19, 1, 2, 20, 21, 22, 23, 24, 25] (by decide +kernel) (by decide +kernel)
set_option maxRecDepth 20000 in
theorem gX3_dropEldest_X3_move : GoodIn wsX3_dropEldest (wsV RX3 62 RX3 yX3_move wsX3_move) := goodIn_app (goodIn_of _ (by decide +kernel)) ggX3_dropEldest_X3_move
theorem dX3_dropEldest_0 : decode cX3_dropEldest 0 = .ok (.iconst 1, 1) := by decide +kernel
theorem dX3_dropEldest_1 : decode cX3_dropEldest 1 = .ok (.istore_n 1, 1) := by decide +kernel
theorem dX3_dropEldest_2 : decode cX3_dropEldest 2 = .ok (.iload_n 1, 1) := by decide +kernel
theorem dX3_dropEldest_3 : decode cX3_dropEldest 3 = .ok (.aload_n 0, 1) := by decide +kernel
theorem dX3_dropEldest_4 : decode cX3_dropEldest 4 = .ok (.getfield 9, 3) := by decide +kernel
theorem dX3_dropEldest_7 : decode cX3_dropEldest 7 = .ok (.if_icmp .ge 25, 3) := by decide +kernel
theorem dX3_dropEldest_10 : decode cX3_dropEldest 10 = .ok (.iload_n 1, 1) := by decide +kernel
theorem dX3_dropEldest_11 : decode cX3_dropEldest 11 = .ok (.aload_n 0, 1) := by decide +kernel
theorem dX3_dropEldest_12 : decode cX3_dropEldest 12 = .ok (.getfield 21, 3) := by decide +kernel
theorem dX3_dropEldest_15 : decode cX3_dropEldest 15 = .ok (.if_icmp .ge 17, 3) := by decide +kernel
theorem dX3_dropEldest_18 : decode cX3_dropEldest 18 = .ok (.aload_n 0, 1) := by decide +kernel
theorem dX3_dropEldest_19 : decode cX3_dropEldest 19 = .ok (.iload_n 1, 1) := by decide +kernel
theorem dX3_dropEldest_20 : decode cX3_dropEldest 20 = .ok (.iload_n 1, 1) := by decide +kernel
theorem dX3_dropEldest_21 : decode cX3_dropEldest 21 = .ok (.iconst 1, 1) := by decide +kernel
theorem dX3_dropEldest_22 : decode cX3_dropEldest 22 = .ok (.isub, 1) := by decide +kernel
theorem dX3_dropEldest_23 : decode cX3_dropEldest 23 = .ok (.invokevirtual 62, 3) := by decide +kernel
theorem dX3_dropEldest_26 : decode cX3_dropEldest 26 = .ok (.iinc 1 1, 3) := by decide +kernel
theorem dX3_dropEldest_29 : decode cX3_dropEldest 29 = .ok (.goto (-27), 3) := by decide +kernel
theorem dX3_dropEldest_32 : decode cX3_dropEldest 32 = .ok (.aload_n 0, 1) := by decide +kernel
theorem dX3_dropEldest_33 : decode cX3_dropEldest 33 = .ok (.aload_n 0, 1) := by decide +kernel
theorem dX3_dropEldest_34 : decode cX3_dropEldest 34 = .ok (.getfield 9, 3) := by decide +kernel
theorem dX3_dropEldest_37 : decode cX3_dropEldest 37 = .ok (.iconst 1, 1) := by decide +kernel
theorem dX3_dropEldest_38 : decode cX3_dropEldest 38 = .ok (.isub, 1) := by decide +kernel
theorem dX3_dropEldest_39 : decode cX3_dropEldest 39 = .ok (.iconst 0, 1) := by decide +kernel
theorem dX3_dropEldest_40 : decode cX3_dropEldest 40 = .ok (.invokestatic 15, 3) := by decide +kernel
theorem dX3_dropEldest_43 : decode cX3_dropEldest 43 = .ok (.putfield 9, 3) := by decide +kernel
theorem dX3_dropEldest_46 : decode cX3_dropEldest 46 = .ok (.return_, 1) := by decide +kernel
set_option maxRecDepth 20000 in
theorem ggX3_dropBelow_X3_load : GoodIn wsX3_dropBelow wsX3_load := goodIn_r _ [6, 7, 8, 9, 10, 11, 12, 13, 5, 14, 1, 15, 16, 17, 18, 19, 20, 21, 22, 23, 24, 36, 37, 38, 39, 40, 41, 42, 43, 44, 45] (by decide +kernel) (by decide +kernel)
set_option maxRecDepth 20000 in
theorem gX3_dropBelow_X3_load : GoodIn wsX3_dropBelow (wsV RX3 66 RX3 yX3_load wsX3_load) := goodIn_app (goodIn_of _ (by decide +kernel)) ggX3_dropBelow_X3_load
set_option maxRecDepth 20000 in
theorem ggX3_dropBelow_X2_tell : GoodIn wsX3_dropBelow wsX2_tell := goodIn_r _ [28, 21, 22, 23, 24, 29, 30, 31, 42, 43, 44, 45] (by decide +kernel) (by decide +kernel)
set_option maxRecDepth 20000 in
theorem gX3_dropBelow_X2_tell : GoodIn wsX3_dropBelow (wsV RX3 70 RX2 yX2_tell wsX2_tell) := goodIn_app (goodIn_of _ (by decide +kernel)) ggX3_dropBelow_X2_tell
set_option maxRecDepth 20000 in
theorem ggX3_dropBelow_X3_move : GoodIn wsX3_dropBelow wsX3_move := goodIn_r _ [35, 7, 8, 9, 10, 11, 12, 13, 5, 14, 1, 15, 36, 37, 38, 39, 40, 41] (by decide +kernel) (by decide +kernel)
set_option maxRecDepth 20000 in
theorem gX3_dropBelow_X3_move : GoodIn wsX3_dropBelow (wsV RX3 62 RX3 yX3_move wsX3_move) := goodIn_app (goodIn_of _ (by decide +kernel)) ggX3_dropBelow_X3_move
theorem dX3_dropBelow_0 : decode cX3_dropBelow 0 = .ok (.iconst 0, 1) := by decide +kernel
theorem dX3_dropBelow_1 : decode cX3_dropBelow 1 = .ok (.istore_n 3, 1) := by decide +kernel
theorem dX3_dropBelow_2 : decode cX3_dropBelow 2 = .ok (.iconst 0, 1) := by decide +kernel
theorem dX3_dropBelow_3 : decode cX3_dropBelow 3 = .ok (.istore 4, 2) := by decide +kernel
theorem dX3_dropBelow_5 : decode cX3_dropBelow 5 = .ok (.iload 4, 2) := by decide +kernel
theorem dX3_dropBelow_7 : decode cX3_dropBelow 7 = .ok (.aload_n 0, 1) := by decide +kernel
theorem dX3_dropBelow_8 : decode cX3_dropBelow 8 = .ok (.getfield 9, 3) := by decide +kernel
theorem dX3_dropBelow_11 : decode cX3_dropBelow 11 = .ok (.if_icmp .ge 35, 3) := by decide +kernel
theorem dX3_dropBelow_14 : decode cX3_dropBelow 14 = .ok (.aload_n 0, 1) := by decide +kernel
theorem dX3_dropBelow_15 : decode cX3_dropBelow 15 = .ok (.iload 4, 2) := by decide +kernel
theorem dX3_dropBelow_17 : decode cX3_dropBelow 17 = .ok (.aload_n 2, 1) := by decide +kernel
theorem dX3_dropBelow_18 : decode cX3_dropBelow 18 = .ok (.invokevirtual 66, 3) := by decide +kernel
theorem dX3_dropBelow_21 : decode cX3_dropBelow 21 = .ok (.aload_n 2, 1) := by decide +kernel
theorem dX3_dropBelow_22 : decode cX3_dropBelow 22 = .ok (.iconst 4, 1) := by decide +kernel
theorem dX3_dropBelow_23 : decode cX3_dropBelow 23 = .ok (.invokevirtual 70, 3) := by decide +kernel
theorem dX3_dropBelow_26 : decode cX3_dropBelow 26 = .ok (.iload_n 1, 1) := by decide +kernel
theorem dX3_dropBelow_27 : decode cX3_dropBelow 27 = .ok (.if_icmp .lt 13, 3) := by decide +kernel
theorem dX3_dropBelow_30 : decode cX3_dropBelow 30 = .ok (.aload_n 0, 1) := by decide +kernel
theorem dX3_dropBelow_31 : decode cX3_dropBelow 31 = .ok (.iload 4, 2) := by decide +kernel
theorem dX3_dropBelow_33 : decode cX3_dropBelow 33 = .ok (.iload_n 3, 1) := by decide +kernel
theorem dX3_dropBelow_34 : decode cX3_dropBelow 34 = .ok (.invokevirtual 62, 3) := by decide +kernel
theorem dX3_dropBelow_37 : decode cX3_dropBelow 37 = .ok (.iinc 3 1, 3) := by decide +kernel
theorem dX3_dropBelow_40 : decode cX3_dropBelow 40 = .ok (.iinc 4 1, 3) := by decide +kernel
theorem dX3_dropBelow_43 : decode cX3_dropBelow 43 = .ok (.goto (-38), 3) := by decide +kernel
theorem dX3_dropBelow_46 : decode cX3_dropBelow 46 = .ok (.aload_n 0, 1) := by decide +kernel
theorem dX3_dropBelow_47 : decode cX3_dropBelow 47 = .ok (.iload_n 3, 1) := by decide +kernel
theorem dX3_dropBelow_48 : decode cX3_dropBelow 48 = .ok (.putfield 9, 3) := by decide +kernel
theorem dX3_dropBelow_51 : decode cX3_dropBelow 51 = .ok (.return_, 1) := by decide +kernel
set_option maxRecDepth 20000 in
theorem ggX3_move_X3_holds : GoodIn wsX3_move wsX3_holds := goodIn_r _ [9, 10, 11, 12, 13, 14, 15, 16, 17] (by decide +kernel) (by decide +kernel)
set_option maxRecDepth 20000 in
theorem gX3_move_X3_holds : GoodIn wsX3_move (wsV RX3 37 RX3 yX3_holds wsX3_holds) := goodIn_app (goodIn_of _ (by decide +kernel)) ggX3_move_X3_holds
theorem dX3_move_0 : decode cX3_move 0 = .ok (.aload_n 0, 1) := by decide +kernel
theorem dX3_move_1 : decode cX3_move 1 = .ok (.iload_n 1, 1) := by decide +kernel
theorem dX3_move_2 : decode cX3_move 2 = .ok (.invokevirtual 37, 3) := by decide +kernel
theorem dX3_move_5 : decode cX3_move 5 = .ok (.ifCond .eq 59, 3) := by decide +kernel
theorem dX3_move_8 : decode cX3_move 8 = .ok (.aload_n 0, 1) := by decide +kernel
theorem dX3_move_9 : decode cX3_move 9 = .ok (.iload_n 2, 1) := by decide +kernel
theorem dX3_move_10 : decode cX3_move 10 = .ok (.invokevirtual 37, 3) := by decide +kernel
theorem dX3_move_13 : decode cX3_move 13 = .ok (.ifCond .eq 51, 3) := by decide +kernel
theorem dX3_move_16 : decode cX3_move 16 = .ok (.aload_n 0, 1) := by decide +kernel
theorem dX3_move_17 : decode cX3_move 17 = .ok (.getfield 24, 3) := by decide +kernel
theorem dX3_move_20 : decode cX3_move 20 = .ok (.iload_n 2, 1) := by decide +kernel
theorem dX3_move_21 : decode cX3_move 21 = .ok (.aload_n 0, 1) := by decide +kernel
theorem dX3_move_22 : decode cX3_move 22 = .ok (.getfield 24, 3) := by decide +kernel
theorem dX3_move_25 : decode cX3_move 25 = .ok (.iload_n 1, 1) := by decide +kernel
theorem dX3_move_26 : decode cX3_move 26 = .ok (.iaload, 1) := by decide +kernel
theorem dX3_move_27 : decode cX3_move 27 = .ok (.iastore, 1) := by decide +kernel
theorem dX3_move_28 : decode cX3_move 28 = .ok (.aload_n 0, 1) := by decide +kernel
theorem dX3_move_29 : decode cX3_move 29 = .ok (.getfield 28, 3) := by decide +kernel
theorem dX3_move_32 : decode cX3_move 32 = .ok (.iload_n 2, 1) := by decide +kernel
theorem dX3_move_33 : decode cX3_move 33 = .ok (.aload_n 0, 1) := by decide +kernel
theorem dX3_move_34 : decode cX3_move 34 = .ok (.getfield 28, 3) := by decide +kernel
theorem dX3_move_37 : decode cX3_move 37 = .ok (.iload_n 1, 1) := by decide +kernel
theorem dX3_move_38 : decode cX3_move 38 = .ok (.iaload, 1) := by decide +kernel
theorem dX3_move_39 : decode cX3_move 39 = .ok (.iastore, 1) := by decide +kernel
theorem dX3_move_40 : decode cX3_move 40 = .ok (.aload_n 0, 1) := by decide +kernel
theorem dX3_move_41 : decode cX3_move 41 = .ok (.getfield 31, 3) := by decide +kernel
theorem dX3_move_44 : decode cX3_move 44 = .ok (.iload_n 2, 1) := by decide +kernel
theorem dX3_move_45 : decode cX3_move 45 = .ok (.aload_n 0, 1) := by decide +kernel
theorem dX3_move_46 : decode cX3_move 46 = .ok (.getfield 31, 3) := by decide +kernel
theorem dX3_move_49 : decode cX3_move 49 = .ok (.iload_n 1, 1) := by decide +kernel
theorem dX3_move_50 : decode cX3_move 50 = .ok (.iaload, 1) := by decide +kernel
theorem dX3_move_51 : decode cX3_move 51 = .ok (.iastore, 1) := by decide +kernel
theorem dX3_move_52 : decode cX3_move 52 = .ok (.aload_n 0, 1) := by decide +kernel
theorem dX3_move_53 : decode cX3_move 53 = .ok (.getfield 34, 3) := by decide +kernel
theorem dX3_move_56 : decode cX3_move 56 = .ok (.iload_n 2, 1) := by decide +kernel
theorem dX3_move_57 : decode cX3_move 57 = .ok (.aload_n 0, 1) := by decide +kernel
theorem dX3_move_58 : decode cX3_move 58 = .ok (.getfield 34, 3) := by decide +kernel
theorem dX3_move_61 : decode cX3_move 61 = .ok (.iload_n 1, 1) := by decide +kernel
theorem dX3_move_62 : decode cX3_move 62 = .ok (.iaload, 1) := by decide +kernel
theorem dX3_move_63 : decode cX3_move 63 = .ok (.iastore, 1) := by decide +kernel
theorem dX3_move_64 : decode cX3_move 64 = .ok (.return_, 1) := by decide +kernel
theorem dX3_become_0 : decode cX3_become 0 = .ok (.iconst 0, 1) := by decide +kernel
theorem dX3_become_1 : decode cX3_become 1 = .ok (.aload_n 1, 1) := by decide +kernel
theorem dX3_become_2 : decode cX3_become 2 = .ok (.getfield 9, 3) := by decide +kernel
theorem dX3_become_5 : decode cX3_become 5 = .ok (.aload_n 1, 1) := by decide +kernel
theorem dX3_become_6 : decode cX3_become 6 = .ok (.getfield 21, 3) := by decide +kernel
theorem dX3_become_9 : decode cX3_become 9 = .ok (.aload_n 0, 1) := by decide +kernel
theorem dX3_become_10 : decode cX3_become 10 = .ok (.getfield 21, 3) := by decide +kernel
theorem dX3_become_13 : decode cX3_become 13 = .ok (.invokestatic 74, 3) := by decide +kernel
theorem dX3_become_16 : decode cX3_become 16 = .ok (.invokestatic 74, 3) := by decide +kernel
theorem dX3_become_19 : decode cX3_become 19 = .ok (.invokestatic 15, 3) := by decide +kernel
theorem dX3_become_22 : decode cX3_become 22 = .ok (.istore_n 2, 1) := by decide +kernel
theorem dX3_become_23 : decode cX3_become 23 = .ok (.aload_n 1, 1) := by decide +kernel
theorem dX3_become_24 : decode cX3_become 24 = .ok (.getfield 24, 3) := by decide +kernel
theorem dX3_become_27 : decode cX3_become 27 = .ok (.iconst 0, 1) := by decide +kernel
theorem dX3_become_28 : decode cX3_become 28 = .ok (.aload_n 0, 1) := by decide +kernel
theorem dX3_become_29 : decode cX3_become 29 = .ok (.getfield 24, 3) := by decide +kernel
theorem dX3_become_32 : decode cX3_become 32 = .ok (.iconst 0, 1) := by decide +kernel
theorem dX3_become_33 : decode cX3_become 33 = .ok (.iload_n 2, 1) := by decide +kernel
theorem dX3_become_34 : decode cX3_become 34 = .ok (.invokestatic 77, 3) := by decide +kernel
theorem dX3_become_37 : decode cX3_become 37 = .ok (.aload_n 1, 1) := by decide +kernel
theorem dX3_become_38 : decode cX3_become 38 = .ok (.getfield 28, 3) := by decide +kernel
theorem dX3_become_41 : decode cX3_become 41 = .ok (.iconst 0, 1) := by decide +kernel
theorem dX3_become_42 : decode cX3_become 42 = .ok (.aload_n 0, 1) := by decide +kernel
theorem dX3_become_43 : decode cX3_become 43 = .ok (.getfield 28, 3) := by decide +kernel
theorem dX3_become_46 : decode cX3_become 46 = .ok (.iconst 0, 1) := by decide +kernel
theorem dX3_become_47 : decode cX3_become 47 = .ok (.iload_n 2, 1) := by decide +kernel
theorem dX3_become_48 : decode cX3_become 48 = .ok (.invokestatic 77, 3) := by decide +kernel
theorem dX3_become_51 : decode cX3_become 51 = .ok (.aload_n 1, 1) := by decide +kernel
theorem dX3_become_52 : decode cX3_become 52 = .ok (.getfield 31, 3) := by decide +kernel
theorem dX3_become_55 : decode cX3_become 55 = .ok (.iconst 0, 1) := by decide +kernel
theorem dX3_become_56 : decode cX3_become 56 = .ok (.aload_n 0, 1) := by decide +kernel
theorem dX3_become_57 : decode cX3_become 57 = .ok (.getfield 31, 3) := by decide +kernel
theorem dX3_become_60 : decode cX3_become 60 = .ok (.iconst 0, 1) := by decide +kernel
theorem dX3_become_61 : decode cX3_become 61 = .ok (.iload_n 2, 1) := by decide +kernel
theorem dX3_become_62 : decode cX3_become 62 = .ok (.invokestatic 77, 3) := by decide +kernel
theorem dX3_become_65 : decode cX3_become 65 = .ok (.aload_n 1, 1) := by decide +kernel
theorem dX3_become_66 : decode cX3_become 66 = .ok (.getfield 34, 3) := by decide +kernel
theorem dX3_become_69 : decode cX3_become 69 = .ok (.iconst 0, 1) := by decide +kernel
theorem dX3_become_70 : decode cX3_become 70 = .ok (.aload_n 0, 1) := by decide +kernel
theorem dX3_become_71 : decode cX3_become 71 = .ok (.getfield 34, 3) := by decide +kernel
theorem dX3_become_74 : decode cX3_become 74 = .ok (.iconst 0, 1) := by decide +kernel
theorem dX3_become_75 : decode cX3_become 75 = .ok (.iload_n 2, 1) := by decide +kernel
theorem dX3_become_76 : decode cX3_become 76 = .ok (.invokestatic 77, 3) := by decide +kernel
theorem dX3_become_79 : decode cX3_become 79 = .ok (.aload_n 0, 1) := by decide +kernel
theorem dX3_become_80 : decode cX3_become 80 = .ok (.iload_n 2, 1) := by decide +kernel
theorem dX3_become_81 : decode cX3_become 81 = .ok (.putfield 9, 3) := by decide +kernel
theorem dX3_become_84 : decode cX3_become 84 = .ok (.return_, 1) := by decide +kernel
theorem dX3_find_0 : decode cX3_find 0 = .ok (.iconst 0, 1) := by decide +kernel
theorem dX3_find_1 : decode cX3_find 1 = .ok (.istore_n 2, 1) := by decide +kernel
theorem dX3_find_2 : decode cX3_find 2 = .ok (.iload_n 2, 1) := by decide +kernel
theorem dX3_find_3 : decode cX3_find 3 = .ok (.aload_n 0, 1) := by decide +kernel
theorem dX3_find_4 : decode cX3_find 4 = .ok (.getfield 9, 3) := by decide +kernel
theorem dX3_find_7 : decode cX3_find 7 = .ok (.if_icmp .ge 71, 3) := by decide +kernel
theorem dX3_find_10 : decode cX3_find 10 = .ok (.iload_n 2, 1) := by decide +kernel
theorem dX3_find_11 : decode cX3_find 11 = .ok (.aload_n 0, 1) := by decide +kernel
theorem dX3_find_12 : decode cX3_find 12 = .ok (.getfield 21, 3) := by decide +kernel
theorem dX3_find_15 : decode cX3_find 15 = .ok (.if_icmp .ge 63, 3) := by decide +kernel
theorem dX3_find_18 : decode cX3_find 18 = .ok (.aload_n 0, 1) := by decide +kernel
theorem dX3_find_19 : decode cX3_find 19 = .ok (.getfield 28, 3) := by decide +kernel
theorem dX3_find_22 : decode cX3_find 22 = .ok (.iload_n 2, 1) := by decide +kernel
theorem dX3_find_23 : decode cX3_find 23 = .ok (.iaload, 1) := by decide +kernel
theorem dX3_find_24 : decode cX3_find 24 = .ok (.aload_n 1, 1) := by decide +kernel
theorem dX3_find_25 : decode cX3_find 25 = .ok (.getfield 49, 3) := by decide +kernel
theorem dX3_find_28 : decode cX3_find 28 = .ok (.if_icmp .ne 44, 3) := by decide +kernel
theorem dX3_find_31 : decode cX3_find 31 = .ok (.aload_n 0, 1) := by decide +kernel
theorem dX3_find_32 : decode cX3_find 32 = .ok (.getfield 34, 3) := by decide +kernel
theorem dX3_find_35 : decode cX3_find 35 = .ok (.iload_n 2, 1) := by decide +kernel
theorem dX3_find_36 : decode cX3_find 36 = .ok (.iaload, 1) := by decide +kernel
theorem dX3_find_37 : decode cX3_find 37 = .ok (.aload_n 1, 1) := by decide +kernel
theorem dX3_find_38 : decode cX3_find 38 = .ok (.getfield 53, 3) := by decide +kernel
theorem dX3_find_41 : decode cX3_find 41 = .ok (.if_icmp .ne 31, 3) := by decide +kernel
theorem dX3_find_44 : decode cX3_find 44 = .ok (.aload_n 0, 1) := by decide +kernel
theorem dX3_find_45 : decode cX3_find 45 = .ok (.getfield 31, 3) := by decide +kernel
theorem dX3_find_48 : decode cX3_find 48 = .ok (.iload_n 2, 1) := by decide +kernel
theorem dX3_find_49 : decode cX3_find 49 = .ok (.iaload, 1) := by decide +kernel
theorem dX3_find_50 : decode cX3_find 50 = .ok (.aload_n 1, 1) := by decide +kernel
theorem dX3_find_51 : decode cX3_find 51 = .ok (.getfield 51, 3) := by decide +kernel
theorem dX3_find_54 : decode cX3_find 54 = .ok (.if_icmp .ne 18, 3) := by decide +kernel
theorem dX3_find_57 : decode cX3_find 57 = .ok (.aload_n 0, 1) := by decide +kernel
theorem dX3_find_58 : decode cX3_find 58 = .ok (.getfield 24, 3) := by decide +kernel
theorem dX3_find_61 : decode cX3_find 61 = .ok (.iload_n 2, 1) := by decide +kernel
theorem dX3_find_62 : decode cX3_find 62 = .ok (.iaload, 1) := by decide +kernel
theorem dX3_find_63 : decode cX3_find 63 = .ok (.aload_n 1, 1) := by decide +kernel
theorem dX3_find_64 : decode cX3_find 64 = .ok (.getfield 47, 3) := by decide +kernel
theorem dX3_find_67 : decode cX3_find 67 = .ok (.if_icmp .ne 5, 3) := by decide +kernel
theorem dX3_find_70 : decode cX3_find 70 = .ok (.iload_n 2, 1) := by decide +kernel
theorem dX3_find_71 : decode cX3_find 71 = .ok (.ireturn, 1) := by decide +kernel
theorem dX3_find_72 : decode cX3_find 72 = .ok (.iinc 2 1, 3) := by decide +kernel
theorem dX3_find_75 : decode cX3_find 75 = .ok (.goto (-73), 3) := by decide +kernel
theorem dX3_find_78 : decode cX3_find 78 = .ok (.iconst (-1), 1) := by decide +kernel
theorem dX3_find_79 : decode cX3_find 79 = .ok (.ireturn, 1) := by decide +kernel
set_option maxRecDepth 20000 in
theorem ggX4_init_X2_init : GoodIn wsX4_init wsX2_init := goodIn_r _ [22, 23, 2, 3, 24, 25, 26, 27, 42, 43, 44, 45] (by decide +kernel) (by decide +kernel)
set_option maxRecDepth 20000 in
theorem gX4_init_X2_init_n11 : GoodIn wsX4_init (wsX2_init) := ggX4_init_X2_init
set_option maxRecDepth 20000 in
theorem ggX4_init_X3_init : GoodIn wsX4_init wsX3_init := goodIn_r _ [30, 31, 2, 3, 32, 33, 34, 35, 36, 37, 17, 38, 39, 40, 41, 56, 57, 58, 59, 60, 61] (by decide +kernel) (by decide +kernel)
set_option maxRecDepth 20000 in
theorem gX4_init_X3_init : GoodIn wsX4_init (wsX3_init) := ggX4_init_X3_init
theorem dX4_init_0 : decode cX4_init 0 = .ok (.aload_n 0, 1) := by decide +kernel
theorem dX4_init_1 : decode cX4_init 1 = .ok (.invokespecial 3, 3) := by decide +kernel
theorem dX4_init_4 : decode cX4_init 4 = .ok (.aload_n 0, 1) := by decide +kernel
theorem dX4_init_5 : decode cX4_init 5 = .ok (.new 9, 3) := by decide +kernel
theorem dX4_init_8 : decode cX4_init 8 = .ok (.dup, 1) := by decide +kernel
theorem dX4_init_9 : decode cX4_init 9 = .ok (.invokespecial 11, 3) := by decide +kernel
theorem dX4_init_12 : decode cX4_init 12 = .ok (.putfield 12, 3) := by decide +kernel
theorem dX4_init_15 : decode cX4_init 15 = .ok (.aload_n 0, 1) := by decide +kernel
theorem dX4_init_16 : decode cX4_init 16 = .ok (.new 9, 3) := by decide +kernel
theorem dX4_init_19 : decode cX4_init 19 = .ok (.dup, 1) := by decide +kernel
theorem dX4_init_20 : decode cX4_init 20 = .ok (.invokespecial 11, 3) := by decide +kernel
theorem dX4_init_23 : decode cX4_init 23 = .ok (.putfield 18, 3) := by decide +kernel
theorem dX4_init_26 : decode cX4_init 26 = .ok (.aload_n 0, 1) := by decide +kernel
theorem dX4_init_27 : decode cX4_init 27 = .ok (.new 9, 3) := by decide +kernel
theorem dX4_init_30 : decode cX4_init 30 = .ok (.dup, 1) := by decide +kernel
theorem dX4_init_31 : decode cX4_init 31 = .ok (.invokespecial 11, 3) := by decide +kernel
theorem dX4_init_34 : decode cX4_init 34 = .ok (.putfield 21, 3) := by decide +kernel
theorem dX4_init_37 : decode cX4_init 37 = .ok (.aload_n 0, 1) := by decide +kernel
theorem dX4_init_38 : decode cX4_init 38 = .ok (.new 9, 3) := by decide +kernel
theorem dX4_init_41 : decode cX4_init 41 = .ok (.dup, 1) := by decide +kernel
theorem dX4_init_42 : decode cX4_init 42 = .ok (.invokespecial 11, 3) := by decide +kernel
theorem dX4_init_45 : decode cX4_init 45 = .ok (.putfield 24, 3) := by decide +kernel
theorem dX4_init_48 : decode cX4_init 48 = .ok (.aload_n 0, 1) := by decide +kernel
theorem dX4_init_49 : decode cX4_init 49 = .ok (.new 9, 3) := by decide +kernel
theorem dX4_init_52 : decode cX4_init 52 = .ok (.dup, 1) := by decide +kernel
theorem dX4_init_53 : decode cX4_init 53 = .ok (.invokespecial 11, 3) := by decide +kernel
theorem dX4_init_56 : decode cX4_init 56 = .ok (.putfield 27, 3) := by decide +kernel
theorem dX4_init_59 : decode cX4_init 59 = .ok (.aload_n 0, 1) := by decide +kernel
theorem dX4_init_60 : decode cX4_init 60 = .ok (.new 9, 3) := by decide +kernel
theorem dX4_init_63 : decode cX4_init 63 = .ok (.dup, 1) := by decide +kernel
theorem dX4_init_64 : decode cX4_init 64 = .ok (.invokespecial 11, 3) := by decide +kernel
theorem dX4_init_67 : decode cX4_init 67 = .ok (.putfield 30, 3) := by decide +kernel
theorem dX4_init_70 : decode cX4_init 70 = .ok (.aload_n 0, 1) := by decide +kernel
theorem dX4_init_71 : decode cX4_init 71 = .ok (.new 33, 3) := by decide +kernel
theorem dX4_init_74 : decode cX4_init 74 = .ok (.dup, 1) := by decide +kernel
theorem dX4_init_75 : decode cX4_init 75 = .ok (.bipush 40, 2) := by decide +kernel
theorem dX4_init_77 : decode cX4_init 77 = .ok (.invokespecial 35, 3) := by decide +kernel
theorem dX4_init_80 : decode cX4_init 80 = .ok (.putfield 38, 3) := by decide +kernel
theorem dX4_init_83 : decode cX4_init 83 = .ok (.aload_n 0, 1) := by decide +kernel
theorem dX4_init_84 : decode cX4_init 84 = .ok (.bipush 40, 2) := by decide +kernel
theorem dX4_init_86 : decode cX4_init 86 = .ok (.newarray .int, 2) := by decide +kernel
theorem dX4_init_88 : decode cX4_init 88 = .ok (.putfield 42, 3) := by decide +kernel
theorem dX4_init_91 : decode cX4_init 91 = .ok (.aload_n 0, 1) := by decide +kernel
theorem dX4_init_92 : decode cX4_init 92 = .ok (.iconst 0, 1) := by decide +kernel
theorem dX4_init_93 : decode cX4_init 93 = .ok (.putfield 46, 3) := by decide +kernel
theorem dX4_init_96 : decode cX4_init 96 = .ok (.aload_n 0, 1) := by decide +kernel
theorem dX4_init_97 : decode cX4_init 97 = .ok (.iconst 0, 1) := by decide +kernel
theorem dX4_init_98 : decode cX4_init 98 = .ok (.putfield 50, 3) := by decide +kernel
theorem dX4_init_101 : decode cX4_init 101 = .ok (.return_, 1) := by decide +kernel
set_option maxRecDepth 20000 in
theorem ggX4_boil_X2_put : GoodIn wsX4_boil wsX2_put := goodIn_r _ [12, 13, 14, 15, 16, 95, 96, 97, 98] (by decide +kernel) (by decide +kernel)
set_option maxRecDepth 20000 in
theorem gX4_boil_X2_put : GoodIn wsX4_boil (wsV RX4 58 RX2 yX2_put wsX2_put) := goodIn_app (goodIn_of _ (by decide +kernel)) ggX4_boil_X2_put
set_option maxRecDepth 20000 in
theorem ggX4_boil_X2_add : GoodIn wsX4_boil wsX2_add := goodIn_r _ [20, 13, 14, 15, 16, 21, 9, 10, 11, 12, 95, 96, 97, 98] (by decide +kernel) (by decide +kernel)
set_option maxRecDepth 20000 in
theorem gX4_boil_X2_add : GoodIn wsX4_boil (wsV RX4 62 RX2 yX2_add wsX2_add) := goodIn_app (goodIn_of _ (by decide +kernel)) ggX4_boil_X2_add
set_option maxRecDepth 20000 in
theorem ggX4_boil_X2_become : GoodIn wsX4_boil wsX2_become := goodIn_r _ [25, 13, 14, 15, 16, 21, 9, 10, 11, 12, 95, 96, 97, 98] (by decide +kernel) (by decide +kernel)
set_option maxRecDepth 20000 in
theorem gX4_boil_X2_become : GoodIn wsX4_boil (wsV RX4 66 RX2 yX2_become wsX2_become) := goodIn_app (goodIn_of _ (by decide +kernel)) ggX4_boil_X2_become
set_option maxRecDepth 20000 in
theorem ggX4_boil_X3_clear : GoodIn wsX4_boil wsX3_clear := goodIn_r _ [30, 31, 99, 100, 101, 102, 103, 104] (by decide +kernel) (by decide +kernel)
set_option maxRecDepth 20000 in
theorem gX4_boil_X3_clear : GoodIn wsX4_boil (wsV RX4 69 RX3 yX3_clear wsX3_clear) := goodIn_app (goodIn_of _ (by decide +kernel)) ggX4_boil_X3_clear
set_option maxRecDepth 20000 in
theorem ggX4_boil_X2_tell : GoodIn wsX4_boil wsX2_tell := goodIn_r _ [35, 13, 14, 15, 16, 36, 37, 38, 95, 96, 97, 98] (by decide +kernel) (by decide +kernel)
set_option maxRecDepth 20000 in
theorem gX4_boil_X2_tell : GoodIn wsX4_boil (wsV RX4 75 RX2 yX2_tell wsX2_tell) := goodIn_app (goodIn_of _ (by decide +kernel)) ggX4_boil_X2_tell
set_option maxRecDepth 20000 in
theorem ggX4_boil_X5_overOf : GoodIn wsX4_boil wsX5_overOf := goodIn_r _ [43, 44, 45, 46, 47, 48, 49, 50, 51, 79, 80, 81, 82, 83, 84] (by decide +kernel) (by decide +kernel)
set_option maxRecDepth 20000 in
theorem gX4_boil_X5_overOf : GoodIn wsX4_boil (wsV RX4 79 RX5 yX5_overOf wsX5_overOf) := goodIn_app (goodIn_of _ (by decide +kernel)) ggX4_boil_X5_overOf
set_option maxRecDepth 20000 in
theorem ggX4_boil_X4_letOneOver : GoodIn wsX4_boil wsX4_letOneOver := goodIn_r _ [56, 3, 57, 58, 45, 46, 47, 59, 60, 61, 4, 36, 37, 38, 8, 9, 10, 11, 12, 13, 14, 15, 16, 62, 63, 64, 65, 21, 66, 67, 68, 29, 69, 31, 70, 71, 72, 73, 74, 75, 76, 77, 78, 85, 86, 87, 88, 89, 90, 91, 92, 93, 94, 95, 96, 97, 98, 99, 100, 101, 102, 103, 104] (by decide +kernel) (by decide +kernel)
set_option maxRecDepth 20000 in
theorem gX4_boil_X4_letOneOver : GoodIn wsX4_boil (wsV RX4 85 RX4 yX4_letOneOver wsX4_letOneOver) := goodIn_app (goodIn_of _ (by decide +kernel)) ggX4_boil_X4_letOneOver
theorem dX4_boil_0 : decode cX4_boil 0 = .ok (.aload_n 1, 1) := by decide +kernel
theorem dX4_boil_1 : decode cX4_boil 1 = .ok (.getfield 53, 3) := by decide +kernel
theorem dX4_boil_4 : decode cX4_boil 4 = .ok (.iconst 0, 1) := by decide +kernel
theorem dX4_boil_5 : decode cX4_boil 5 = .ok (.iaload, 1) := by decide +kernel
theorem dX4_boil_6 : decode cX4_boil 6 = .ok (.istore_n 3, 1) := by decide +kernel
theorem dX4_boil_7 : decode cX4_boil 7 = .ok (.aload_n 0, 1) := by decide +kernel
theorem dX4_boil_8 : decode cX4_boil 8 = .ok (.getfield 12, 3) := by decide +kernel
theorem dX4_boil_11 : decode cX4_boil 11 = .ok (.iload_n 3, 1) := by decide +kernel
theorem dX4_boil_12 : decode cX4_boil 12 = .ok (.iload_n 3, 1) := by decide +kernel
theorem dX4_boil_13 : decode cX4_boil 13 = .ok (.aload_n 1, 1) := by decide +kernel
theorem dX4_boil_14 : decode cX4_boil 14 = .ok (.getfield 53, 3) := by decide +kernel
theorem dX4_boil_17 : decode cX4_boil 17 = .ok (.iconst 1, 1) := by decide +kernel
theorem dX4_boil_18 : decode cX4_boil 18 = .ok (.iaload, 1) := by decide +kernel
theorem dX4_boil_19 : decode cX4_boil 19 = .ok (.imul, 1) := by decide +kernel
theorem dX4_boil_20 : decode cX4_boil 20 = .ok (.aload_n 1, 1) := by decide +kernel
theorem dX4_boil_21 : decode cX4_boil 21 = .ok (.getfield 53, 3) := by decide +kernel
theorem dX4_boil_24 : decode cX4_boil 24 = .ok (.iconst 2, 1) := by decide +kernel
theorem dX4_boil_25 : decode cX4_boil 25 = .ok (.iaload, 1) := by decide +kernel
theorem dX4_boil_26 : decode cX4_boil 26 = .ok (.aload_n 1, 1) := by decide +kernel
theorem dX4_boil_27 : decode cX4_boil 27 = .ok (.getfield 53, 3) := by decide +kernel
theorem dX4_boil_30 : decode cX4_boil 30 = .ok (.iconst 3, 1) := by decide +kernel
theorem dX4_boil_31 : decode cX4_boil 31 = .ok (.iaload, 1) := by decide +kernel
theorem dX4_boil_32 : decode cX4_boil 32 = .ok (.invokevirtual 58, 3) := by decide +kernel
theorem dX4_boil_35 : decode cX4_boil 35 = .ok (.aload_n 0, 1) := by decide +kernel
theorem dX4_boil_36 : decode cX4_boil 36 = .ok (.getfield 12, 3) := by decide +kernel
theorem dX4_boil_39 : decode cX4_boil 39 = .ok (.aload_n 2, 1) := by decide +kernel
theorem dX4_boil_40 : decode cX4_boil 40 = .ok (.invokevirtual 62, 3) := by decide +kernel
theorem dX4_boil_43 : decode cX4_boil 43 = .ok (.aload_n 0, 1) := by decide +kernel
theorem dX4_boil_44 : decode cX4_boil 44 = .ok (.getfield 18, 3) := by decide +kernel
theorem dX4_boil_47 : decode cX4_boil 47 = .ok (.aload_n 0, 1) := by decide +kernel
theorem dX4_boil_48 : decode cX4_boil 48 = .ok (.getfield 12, 3) := by decide +kernel
theorem dX4_boil_51 : decode cX4_boil 51 = .ok (.invokevirtual 66, 3) := by decide +kernel
theorem dX4_boil_54 : decode cX4_boil 54 = .ok (.aload_n 0, 1) := by decide +kernel
theorem dX4_boil_55 : decode cX4_boil 55 = .ok (.getfield 38, 3) := by decide +kernel
theorem dX4_boil_58 : decode cX4_boil 58 = .ok (.invokevirtual 69, 3) := by decide +kernel
theorem dX4_boil_61 : decode cX4_boil 61 = .ok (.iconst 0, 1) := by decide +kernel
theorem dX4_boil_62 : decode cX4_boil 62 = .ok (.istore 4, 2) := by decide +kernel
theorem dX4_boil_64 : decode cX4_boil 64 = .ok (.iload 4, 2) := by decide +kernel
theorem dX4_boil_66 : decode cX4_boil 66 = .ok (.bipush 40, 2) := by decide +kernel
theorem dX4_boil_68 : decode cX4_boil 68 = .ok (.if_icmp .ge 73, 3) := by decide +kernel
theorem dX4_boil_71 : decode cX4_boil 71 = .ok (.aload_n 0, 1) := by decide +kernel
theorem dX4_boil_72 : decode cX4_boil 72 = .ok (.getfield 18, 3) := by decide +kernel
theorem dX4_boil_75 : decode cX4_boil 75 = .ok (.getfield 72, 3) := by decide +kernel
theorem dX4_boil_78 : decode cX4_boil 78 = .ok (.iconst 1, 1) := by decide +kernel
theorem dX4_boil_79 : decode cX4_boil 79 = .ok (.if_icmp .le 62, 3) := by decide +kernel
theorem dX4_boil_82 : decode cX4_boil 82 = .ok (.aload_n 1, 1) := by decide +kernel
theorem dX4_boil_83 : decode cX4_boil 83 = .ok (.aload_n 0, 1) := by decide +kernel
theorem dX4_boil_84 : decode cX4_boil 84 = .ok (.getfield 18, 3) := by decide +kernel
theorem dX4_boil_87 : decode cX4_boil 87 = .ok (.iconst 4, 1) := by decide +kernel
theorem dX4_boil_88 : decode cX4_boil 88 = .ok (.invokevirtual 75, 3) := by decide +kernel
theorem dX4_boil_91 : decode cX4_boil 91 = .ok (.invokevirtual 79, 3) := by decide +kernel
theorem dX4_boil_94 : decode cX4_boil 94 = .ok (.istore 5, 2) := by decide +kernel
theorem dX4_boil_96 : decode cX4_boil 96 = .ok (.iload 5, 2) := by decide +kernel
theorem dX4_boil_98 : decode cX4_boil 98 = .ok (.aload_n 1, 1) := by decide +kernel
theorem dX4_boil_99 : decode cX4_boil 99 = .ok (.getfield 82, 3) := by decide +kernel
theorem dX4_boil_102 : decode cX4_boil 102 = .ok (.iconst 2, 1) := by decide +kernel
theorem dX4_boil_103 : decode cX4_boil 103 = .ok (.iaload, 1) := by decide +kernel
theorem dX4_boil_104 : decode cX4_boil 104 = .ok (.if_icmp .ge 4, 3) := by decide +kernel
theorem dX4_boil_107 : decode cX4_boil 107 = .ok (.return_, 1) := by decide +kernel
theorem dX4_boil_108 : decode cX4_boil 108 = .ok (.aload_n 0, 1) := by decide +kernel
theorem dX4_boil_109 : decode cX4_boil 109 = .ok (.getfield 42, 3) := by decide +kernel
theorem dX4_boil_112 : decode cX4_boil 112 = .ok (.iload 4, 2) := by decide +kernel
theorem dX4_boil_114 : decode cX4_boil 114 = .ok (.iload 5, 2) := by decide +kernel
theorem dX4_boil_116 : decode cX4_boil 116 = .ok (.iastore, 1) := by decide +kernel
theorem dX4_boil_117 : decode cX4_boil 117 = .ok (.aload_n 0, 1) := by decide +kernel
theorem dX4_boil_118 : decode cX4_boil 118 = .ok (.iload 5, 2) := by decide +kernel
theorem dX4_boil_120 : decode cX4_boil 120 = .ok (.aload_n 1, 1) := by decide +kernel
theorem dX4_boil_121 : decode cX4_boil 121 = .ok (.getfield 82, 3) := by decide +kernel
theorem dX4_boil_124 : decode cX4_boil 124 = .ok (.iconst 3, 1) := by decide +kernel
theorem dX4_boil_125 : decode cX4_boil 125 = .ok (.iaload, 1) := by decide +kernel
theorem dX4_boil_126 : decode cX4_boil 126 = .ok (.aload_n 1, 1) := by decide +kernel
theorem dX4_boil_127 : decode cX4_boil 127 = .ok (.getfield 82, 3) := by decide +kernel
theorem dX4_boil_130 : decode cX4_boil 130 = .ok (.iconst 4, 1) := by decide +kernel
theorem dX4_boil_131 : decode cX4_boil 131 = .ok (.iaload, 1) := by decide +kernel
theorem dX4_boil_132 : decode cX4_boil 132 = .ok (.invokevirtual 85, 3) := by decide +kernel
theorem dX4_boil_135 : decode cX4_boil 135 = .ok (.iinc 4 1, 3) := by decide +kernel
theorem dX4_boil_138 : decode cX4_boil 138 = .ok (.goto (-74), 3) := by decide +kernel
theorem dX4_boil_141 : decode cX4_boil 141 = .ok (.return_, 1) := by decide +kernel
set_option maxRecDepth 20000 in
theorem ggX4_letOneOver_X6_quotient : GoodIn wsX4_letOneOver wsX6_quotient := goodIn_r _ [13] (by decide +kernel) (by decide +kernel)
set_option maxRecDepth 20000 in
theorem gX4_letOneOver_X6_quotient_n104 : GoodIn wsX4_letOneOver (wsX6_quotient) := ggX4_letOneOver_X6_quotient
set_option maxRecDepth 20000 in
theorem ggX4_letOneOver_X2_put : GoodIn wsX4_letOneOver wsX2_put := goodIn_r _ [18, 19, 20, 21, 22, 53, 54, 55, 56] (by decide +kernel) (by decide +kernel)
set_option maxRecDepth 20000 in
theorem gX4_letOneOver_X2_put : GoodIn wsX4_letOneOver (wsV RX4 58 RX2 yX2_put wsX2_put) := goodIn_app (goodIn_of _ (by decide +kernel)) ggX4_letOneOver_X2_put
set_option maxRecDepth 20000 in
theorem ggX4_letOneOver_X2_lose : GoodIn wsX4_letOneOver wsX2_lose := goodIn_r _ [26, 19, 20, 21, 22, 27, 15, 16, 17, 18, 53, 54, 55, 56] (by decide +kernel) (by decide +kernel)
set_option maxRecDepth 20000 in
theorem gX4_letOneOver_X2_lose : GoodIn wsX4_letOneOver (wsV RX4 107 RX2 yX2_lose wsX2_lose) := goodIn_app (goodIn_of _ (by decide +kernel)) ggX4_letOneOver_X2_lose
set_option maxRecDepth 20000 in
theorem ggX4_letOneOver_X3_append : GoodIn wsX4_letOneOver wsX3_append := goodIn_r _ [32, 33, 34, 35, 36, 37, 38, 39, 40, 41, 42, 57, 58, 59, 60, 61, 62, 53, 54, 55, 56] (by decide +kernel) (by decide +kernel)
set_option maxRecDepth 20000 in
theorem gX4_letOneOver_X3_append : GoodIn wsX4_letOneOver (wsV RX4 110 RX3 yX3_append wsX3_append) := goodIn_app (goodIn_of _ (by decide +kernel)) ggX4_letOneOver_X3_append
theorem dX4_letOneOver_0 : decode cX4_letOneOver 0 = .ok (.iload_n 1, 1) := by decide +kernel
theorem dX4_letOneOver_1 : decode cX4_letOneOver 1 = .ok (.aload_n 0, 1) := by decide +kernel
theorem dX4_letOneOver_2 : decode cX4_letOneOver 2 = .ok (.getfield 18, 3) := by decide +kernel
theorem dX4_letOneOver_5 : decode cX4_letOneOver 5 = .ok (.getfield 89, 3) := by decide +kernel
theorem dX4_letOneOver_8 : decode cX4_letOneOver 8 = .ok (.invokestatic 92, 3) := by decide +kernel
theorem dX4_letOneOver_11 : decode cX4_letOneOver 11 = .ok (.istore 4, 2) := by decide +kernel
theorem dX4_letOneOver_13 : decode cX4_letOneOver 13 = .ok (.aload_n 0, 1) := by decide +kernel
theorem dX4_letOneOver_14 : decode cX4_letOneOver 14 = .ok (.getfield 18, 3) := by decide +kernel
theorem dX4_letOneOver_17 : decode cX4_letOneOver 17 = .ok (.getfield 98, 3) := by decide +kernel
theorem dX4_letOneOver_20 : decode cX4_letOneOver 20 = .ok (.iload_n 2, 1) := by decide +kernel
theorem dX4_letOneOver_21 : decode cX4_letOneOver 21 = .ok (.imul, 1) := by decide +kernel
theorem dX4_letOneOver_22 : decode cX4_letOneOver 22 = .ok (.bipush 10, 2) := by decide +kernel
theorem dX4_letOneOver_24 : decode cX4_letOneOver 24 = .ok (.idiv, 1) := by decide +kernel
theorem dX4_letOneOver_25 : decode cX4_letOneOver 25 = .ok (.iconst 1, 1) := by decide +kernel
theorem dX4_letOneOver_26 : decode cX4_letOneOver 26 = .ok (.iadd, 1) := by decide +kernel
theorem dX4_letOneOver_27 : decode cX4_letOneOver 27 = .ok (.aload_n 0, 1) := by decide +kernel
theorem dX4_letOneOver_28 : decode cX4_letOneOver 28 = .ok (.getfield 18, 3) := by decide +kernel
theorem dX4_letOneOver_31 : decode cX4_letOneOver 31 = .ok (.getfield 98, 3) := by decide +kernel
theorem dX4_letOneOver_34 : decode cX4_letOneOver 34 = .ok (.invokestatic 92, 3) := by decide +kernel
theorem dX4_letOneOver_37 : decode cX4_letOneOver 37 = .ok (.istore 5, 2) := by decide +kernel
theorem dX4_letOneOver_39 : decode cX4_letOneOver 39 = .ok (.aload_n 0, 1) := by decide +kernel
theorem dX4_letOneOver_40 : decode cX4_letOneOver 40 = .ok (.getfield 18, 3) := by decide +kernel
theorem dX4_letOneOver_43 : decode cX4_letOneOver 43 = .ok (.getfield 101, 3) := by decide +kernel
theorem dX4_letOneOver_46 : decode cX4_letOneOver 46 = .ok (.sipush 1000, 3) := by decide +kernel
theorem dX4_letOneOver_49 : decode cX4_letOneOver 49 = .ok (.iload_n 1, 1) := by decide +kernel
theorem dX4_letOneOver_50 : decode cX4_letOneOver 50 = .ok (.isub, 1) := by decide +kernel
theorem dX4_letOneOver_51 : decode cX4_letOneOver 51 = .ok (.imul, 1) := by decide +kernel
theorem dX4_letOneOver_52 : decode cX4_letOneOver 52 = .ok (.sipush 1000, 3) := by decide +kernel
theorem dX4_letOneOver_55 : decode cX4_letOneOver 55 = .ok (.iload_n 3, 1) := by decide +kernel
theorem dX4_letOneOver_56 : decode cX4_letOneOver 56 = .ok (.imul, 1) := by decide +kernel
theorem dX4_letOneOver_57 : decode cX4_letOneOver 57 = .ok (.invokestatic 104, 3) := by decide +kernel
theorem dX4_letOneOver_60 : decode cX4_letOneOver 60 = .ok (.istore 6, 2) := by decide +kernel
theorem dX4_letOneOver_62 : decode cX4_letOneOver 62 = .ok (.aload_n 0, 1) := by decide +kernel
theorem dX4_letOneOver_63 : decode cX4_letOneOver 63 = .ok (.getfield 30, 3) := by decide +kernel
theorem dX4_letOneOver_66 : decode cX4_letOneOver 66 = .ok (.iconst 1, 1) := by decide +kernel
theorem dX4_letOneOver_67 : decode cX4_letOneOver 67 = .ok (.iload 4, 2) := by decide +kernel
theorem dX4_letOneOver_69 : decode cX4_letOneOver 69 = .ok (.iload 5, 2) := by decide +kernel
theorem dX4_letOneOver_71 : decode cX4_letOneOver 71 = .ok (.iload 6, 2) := by decide +kernel
theorem dX4_letOneOver_73 : decode cX4_letOneOver 73 = .ok (.invokevirtual 58, 3) := by decide +kernel
theorem dX4_letOneOver_76 : decode cX4_letOneOver 76 = .ok (.aload_n 0, 1) := by decide +kernel
theorem dX4_letOneOver_77 : decode cX4_letOneOver 77 = .ok (.getfield 18, 3) := by decide +kernel
theorem dX4_letOneOver_80 : decode cX4_letOneOver 80 = .ok (.aload_n 0, 1) := by decide +kernel
theorem dX4_letOneOver_81 : decode cX4_letOneOver 81 = .ok (.getfield 30, 3) := by decide +kernel
theorem dX4_letOneOver_84 : decode cX4_letOneOver 84 = .ok (.invokevirtual 107, 3) := by decide +kernel
theorem dX4_letOneOver_87 : decode cX4_letOneOver 87 = .ok (.aload_n 0, 1) := by decide +kernel
theorem dX4_letOneOver_88 : decode cX4_letOneOver 88 = .ok (.getfield 38, 3) := by decide +kernel
theorem dX4_letOneOver_91 : decode cX4_letOneOver 91 = .ok (.aload_n 0, 1) := by decide +kernel
theorem dX4_letOneOver_92 : decode cX4_letOneOver 92 = .ok (.getfield 30, 3) := by decide +kernel
theorem dX4_letOneOver_95 : decode cX4_letOneOver 95 = .ok (.invokevirtual 110, 3) := by decide +kernel
theorem dX4_letOneOver_98 : decode cX4_letOneOver 98 = .ok (.return_, 1) := by decide +kernel
set_option maxRecDepth 20000 in
theorem ggX4_cutAt_X4_gather : GoodIn wsX4_cutAt wsX4_gather := goodIn_r _ [17, 1, 18, 19, 20, 21, 22, 23, 24, 25, 26, 27, 28, 29, 30, 31, 32, 33, 34, 35, 36, 37, 38, 39, 40, 41, 42, 43, 44, 45, 46, 47, 48, 49, 50, 51, 52, 53, 54, 55, 56, 57, 58, 59, 60, 61, 68, 69, 70, 71, 62, 63, 64, 65, 66, 67] (by decide +kernel) (by decide +kernel)
set_option maxRecDepth 20000 in
theorem gX4_cutAt_X4_gather : GoodIn wsX4_cutAt (wsV RX4 116 RX4 yX4_gather wsX4_gather) := goodIn_app (goodIn_of _ (by decide +kernel)) ggX4_cutAt_X4_gather
theorem dX4_cutAt_0 : decode cX4_cutAt 0 = .ok (.aload_n 0, 1) := by decide +kernel
theorem dX4_cutAt_1 : decode cX4_cutAt 1 = .ok (.iload_n 1, 1) := by decide +kernel
theorem dX4_cutAt_2 : decode cX4_cutAt 2 = .ok (.aload_n 0, 1) := by decide +kernel
theorem dX4_cutAt_3 : decode cX4_cutAt 3 = .ok (.getfield 38, 3) := by decide +kernel
theorem dX4_cutAt_6 : decode cX4_cutAt 6 = .ok (.getfield 113, 3) := by decide +kernel
theorem dX4_cutAt_9 : decode cX4_cutAt 9 = .ok (.invokestatic 92, 3) := by decide +kernel
theorem dX4_cutAt_12 : decode cX4_cutAt 12 = .ok (.putfield 46, 3) := by decide +kernel
theorem dX4_cutAt_15 : decode cX4_cutAt 15 = .ok (.aload_n 0, 1) := by decide +kernel
theorem dX4_cutAt_16 : decode cX4_cutAt 16 = .ok (.aload_n 0, 1) := by decide +kernel
theorem dX4_cutAt_17 : decode cX4_cutAt 17 = .ok (.getfield 46, 3) := by decide +kernel
theorem dX4_cutAt_20 : decode cX4_cutAt 20 = .ok (.putfield 50, 3) := by decide +kernel
theorem dX4_cutAt_23 : decode cX4_cutAt 23 = .ok (.aload_n 0, 1) := by decide +kernel
theorem dX4_cutAt_24 : decode cX4_cutAt 24 = .ok (.getfield 50, 3) := by decide +kernel
theorem dX4_cutAt_27 : decode cX4_cutAt 27 = .ok (.aload_n 0, 1) := by decide +kernel
theorem dX4_cutAt_28 : decode cX4_cutAt 28 = .ok (.getfield 38, 3) := by decide +kernel
theorem dX4_cutAt_31 : decode cX4_cutAt 31 = .ok (.getfield 113, 3) := by decide +kernel
theorem dX4_cutAt_34 : decode cX4_cutAt 34 = .ok (.if_icmp .ge 38, 3) := by decide +kernel
theorem dX4_cutAt_37 : decode cX4_cutAt 37 = .ok (.aload_n 0, 1) := by decide +kernel
theorem dX4_cutAt_38 : decode cX4_cutAt 38 = .ok (.getfield 50, 3) := by decide +kernel
theorem dX4_cutAt_41 : decode cX4_cutAt 41 = .ok (.bipush 40, 2) := by decide +kernel
theorem dX4_cutAt_43 : decode cX4_cutAt 43 = .ok (.if_icmp .ge 29, 3) := by decide +kernel
theorem dX4_cutAt_46 : decode cX4_cutAt 46 = .ok (.aload_n 0, 1) := by decide +kernel
theorem dX4_cutAt_47 : decode cX4_cutAt 47 = .ok (.getfield 42, 3) := by decide +kernel
theorem dX4_cutAt_50 : decode cX4_cutAt 50 = .ok (.aload_n 0, 1) := by decide +kernel
theorem dX4_cutAt_51 : decode cX4_cutAt 51 = .ok (.getfield 50, 3) := by decide +kernel
theorem dX4_cutAt_54 : decode cX4_cutAt 54 = .ok (.iaload, 1) := by decide +kernel
theorem dX4_cutAt_55 : decode cX4_cutAt 55 = .ok (.iload_n 2, 1) := by decide +kernel
theorem dX4_cutAt_56 : decode cX4_cutAt 56 = .ok (.if_icmp .lt 16, 3) := by decide +kernel
theorem dX4_cutAt_59 : decode cX4_cutAt 59 = .ok (.aload_n 0, 1) := by decide +kernel
theorem dX4_cutAt_60 : decode cX4_cutAt 60 = .ok (.dup, 1) := by decide +kernel
theorem dX4_cutAt_61 : decode cX4_cutAt 61 = .ok (.getfield 50, 3) := by decide +kernel
theorem dX4_cutAt_64 : decode cX4_cutAt 64 = .ok (.iconst 1, 1) := by decide +kernel
theorem dX4_cutAt_65 : decode cX4_cutAt 65 = .ok (.iadd, 1) := by decide +kernel
theorem dX4_cutAt_66 : decode cX4_cutAt 66 = .ok (.putfield 50, 3) := by decide +kernel
theorem dX4_cutAt_69 : decode cX4_cutAt 69 = .ok (.goto (-46), 3) := by decide +kernel
theorem dX4_cutAt_72 : decode cX4_cutAt 72 = .ok (.aload_n 0, 1) := by decide +kernel
theorem dX4_cutAt_73 : decode cX4_cutAt 73 = .ok (.aload_n 0, 1) := by decide +kernel
theorem dX4_cutAt_74 : decode cX4_cutAt 74 = .ok (.getfield 21, 3) := by decide +kernel
theorem dX4_cutAt_77 : decode cX4_cutAt 77 = .ok (.iconst 0, 1) := by decide +kernel
theorem dX4_cutAt_78 : decode cX4_cutAt 78 = .ok (.aload_n 0, 1) := by decide +kernel
theorem dX4_cutAt_79 : decode cX4_cutAt 79 = .ok (.getfield 46, 3) := by decide +kernel
theorem dX4_cutAt_82 : decode cX4_cutAt 82 = .ok (.invokevirtual 116, 3) := by decide +kernel
theorem dX4_cutAt_85 : decode cX4_cutAt 85 = .ok (.aload_n 0, 1) := by decide +kernel
theorem dX4_cutAt_86 : decode cX4_cutAt 86 = .ok (.aload_n 0, 1) := by decide +kernel
theorem dX4_cutAt_87 : decode cX4_cutAt 87 = .ok (.getfield 24, 3) := by decide +kernel
theorem dX4_cutAt_90 : decode cX4_cutAt 90 = .ok (.aload_n 0, 1) := by decide +kernel
theorem dX4_cutAt_91 : decode cX4_cutAt 91 = .ok (.getfield 46, 3) := by decide +kernel
theorem dX4_cutAt_94 : decode cX4_cutAt 94 = .ok (.aload_n 0, 1) := by decide +kernel
theorem dX4_cutAt_95 : decode cX4_cutAt 95 = .ok (.getfield 50, 3) := by decide +kernel
theorem dX4_cutAt_98 : decode cX4_cutAt 98 = .ok (.invokevirtual 116, 3) := by decide +kernel
theorem dX4_cutAt_101 : decode cX4_cutAt 101 = .ok (.aload_n 0, 1) := by decide +kernel
theorem dX4_cutAt_102 : decode cX4_cutAt 102 = .ok (.aload_n 0, 1) := by decide +kernel
theorem dX4_cutAt_103 : decode cX4_cutAt 103 = .ok (.getfield 27, 3) := by decide +kernel
theorem dX4_cutAt_106 : decode cX4_cutAt 106 = .ok (.aload_n 0, 1) := by decide +kernel
theorem dX4_cutAt_107 : decode cX4_cutAt 107 = .ok (.getfield 50, 3) := by decide +kernel
theorem dX4_cutAt_110 : decode cX4_cutAt 110 = .ok (.aload_n 0, 1) := by decide +kernel
theorem dX4_cutAt_111 : decode cX4_cutAt 111 = .ok (.getfield 38, 3) := by decide +kernel
theorem dX4_cutAt_114 : decode cX4_cutAt 114 = .ok (.getfield 113, 3) := by decide +kernel
theorem dX4_cutAt_117 : decode cX4_cutAt 117 = .ok (.invokevirtual 116, 3) := by decide +kernel
theorem dX4_cutAt_120 : decode cX4_cutAt 120 = .ok (.return_, 1) := by decide +kernel
set_option maxRecDepth 20000 in
theorem ggX4_gather_X2_clear : GoodIn wsX4_gather wsX2_clear := goodIn_r _ [7, 8, 9, 10, 6, 11, 12, 13, 14, 15, 46, 47, 48, 49] (by decide +kernel) (by decide +kernel)
set_option maxRecDepth 20000 in
theorem gX4_gather_X2_clear : GoodIn wsX4_gather (wsV RX4 120 RX2 yX2_clear wsX2_clear) := goodIn_app (goodIn_of _ (by decide +kernel)) ggX4_gather_X2_clear
set_option maxRecDepth 20000 in
theorem ggX4_gather_X3_load : GoodIn wsX4_gather wsX3_load := goodIn_r _ [20, 21, 22, 23, 24, 25, 26, 27, 19, 28, 29, 30, 31, 9, 10, 6, 11, 12, 13, 14, 15, 50, 51, 52, 53, 54, 55, 46, 47, 48, 49] (by decide +kernel) (by decide +kernel)
set_option maxRecDepth 20000 in
theorem gX4_gather_X3_load : GoodIn wsX4_gather (wsV RX4 121 RX3 yX3_load wsX3_load) := goodIn_app (goodIn_of _ (by decide +kernel)) ggX4_gather_X3_load
set_option maxRecDepth 20000 in
theorem ggX4_gather_X2_add : GoodIn wsX4_gather wsX2_add := goodIn_r _ [35, 12, 13, 14, 15, 8, 9, 10, 6, 11, 46, 47, 48, 49] (by decide +kernel) (by decide +kernel)
set_option maxRecDepth 20000 in
theorem gX4_gather_X2_add : GoodIn wsX4_gather (wsV RX4 62 RX2 yX2_add wsX2_add) := goodIn_app (goodIn_of _ (by decide +kernel)) ggX4_gather_X2_add
theorem dX4_gather_0 : decode cX4_gather 0 = .ok (.aload_n 1, 1) := by decide +kernel
theorem dX4_gather_1 : decode cX4_gather 1 = .ok (.invokevirtual 120, 3) := by decide +kernel
theorem dX4_gather_4 : decode cX4_gather 4 = .ok (.iload_n 2, 1) := by decide +kernel
theorem dX4_gather_5 : decode cX4_gather 5 = .ok (.istore 4, 2) := by decide +kernel
theorem dX4_gather_7 : decode cX4_gather 7 = .ok (.iload 4, 2) := by decide +kernel
theorem dX4_gather_9 : decode cX4_gather 9 = .ok (.iload_n 3, 1) := by decide +kernel
theorem dX4_gather_10 : decode cX4_gather 10 = .ok (.if_icmp .ge 30, 3) := by decide +kernel
theorem dX4_gather_13 : decode cX4_gather 13 = .ok (.aload_n 0, 1) := by decide +kernel
theorem dX4_gather_14 : decode cX4_gather 14 = .ok (.getfield 38, 3) := by decide +kernel
theorem dX4_gather_17 : decode cX4_gather 17 = .ok (.iload 4, 2) := by decide +kernel
theorem dX4_gather_19 : decode cX4_gather 19 = .ok (.aload_n 0, 1) := by decide +kernel
theorem dX4_gather_20 : decode cX4_gather 20 = .ok (.getfield 30, 3) := by decide +kernel
theorem dX4_gather_23 : decode cX4_gather 23 = .ok (.invokevirtual 121, 3) := by decide +kernel
theorem dX4_gather_26 : decode cX4_gather 26 = .ok (.aload_n 1, 1) := by decide +kernel
theorem dX4_gather_27 : decode cX4_gather 27 = .ok (.aload_n 0, 1) := by decide +kernel
theorem dX4_gather_28 : decode cX4_gather 28 = .ok (.getfield 30, 3) := by decide +kernel
theorem dX4_gather_31 : decode cX4_gather 31 = .ok (.invokevirtual 62, 3) := by decide +kernel
theorem dX4_gather_34 : decode cX4_gather 34 = .ok (.iinc 4 1, 3) := by decide +kernel
theorem dX4_gather_37 : decode cX4_gather 37 = .ok (.goto (-30), 3) := by decide +kernel
theorem dX4_gather_40 : decode cX4_gather 40 = .ok (.return_, 1) := by decide +kernel
set_option maxRecDepth 20000 in
theorem ggX4_keepInto_X2_become : GoodIn wsX4_keepInto wsX2_become := goodIn_r _ [7, 8, 9, 10, 11, 12, 13, 14, 6, 15, 30, 31, 32, 33] (by decide +kernel) (by decide +kernel)
set_option maxRecDepth 20000 in
theorem gX4_keepInto_X2_become : GoodIn wsX4_keepInto (wsV RX4 66 RX2 yX2_become wsX2_become) := goodIn_app (goodIn_of _ (by decide +kernel)) ggX4_keepInto_X2_become
set_option maxRecDepth 20000 in
theorem ggX4_keepInto_X2_add : GoodIn wsX4_keepInto wsX2_add := goodIn_r _ [19, 8, 9, 10, 11, 12, 13, 14, 6, 15, 30, 31, 32, 33] (by decide +kernel) (by decide +kernel)
set_option maxRecDepth 20000 in
theorem gX4_keepInto_X2_add : GoodIn wsX4_keepInto (wsV RX4 62 RX2 yX2_add wsX2_add) := goodIn_app (goodIn_of _ (by decide +kernel)) ggX4_keepInto_X2_add
theorem dX4_keepInto_0 : decode cX4_keepInto 0 = .ok (.aload_n 1, 1) := by decide +kernel
theorem dX4_keepInto_1 : decode cX4_keepInto 1 = .ok (.aload_n 0, 1) := by decide +kernel
theorem dX4_keepInto_2 : decode cX4_keepInto 2 = .ok (.getfield 21, 3) := by decide +kernel
theorem dX4_keepInto_5 : decode cX4_keepInto 5 = .ok (.invokevirtual 66, 3) := by decide +kernel
theorem dX4_keepInto_8 : decode cX4_keepInto 8 = .ok (.aload_n 1, 1) := by decide +kernel
theorem dX4_keepInto_9 : decode cX4_keepInto 9 = .ok (.aload_n 0, 1) := by decide +kernel
theorem dX4_keepInto_10 : decode cX4_keepInto 10 = .ok (.getfield 27, 3) := by decide +kernel
theorem dX4_keepInto_13 : decode cX4_keepInto 13 = .ok (.invokevirtual 62, 3) := by decide +kernel
theorem dX4_keepInto_16 : decode cX4_keepInto 16 = .ok (.return_, 1) := by decide +kernel
set_option maxRecDepth 20000 in
theorem ggX4_tellLitre_X3_load : GoodIn wsX4_tellLitre wsX3_load := goodIn_r _ [10, 11, 12, 13, 14, 15, 16, 17, 9, 18, 19, 20, 21, 22, 23, 24, 25, 26, 27, 28, 29, 47, 48, 49, 50, 51, 52, 53, 54, 55, 56] (by decide +kernel) (by decide +kernel)
set_option maxRecDepth 20000 in
theorem gX4_tellLitre_X3_load : GoodIn wsX4_tellLitre (wsV RX4 121 RX3 yX3_load wsX3_load) := goodIn_app (goodIn_of _ (by decide +kernel)) ggX4_tellLitre_X3_load
set_option maxRecDepth 20000 in
theorem ggX4_tellLitre_X2_tell : GoodIn wsX4_tellLitre wsX2_tell := goodIn_r _ [33, 26, 27, 28, 29, 34, 35, 36, 53, 54, 55, 56] (by decide +kernel) (by decide +kernel)
set_option maxRecDepth 20000 in
theorem gX4_tellLitre_X2_tell : GoodIn wsX4_tellLitre (wsV RX4 75 RX2 yX2_tell wsX2_tell) := goodIn_app (goodIn_of _ (by decide +kernel)) ggX4_tellLitre_X2_tell
theorem dX4_tellLitre_0 : decode cX4_tellLitre 0 = .ok (.iload_n 2, 1) := by decide +kernel
theorem dX4_tellLitre_1 : decode cX4_tellLitre 1 = .ok (.iconst 4, 1) := by decide +kernel
theorem dX4_tellLitre_2 : decode cX4_tellLitre 2 = .ok (.if_icmp .ne 29, 3) := by decide +kernel
theorem dX4_tellLitre_5 : decode cX4_tellLitre 5 = .ok (.iload_n 1, 1) := by decide +kernel
theorem dX4_tellLitre_6 : decode cX4_tellLitre 6 = .ok (.aload_n 0, 1) := by decide +kernel
theorem dX4_tellLitre_7 : decode cX4_tellLitre 7 = .ok (.getfield 46, 3) := by decide +kernel
theorem dX4_tellLitre_10 : decode cX4_tellLitre 10 = .ok (.if_icmp .ge 7, 3) := by decide +kernel
theorem dX4_tellLitre_13 : decode cX4_tellLitre 13 = .ok (.iconst 0, 1) := by decide +kernel
theorem dX4_tellLitre_14 : decode cX4_tellLitre 14 = .ok (.goto 16, 3) := by decide +kernel
theorem dX4_tellLitre_17 : decode cX4_tellLitre 17 = .ok (.iload_n 1, 1) := by decide +kernel
theorem dX4_tellLitre_18 : decode cX4_tellLitre 18 = .ok (.aload_n 0, 1) := by decide +kernel
theorem dX4_tellLitre_19 : decode cX4_tellLitre 19 = .ok (.getfield 50, 3) := by decide +kernel
theorem dX4_tellLitre_22 : decode cX4_tellLitre 22 = .ok (.if_icmp .ge 7, 3) := by decide +kernel
theorem dX4_tellLitre_25 : decode cX4_tellLitre 25 = .ok (.iconst 1, 1) := by decide +kernel
theorem dX4_tellLitre_26 : decode cX4_tellLitre 26 = .ok (.goto 4, 3) := by decide +kernel
theorem dX4_tellLitre_29 : decode cX4_tellLitre 29 = .ok (.iconst 2, 1) := by decide +kernel
theorem dX4_tellLitre_30 : decode cX4_tellLitre 30 = .ok (.ireturn, 1) := by decide +kernel
theorem dX4_tellLitre_31 : decode cX4_tellLitre 31 = .ok (.iload_n 2, 1) := by decide +kernel
theorem dX4_tellLitre_32 : decode cX4_tellLitre 32 = .ok (.ifCond .ne 24, 3) := by decide +kernel
theorem dX4_tellLitre_35 : decode cX4_tellLitre 35 = .ok (.iload_n 1, 1) := by decide +kernel
theorem dX4_tellLitre_36 : decode cX4_tellLitre 36 = .ok (.ifCond .lt 18, 3) := by decide +kernel
theorem dX4_tellLitre_39 : decode cX4_tellLitre 39 = .ok (.iload_n 1, 1) := by decide +kernel
theorem dX4_tellLitre_40 : decode cX4_tellLitre 40 = .ok (.bipush 40, 2) := by decide +kernel
theorem dX4_tellLitre_42 : decode cX4_tellLitre 42 = .ok (.if_icmp .ge 12, 3) := by decide +kernel
theorem dX4_tellLitre_45 : decode cX4_tellLitre 45 = .ok (.aload_n 0, 1) := by decide +kernel
theorem dX4_tellLitre_46 : decode cX4_tellLitre 46 = .ok (.getfield 42, 3) := by decide +kernel
theorem dX4_tellLitre_49 : decode cX4_tellLitre 49 = .ok (.iload_n 1, 1) := by decide +kernel
theorem dX4_tellLitre_50 : decode cX4_tellLitre 50 = .ok (.iaload, 1) := by decide +kernel
theorem dX4_tellLitre_51 : decode cX4_tellLitre 51 = .ok (.goto 4, 3) := by decide +kernel
theorem dX4_tellLitre_54 : decode cX4_tellLitre 54 = .ok (.iconst 0, 1) := by decide +kernel
theorem dX4_tellLitre_55 : decode cX4_tellLitre 55 = .ok (.ireturn, 1) := by decide +kernel
theorem dX4_tellLitre_56 : decode cX4_tellLitre 56 = .ok (.aload_n 0, 1) := by decide +kernel
theorem dX4_tellLitre_57 : decode cX4_tellLitre 57 = .ok (.getfield 38, 3) := by decide +kernel
theorem dX4_tellLitre_60 : decode cX4_tellLitre 60 = .ok (.iload_n 1, 1) := by decide +kernel
theorem dX4_tellLitre_61 : decode cX4_tellLitre 61 = .ok (.aload_n 0, 1) := by decide +kernel
theorem dX4_tellLitre_62 : decode cX4_tellLitre 62 = .ok (.getfield 30, 3) := by decide +kernel
theorem dX4_tellLitre_65 : decode cX4_tellLitre 65 = .ok (.invokevirtual 121, 3) := by decide +kernel
theorem dX4_tellLitre_68 : decode cX4_tellLitre 68 = .ok (.aload_n 0, 1) := by decide +kernel
theorem dX4_tellLitre_69 : decode cX4_tellLitre 69 = .ok (.getfield 30, 3) := by decide +kernel
theorem dX4_tellLitre_72 : decode cX4_tellLitre 72 = .ok (.iload_n 2, 1) := by decide +kernel
theorem dX4_tellLitre_73 : decode cX4_tellLitre 73 = .ok (.invokevirtual 75, 3) := by decide +kernel
theorem dX4_tellLitre_76 : decode cX4_tellLitre 76 = .ok (.ireturn, 1) := by decide +kernel
theorem dX4_liquidOf_0 : decode cX4_liquidOf 0 = .ok (.iload_n 1, 1) := by decide +kernel
theorem dX4_liquidOf_1 : decode cX4_liquidOf 1 = .ok (.tableswitch 51 0 3 #[31, 36, 41, 46], 31) := by decide +kernel
theorem dX4_liquidOf_32 : decode cX4_liquidOf 32 = .ok (.aload_n 0, 1) := by decide +kernel
theorem dX4_liquidOf_33 : decode cX4_liquidOf 33 = .ok (.getfield 12, 3) := by decide +kernel
theorem dX4_liquidOf_36 : decode cX4_liquidOf 36 = .ok (.areturn, 1) := by decide +kernel
theorem dX4_liquidOf_37 : decode cX4_liquidOf 37 = .ok (.aload_n 0, 1) := by decide +kernel
theorem dX4_liquidOf_38 : decode cX4_liquidOf 38 = .ok (.getfield 21, 3) := by decide +kernel
theorem dX4_liquidOf_41 : decode cX4_liquidOf 41 = .ok (.areturn, 1) := by decide +kernel
theorem dX4_liquidOf_42 : decode cX4_liquidOf 42 = .ok (.aload_n 0, 1) := by decide +kernel
theorem dX4_liquidOf_43 : decode cX4_liquidOf 43 = .ok (.getfield 24, 3) := by decide +kernel
theorem dX4_liquidOf_46 : decode cX4_liquidOf 46 = .ok (.areturn, 1) := by decide +kernel
theorem dX4_liquidOf_47 : decode cX4_liquidOf 47 = .ok (.aload_n 0, 1) := by decide +kernel
theorem dX4_liquidOf_48 : decode cX4_liquidOf 48 = .ok (.getfield 27, 3) := by decide +kernel
theorem dX4_liquidOf_51 : decode cX4_liquidOf 51 = .ok (.areturn, 1) := by decide +kernel
theorem dX4_liquidOf_52 : decode cX4_liquidOf 52 = .ok (.aload_n 0, 1) := by decide +kernel
theorem dX4_liquidOf_53 : decode cX4_liquidOf 53 = .ok (.getfield 18, 3) := by decide +kernel
theorem dX4_liquidOf_56 : decode cX4_liquidOf 56 = .ok (.areturn, 1) := by decide +kernel
set_option maxRecDepth 20000 in
theorem ggX5_init_X2_init : GoodIn wsX5_init wsX2_init := goodIn_r _ [23, 24, 2, 3, 25, 26, 27, 28, 50, 51, 52, 53] (by decide +kernel) (by decide +kernel)
set_option maxRecDepth 20000 in
theorem gX5_init_X2_init_n37 : GoodIn wsX5_init (wsX2_init) := ggX5_init_X2_init
set_option maxRecDepth 20000 in
theorem ggX5_init_X3_init : GoodIn wsX5_init wsX3_init := goodIn_r _ [31, 32, 2, 3, 33, 34, 35, 36, 37, 38, 39, 40, 41, 42, 43, 54, 55, 56, 57, 58, 59] (by decide +kernel) (by decide +kernel)
set_option maxRecDepth 20000 in
theorem gX5_init_X3_init : GoodIn wsX5_init (wsX3_init) := ggX5_init_X3_init
theorem dX5_init_0 : decode cX5_init 0 = .ok (.aload_n 0, 1) := by decide +kernel
theorem dX5_init_1 : decode cX5_init 1 = .ok (.invokespecial 3, 3) := by decide +kernel
theorem dX5_init_4 : decode cX5_init 4 = .ok (.aload_n 0, 1) := by decide +kernel
theorem dX5_init_5 : decode cX5_init 5 = .ok (.getstatic 9, 3) := by decide +kernel
theorem dX5_init_8 : decode cX5_init 8 = .ok (.invokevirtual 13, 3) := by decide +kernel
theorem dX5_init_11 : decode cX5_init 11 = .ok (.checkcast 14, 3) := by decide +kernel
theorem dX5_init_14 : decode cX5_init 14 = .ok (.putfield 18, 3) := by decide +kernel
theorem dX5_init_17 : decode cX5_init 17 = .ok (.aload_n 0, 1) := by decide +kernel
theorem dX5_init_18 : decode cX5_init 18 = .ok (.getstatic 23, 3) := by decide +kernel
theorem dX5_init_21 : decode cX5_init 21 = .ok (.invokevirtual 13, 3) := by decide +kernel
theorem dX5_init_24 : decode cX5_init 24 = .ok (.checkcast 14, 3) := by decide +kernel
theorem dX5_init_27 : decode cX5_init 27 = .ok (.putfield 26, 3) := by decide +kernel
theorem dX5_init_30 : decode cX5_init 30 = .ok (.aload_n 0, 1) := by decide +kernel
theorem dX5_init_31 : decode cX5_init 31 = .ok (.getstatic 29, 3) := by decide +kernel
theorem dX5_init_34 : decode cX5_init 34 = .ok (.invokevirtual 13, 3) := by decide +kernel
theorem dX5_init_37 : decode cX5_init 37 = .ok (.checkcast 14, 3) := by decide +kernel
theorem dX5_init_40 : decode cX5_init 40 = .ok (.putfield 32, 3) := by decide +kernel
theorem dX5_init_43 : decode cX5_init 43 = .ok (.aload_n 0, 1) := by decide +kernel
theorem dX5_init_44 : decode cX5_init 44 = .ok (.new 35, 3) := by decide +kernel
theorem dX5_init_47 : decode cX5_init 47 = .ok (.dup, 1) := by decide +kernel
theorem dX5_init_48 : decode cX5_init 48 = .ok (.invokespecial 37, 3) := by decide +kernel
theorem dX5_init_51 : decode cX5_init 51 = .ok (.putfield 38, 3) := by decide +kernel
theorem dX5_init_54 : decode cX5_init 54 = .ok (.aload_n 0, 1) := by decide +kernel
theorem dX5_init_55 : decode cX5_init 55 = .ok (.new 42, 3) := by decide +kernel
theorem dX5_init_58 : decode cX5_init 58 = .ok (.dup, 1) := by decide +kernel
theorem dX5_init_59 : decode cX5_init 59 = .ok (.bipush 12, 2) := by decide +kernel
theorem dX5_init_61 : decode cX5_init 61 = .ok (.invokespecial 44, 3) := by decide +kernel
theorem dX5_init_64 : decode cX5_init 64 = .ok (.putfield 47, 3) := by decide +kernel
theorem dX5_init_67 : decode cX5_init 67 = .ok (.aload_n 0, 1) := by decide +kernel
theorem dX5_init_68 : decode cX5_init 68 = .ok (.iconst 0, 1) := by decide +kernel
theorem dX5_init_69 : decode cX5_init 69 = .ok (.putfield 51, 3) := by decide +kernel
theorem dX5_init_72 : decode cX5_init 72 = .ok (.return_, 1) := by decide +kernel
set_option maxRecDepth 20000 in
theorem ggX5_become_X2_become : GoodIn wsX5_become wsX2_become := goodIn_r _ [15, 16, 17, 18, 19, 20, 21, 22, 14, 23, 49, 50, 51, 52] (by decide +kernel) (by decide +kernel)
set_option maxRecDepth 20000 in
theorem gX5_become_X2_become : GoodIn wsX5_become (wsV RX5 61 RX2 yX2_become wsX2_become) := goodIn_app (goodIn_of _ (by decide +kernel)) ggX5_become_X2_become
set_option maxRecDepth 20000 in
theorem ggX5_become_X3_become : GoodIn wsX5_become wsX3_become := goodIn_r _ [28, 29, 30, 31, 32, 33, 34, 35, 36, 37, 38, 39, 3, 4, 5, 40, 41, 42, 53, 54, 55, 56, 57, 58] (by decide +kernel) (by decide +kernel)
set_option maxRecDepth 20000 in
theorem gX5_become_X3_become : GoodIn wsX5_become (wsV RX5 65 RX3 yX3_become wsX3_become) := goodIn_app (goodIn_of _ (by decide +kernel)) ggX5_become_X3_become
theorem dX5_become_0 : decode cX5_become 0 = .ok (.aload_n 1, 1) := by decide +kernel
theorem dX5_become_1 : decode cX5_become 1 = .ok (.getfield 18, 3) := by decide +kernel
theorem dX5_become_4 : decode cX5_become 4 = .ok (.iconst 0, 1) := by decide +kernel
theorem dX5_become_5 : decode cX5_become 5 = .ok (.aload_n 0, 1) := by decide +kernel
theorem dX5_become_6 : decode cX5_become 6 = .ok (.getfield 18, 3) := by decide +kernel
theorem dX5_become_9 : decode cX5_become 9 = .ok (.iconst 0, 1) := by decide +kernel
theorem dX5_become_10 : decode cX5_become 10 = .ok (.iconst 4, 1) := by decide +kernel
theorem dX5_become_11 : decode cX5_become 11 = .ok (.invokestatic 55, 3) := by decide +kernel
theorem dX5_become_14 : decode cX5_become 14 = .ok (.aload_n 1, 1) := by decide +kernel
theorem dX5_become_15 : decode cX5_become 15 = .ok (.getfield 26, 3) := by decide +kernel
theorem dX5_become_18 : decode cX5_become 18 = .ok (.iconst 0, 1) := by decide +kernel
theorem dX5_become_19 : decode cX5_become 19 = .ok (.aload_n 0, 1) := by decide +kernel
theorem dX5_become_20 : decode cX5_become 20 = .ok (.getfield 26, 3) := by decide +kernel
theorem dX5_become_23 : decode cX5_become 23 = .ok (.iconst 0, 1) := by decide +kernel
theorem dX5_become_24 : decode cX5_become 24 = .ok (.bipush 11, 2) := by decide +kernel
theorem dX5_become_26 : decode cX5_become 26 = .ok (.invokestatic 55, 3) := by decide +kernel
theorem dX5_become_29 : decode cX5_become 29 = .ok (.aload_n 1, 1) := by decide +kernel
theorem dX5_become_30 : decode cX5_become 30 = .ok (.getfield 32, 3) := by decide +kernel
theorem dX5_become_33 : decode cX5_become 33 = .ok (.iconst 0, 1) := by decide +kernel
theorem dX5_become_34 : decode cX5_become 34 = .ok (.aload_n 0, 1) := by decide +kernel
theorem dX5_become_35 : decode cX5_become 35 = .ok (.getfield 32, 3) := by decide +kernel
theorem dX5_become_38 : decode cX5_become 38 = .ok (.iconst 0, 1) := by decide +kernel
theorem dX5_become_39 : decode cX5_become 39 = .ok (.bipush 6, 2) := by decide +kernel
theorem dX5_become_41 : decode cX5_become 41 = .ok (.invokestatic 55, 3) := by decide +kernel
theorem dX5_become_44 : decode cX5_become 44 = .ok (.aload_n 0, 1) := by decide +kernel
theorem dX5_become_45 : decode cX5_become 45 = .ok (.getfield 38, 3) := by decide +kernel
theorem dX5_become_48 : decode cX5_become 48 = .ok (.aload_n 1, 1) := by decide +kernel
theorem dX5_become_49 : decode cX5_become 49 = .ok (.getfield 38, 3) := by decide +kernel
theorem dX5_become_52 : decode cX5_become 52 = .ok (.invokevirtual 61, 3) := by decide +kernel
theorem dX5_become_55 : decode cX5_become 55 = .ok (.aload_n 0, 1) := by decide +kernel
theorem dX5_become_56 : decode cX5_become 56 = .ok (.getfield 47, 3) := by decide +kernel
theorem dX5_become_59 : decode cX5_become 59 = .ok (.aload_n 1, 1) := by decide +kernel
theorem dX5_become_60 : decode cX5_become 60 = .ok (.getfield 47, 3) := by decide +kernel
theorem dX5_become_63 : decode cX5_become 63 = .ok (.invokevirtual 65, 3) := by decide +kernel
theorem dX5_become_66 : decode cX5_become 66 = .ok (.aload_n 0, 1) := by decide +kernel
theorem dX5_become_67 : decode cX5_become 67 = .ok (.aload_n 1, 1) := by decide +kernel
theorem dX5_become_68 : decode cX5_become 68 = .ok (.getfield 51, 3) := by decide +kernel
theorem dX5_become_71 : decode cX5_become 71 = .ok (.putfield 51, 3) := by decide +kernel
theorem dX5_become_74 : decode cX5_become 74 = .ok (.return_, 1) := by decide +kernel
theorem dX5_overOf_0 : decode cX5_overOf 0 = .ok (.iconst 0, 1) := by decide +kernel
theorem dX5_overOf_1 : decode cX5_overOf 1 = .ok (.iload_n 1, 1) := by decide +kernel
theorem dX5_overOf_2 : decode cX5_overOf 2 = .ok (.sipush 1000, 3) := by decide +kernel
theorem dX5_overOf_5 : decode cX5_overOf 5 = .ok (.invokestatic 68, 3) := by decide +kernel
theorem dX5_overOf_8 : decode cX5_overOf 8 = .ok (.invokestatic 74, 3) := by decide +kernel
theorem dX5_overOf_11 : decode cX5_overOf 11 = .ok (.istore_n 2, 1) := by decide +kernel
theorem dX5_overOf_12 : decode cX5_overOf 12 = .ok (.iload_n 2, 1) := by decide +kernel
theorem dX5_overOf_13 : decode cX5_overOf 13 = .ok (.bipush 100, 2) := by decide +kernel
theorem dX5_overOf_15 : decode cX5_overOf 15 = .ok (.idiv, 1) := by decide +kernel
theorem dX5_overOf_16 : decode cX5_overOf 16 = .ok (.istore_n 3, 1) := by decide +kernel
theorem dX5_overOf_17 : decode cX5_overOf 17 = .ok (.iload_n 3, 1) := by decide +kernel
theorem dX5_overOf_18 : decode cX5_overOf 18 = .ok (.bipush 10, 2) := by decide +kernel
theorem dX5_overOf_20 : decode cX5_overOf 20 = .ok (.if_icmp .lt 11, 3) := by decide +kernel
theorem dX5_overOf_23 : decode cX5_overOf 23 = .ok (.aload_n 0, 1) := by decide +kernel
theorem dX5_overOf_24 : decode cX5_overOf 24 = .ok (.getfield 26, 3) := by decide +kernel
theorem dX5_overOf_27 : decode cX5_overOf 27 = .ok (.bipush 10, 2) := by decide +kernel
theorem dX5_overOf_29 : decode cX5_overOf 29 = .ok (.iaload, 1) := by decide +kernel
theorem dX5_overOf_30 : decode cX5_overOf 30 = .ok (.ireturn, 1) := by decide +kernel
theorem dX5_overOf_31 : decode cX5_overOf 31 = .ok (.aload_n 0, 1) := by decide +kernel
theorem dX5_overOf_32 : decode cX5_overOf 32 = .ok (.getfield 26, 3) := by decide +kernel
theorem dX5_overOf_35 : decode cX5_overOf 35 = .ok (.iload_n 3, 1) := by decide +kernel
theorem dX5_overOf_36 : decode cX5_overOf 36 = .ok (.iaload, 1) := by decide +kernel
theorem dX5_overOf_37 : decode cX5_overOf 37 = .ok (.aload_n 0, 1) := by decide +kernel
theorem dX5_overOf_38 : decode cX5_overOf 38 = .ok (.getfield 26, 3) := by decide +kernel
theorem dX5_overOf_41 : decode cX5_overOf 41 = .ok (.iload_n 3, 1) := by decide +kernel
theorem dX5_overOf_42 : decode cX5_overOf 42 = .ok (.iconst 1, 1) := by decide +kernel
theorem dX5_overOf_43 : decode cX5_overOf 43 = .ok (.iadd, 1) := by decide +kernel
theorem dX5_overOf_44 : decode cX5_overOf 44 = .ok (.iaload, 1) := by decide +kernel
theorem dX5_overOf_45 : decode cX5_overOf 45 = .ok (.aload_n 0, 1) := by decide +kernel
theorem dX5_overOf_46 : decode cX5_overOf 46 = .ok (.getfield 26, 3) := by decide +kernel
theorem dX5_overOf_49 : decode cX5_overOf 49 = .ok (.iload_n 3, 1) := by decide +kernel
theorem dX5_overOf_50 : decode cX5_overOf 50 = .ok (.iaload, 1) := by decide +kernel
theorem dX5_overOf_51 : decode cX5_overOf 51 = .ok (.isub, 1) := by decide +kernel
theorem dX5_overOf_52 : decode cX5_overOf 52 = .ok (.iload_n 2, 1) := by decide +kernel
theorem dX5_overOf_53 : decode cX5_overOf 53 = .ok (.bipush 100, 2) := by decide +kernel
theorem dX5_overOf_55 : decode cX5_overOf 55 = .ok (.irem, 1) := by decide +kernel
theorem dX5_overOf_56 : decode cX5_overOf 56 = .ok (.imul, 1) := by decide +kernel
theorem dX5_overOf_57 : decode cX5_overOf 57 = .ok (.bipush 100, 2) := by decide +kernel
theorem dX5_overOf_59 : decode cX5_overOf 59 = .ok (.idiv, 1) := by decide +kernel
theorem dX5_overOf_60 : decode cX5_overOf 60 = .ok (.iadd, 1) := by decide +kernel
theorem dX5_overOf_61 : decode cX5_overOf 61 = .ok (.ireturn, 1) := by decide +kernel
