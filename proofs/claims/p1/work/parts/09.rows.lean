theorem dX1_init_0 : decode cX1_init 0 = .ok (.aload_n 0, 1) := by decide +kernel
theorem dX1_init_1 : decode cX1_init 1 = .ok (.invokespecial 3, 3) := by decide +kernel
theorem dX1_init_4 : decode cX1_init 4 = .ok (.aload_n 0, 1) := by decide +kernel
theorem dX1_init_5 : decode cX1_init 5 = .ok (.sipush 6000, 3) := by decide +kernel
theorem dX1_init_8 : decode cX1_init 8 = .ok (.newarray .int, 2) := by decide +kernel
theorem dX1_init_10 : decode cX1_init 10 = .ok (.putfield 9, 3) := by decide +kernel
theorem dX1_init_13 : decode cX1_init 13 = .ok (.aload_n 0, 1) := by decide +kernel
theorem dX1_init_14 : decode cX1_init 14 = .ok (.iconst 0, 1) := by decide +kernel
theorem dX1_init_15 : decode cX1_init 15 = .ok (.putfield 15, 3) := by decide +kernel
theorem dX1_init_18 : decode cX1_init 18 = .ok (.return_, 1) := by decide +kernel
theorem dX2_init_0 : decode cX2_init 0 = .ok (.aload_n 0, 1) := by decide +kernel
theorem dX2_init_1 : decode cX2_init 1 = .ok (.invokespecial 3, 3) := by decide +kernel
theorem dX2_init_4 : decode cX2_init 4 = .ok (.return_, 1) := by decide +kernel
set_option maxRecDepth 20000 in
theorem ggX3_init_X2_init : GoodIn wsX3_init wsX2_init := goodIn_r _ [15, 16, 2, 3] (by decide +kernel) (by decide +kernel)
set_option maxRecDepth 20000 in
theorem gX3_init_X2_init_n29 : GoodIn wsX3_init (wsX2_init) := ggX3_init_X2_init
theorem dX3_init_0 : decode cX3_init 0 = .ok (.aload_n 0, 1) := by decide +kernel
theorem dX3_init_1 : decode cX3_init 1 = .ok (.invokespecial 3, 3) := by decide +kernel
theorem dX3_init_4 : decode cX3_init 4 = .ok (.aload_n 0, 1) := by decide +kernel
theorem dX3_init_5 : decode cX3_init 5 = .ok (.sipush 2000, 3) := by decide +kernel
theorem dX3_init_8 : decode cX3_init 8 = .ok (.newarray .int, 2) := by decide +kernel
theorem dX3_init_10 : decode cX3_init 10 = .ok (.putfield 9, 3) := by decide +kernel
theorem dX3_init_13 : decode cX3_init 13 = .ok (.aload_n 0, 1) := by decide +kernel
theorem dX3_init_14 : decode cX3_init 14 = .ok (.sipush 2000, 3) := by decide +kernel
theorem dX3_init_17 : decode cX3_init 17 = .ok (.newarray .int, 2) := by decide +kernel
theorem dX3_init_19 : decode cX3_init 19 = .ok (.putfield 15, 3) := by decide +kernel
theorem dX3_init_22 : decode cX3_init 22 = .ok (.aload_n 0, 1) := by decide +kernel
theorem dX3_init_23 : decode cX3_init 23 = .ok (.sipush 2000, 3) := by decide +kernel
theorem dX3_init_26 : decode cX3_init 26 = .ok (.newarray .int, 2) := by decide +kernel
theorem dX3_init_28 : decode cX3_init 28 = .ok (.putfield 18, 3) := by decide +kernel
theorem dX3_init_31 : decode cX3_init 31 = .ok (.aload_n 0, 1) := by decide +kernel
theorem dX3_init_32 : decode cX3_init 32 = .ok (.sipush 2000, 3) := by decide +kernel
theorem dX3_init_35 : decode cX3_init 35 = .ok (.newarray .int, 2) := by decide +kernel
theorem dX3_init_37 : decode cX3_init 37 = .ok (.putfield 21, 3) := by decide +kernel
theorem dX3_init_40 : decode cX3_init 40 = .ok (.aload_n 0, 1) := by decide +kernel
theorem dX3_init_41 : decode cX3_init 41 = .ok (.sipush 2000, 3) := by decide +kernel
theorem dX3_init_44 : decode cX3_init 44 = .ok (.newarray .int, 2) := by decide +kernel
theorem dX3_init_46 : decode cX3_init 46 = .ok (.putfield 24, 3) := by decide +kernel
theorem dX3_init_49 : decode cX3_init 49 = .ok (.aload_n 0, 1) := by decide +kernel
theorem dX3_init_50 : decode cX3_init 50 = .ok (.new 27, 3) := by decide +kernel
theorem dX3_init_53 : decode cX3_init 53 = .ok (.dup, 1) := by decide +kernel
theorem dX3_init_54 : decode cX3_init 54 = .ok (.invokespecial 29, 3) := by decide +kernel
theorem dX3_init_57 : decode cX3_init 57 = .ok (.putfield 30, 3) := by decide +kernel
theorem dX3_init_60 : decode cX3_init 60 = .ok (.return_, 1) := by decide +kernel
theorem dX3_begin_0 : decode cX3_begin 0 = .ok (.aload_n 0, 1) := by decide +kernel
theorem dX3_begin_1 : decode cX3_begin 1 = .ok (.iload_n 1, 1) := by decide +kernel
theorem dX3_begin_2 : decode cX3_begin 2 = .ok (.putfield 34, 3) := by decide +kernel
theorem dX3_begin_5 : decode cX3_begin 5 = .ok (.aload_n 0, 1) := by decide +kernel
theorem dX3_begin_6 : decode cX3_begin 6 = .ok (.iload_n 2, 1) := by decide +kernel
theorem dX3_begin_7 : decode cX3_begin 7 = .ok (.putfield 38, 3) := by decide +kernel
theorem dX3_begin_10 : decode cX3_begin 10 = .ok (.aload_n 0, 1) := by decide +kernel
theorem dX3_begin_11 : decode cX3_begin 11 = .ok (.iconst 0, 1) := by decide +kernel
theorem dX3_begin_12 : decode cX3_begin 12 = .ok (.putfield 41, 3) := by decide +kernel
theorem dX3_begin_15 : decode cX3_begin 15 = .ok (.aload_n 0, 1) := by decide +kernel
theorem dX3_begin_16 : decode cX3_begin 16 = .ok (.iconst 0, 1) := by decide +kernel
theorem dX3_begin_17 : decode cX3_begin 17 = .ok (.putfield 44, 3) := by decide +kernel
theorem dX3_begin_20 : decode cX3_begin 20 = .ok (.aload_n 0, 1) := by decide +kernel
theorem dX3_begin_21 : decode cX3_begin 21 = .ok (.iconst 0, 1) := by decide +kernel
theorem dX3_begin_22 : decode cX3_begin 22 = .ok (.putfield 47, 3) := by decide +kernel
theorem dX3_begin_25 : decode cX3_begin 25 = .ok (.aload_n 0, 1) := by decide +kernel
theorem dX3_begin_26 : decode cX3_begin 26 = .ok (.iconst 0, 1) := by decide +kernel
theorem dX3_begin_27 : decode cX3_begin 27 = .ok (.putfield 50, 3) := by decide +kernel
theorem dX3_begin_30 : decode cX3_begin 30 = .ok (.aload_n 0, 1) := by decide +kernel
theorem dX3_begin_31 : decode cX3_begin 31 = .ok (.iconst (-1), 1) := by decide +kernel
theorem dX3_begin_32 : decode cX3_begin 32 = .ok (.putfield 53, 3) := by decide +kernel
theorem dX3_begin_35 : decode cX3_begin 35 = .ok (.aload_n 0, 1) := by decide +kernel
theorem dX3_begin_36 : decode cX3_begin 36 = .ok (.iconst (-1), 1) := by decide +kernel
theorem dX3_begin_37 : decode cX3_begin 37 = .ok (.putfield 56, 3) := by decide +kernel
theorem dX3_begin_40 : decode cX3_begin 40 = .ok (.aload_n 0, 1) := by decide +kernel
theorem dX3_begin_41 : decode cX3_begin 41 = .ok (.iconst 0, 1) := by decide +kernel
theorem dX3_begin_42 : decode cX3_begin 42 = .ok (.putfield 59, 3) := by decide +kernel
theorem dX3_begin_45 : decode cX3_begin 45 = .ok (.aload_n 0, 1) := by decide +kernel
theorem dX3_begin_46 : decode cX3_begin 46 = .ok (.iconst 0, 1) := by decide +kernel
theorem dX3_begin_47 : decode cX3_begin 47 = .ok (.putfield 63, 3) := by decide +kernel
theorem dX3_begin_50 : decode cX3_begin 50 = .ok (.return_, 1) := by decide +kernel
set_option maxRecDepth 20000 in
theorem ggX4_init_X1_init : GoodIn wsX4_init wsX1_init := goodIn_r _ [16, 17, 2, 3, 18, 19, 20, 27, 28] (by decide +kernel) (by decide +kernel)
set_option maxRecDepth 20000 in
theorem gX4_init_X1_init : GoodIn wsX4_init (wsX1_init) := ggX4_init_X1_init
set_option maxRecDepth 20000 in
theorem ggX4_init_X2_init : GoodIn wsX4_init wsX2_init := goodIn_r _ [22, 23, 2, 3] (by decide +kernel) (by decide +kernel)
set_option maxRecDepth 20000 in
theorem gX4_init_X2_init_n24 : GoodIn wsX4_init (wsX2_init) := ggX4_init_X2_init
theorem dX4_init_0 : decode cX4_init 0 = .ok (.aload_n 0, 1) := by decide +kernel
theorem dX4_init_1 : decode cX4_init 1 = .ok (.invokespecial 3, 3) := by decide +kernel
theorem dX4_init_4 : decode cX4_init 4 = .ok (.aload_n 0, 1) := by decide +kernel
theorem dX4_init_5 : decode cX4_init 5 = .ok (.iconst 4, 1) := by decide +kernel
theorem dX4_init_6 : decode cX4_init 6 = .ok (.anewarray 9, 3) := by decide +kernel
theorem dX4_init_9 : decode cX4_init 9 = .ok (.putfield 11, 3) := by decide +kernel
theorem dX4_init_12 : decode cX4_init 12 = .ok (.aload_n 0, 1) := by decide +kernel
theorem dX4_init_13 : decode cX4_init 13 = .ok (.new 15, 3) := by decide +kernel
theorem dX4_init_16 : decode cX4_init 16 = .ok (.dup, 1) := by decide +kernel
theorem dX4_init_17 : decode cX4_init 17 = .ok (.invokespecial 17, 3) := by decide +kernel
theorem dX4_init_20 : decode cX4_init 20 = .ok (.putfield 18, 3) := by decide +kernel
theorem dX4_init_23 : decode cX4_init 23 = .ok (.aload_n 0, 1) := by decide +kernel
theorem dX4_init_24 : decode cX4_init 24 = .ok (.new 22, 3) := by decide +kernel
theorem dX4_init_27 : decode cX4_init 27 = .ok (.dup, 1) := by decide +kernel
theorem dX4_init_28 : decode cX4_init 28 = .ok (.invokespecial 24, 3) := by decide +kernel
theorem dX4_init_31 : decode cX4_init 31 = .ok (.putfield 25, 3) := by decide +kernel
theorem dX4_init_34 : decode cX4_init 34 = .ok (.return_, 1) := by decide +kernel
set_option maxRecDepth 20000 in
theorem ggX4_open_X4_isStream : GoodIn wsX4_open wsX4_isStream := goodIn_r _ [9, 1, 43, 44, 45] (by decide +kernel) (by decide +kernel)
set_option maxRecDepth 20000 in
theorem gX4_open_X4_isStream : GoodIn wsX4_open (wsV RX4 29 RX4 yX4_isStream wsX4_isStream) := goodIn_app (goodIn_of _ (by decide +kernel)) ggX4_open_X4_isStream
set_option maxRecDepth 20000 in
theorem ggX4_open_X3_init : GoodIn wsX4_open wsX3_init := goodIn_r _ [12, 13, 14, 15, 16, 17, 18, 19, 20, 21, 22, 23, 24, 25, 26, 27, 28, 46, 47, 48, 49, 50, 51, 52, 53, 54, 55, 56, 57, 58, 59, 60, 61, 62, 63, 64] (by decide +kernel) (by decide +kernel)
set_option maxRecDepth 20000 in
theorem gX4_open_X3_init : GoodIn wsX4_open (wsX3_init) := ggX4_open_X3_init
set_option maxRecDepth 20000 in
theorem ggX4_open_X3_begin : GoodIn wsX4_open wsX3_begin := goodIn_r _ [32, 33, 34, 35, 36, 37, 38, 39, 40, 41, 42, 46, 47, 48, 49, 50, 51, 52, 53, 54, 55, 56, 57, 58, 59, 60, 61] (by decide +kernel) (by decide +kernel)
set_option maxRecDepth 20000 in
theorem gX4_open_X3_begin : GoodIn wsX4_open (wsV RX4 34 RX3 yX3_begin wsX3_begin) := goodIn_app (goodIn_of _ (by decide +kernel)) ggX4_open_X3_begin
theorem dX4_open_0 : decode cX4_open 0 = .ok (.aload_n 0, 1) := by decide +kernel
theorem dX4_open_1 : decode cX4_open 1 = .ok (.iload_n 1, 1) := by decide +kernel
theorem dX4_open_2 : decode cX4_open 2 = .ok (.invokevirtual 29, 3) := by decide +kernel
theorem dX4_open_5 : decode cX4_open 5 = .ok (.ifCond .eq 13, 3) := by decide +kernel
theorem dX4_open_8 : decode cX4_open 8 = .ok (.iload_n 2, 1) := by decide +kernel
theorem dX4_open_9 : decode cX4_open 9 = .ok (.ifCond .lt 9, 3) := by decide +kernel
theorem dX4_open_12 : decode cX4_open 12 = .ok (.iload_n 2, 1) := by decide +kernel
theorem dX4_open_13 : decode cX4_open 13 = .ok (.bipush 6, 2) := by decide +kernel
theorem dX4_open_15 : decode cX4_open 15 = .ok (.if_icmp .le 5, 3) := by decide +kernel
theorem dX4_open_18 : decode cX4_open 18 = .ok (.iconst 0, 1) := by decide +kernel
theorem dX4_open_19 : decode cX4_open 19 = .ok (.ireturn, 1) := by decide +kernel
theorem dX4_open_20 : decode cX4_open 20 = .ok (.iload_n 3, 1) := by decide +kernel
theorem dX4_open_21 : decode cX4_open 21 = .ok (.ifCond .lt 8, 3) := by decide +kernel
theorem dX4_open_24 : decode cX4_open 24 = .ok (.iload_n 3, 1) := by decide +kernel
theorem dX4_open_25 : decode cX4_open 25 = .ok (.iconst 2, 1) := by decide +kernel
theorem dX4_open_26 : decode cX4_open 26 = .ok (.if_icmp .le 5, 3) := by decide +kernel
theorem dX4_open_29 : decode cX4_open 29 = .ok (.iconst 0, 1) := by decide +kernel
theorem dX4_open_30 : decode cX4_open 30 = .ok (.ireturn, 1) := by decide +kernel
theorem dX4_open_31 : decode cX4_open 31 = .ok (.aload_n 0, 1) := by decide +kernel
theorem dX4_open_32 : decode cX4_open 32 = .ok (.getfield 11, 3) := by decide +kernel
theorem dX4_open_35 : decode cX4_open 35 = .ok (.iload_n 1, 1) := by decide +kernel
theorem dX4_open_36 : decode cX4_open 36 = .ok (.aaload, 1) := by decide +kernel
theorem dX4_open_37 : decode cX4_open 37 = .ok (.astore 4, 2) := by decide +kernel
theorem dX4_open_39 : decode cX4_open 39 = .ok (.aload 4, 2) := by decide +kernel
theorem dX4_open_41 : decode cX4_open 41 = .ok (.ifnonnull 20, 3) := by decide +kernel
theorem dX4_open_44 : decode cX4_open 44 = .ok (.new 9, 3) := by decide +kernel
theorem dX4_open_47 : decode cX4_open 47 = .ok (.dup, 1) := by decide +kernel
theorem dX4_open_48 : decode cX4_open 48 = .ok (.invokespecial 33, 3) := by decide +kernel
theorem dX4_open_51 : decode cX4_open 51 = .ok (.astore 4, 2) := by decide +kernel
theorem dX4_open_53 : decode cX4_open 53 = .ok (.aload_n 0, 1) := by decide +kernel
theorem dX4_open_54 : decode cX4_open 54 = .ok (.getfield 11, 3) := by decide +kernel
theorem dX4_open_57 : decode cX4_open 57 = .ok (.iload_n 1, 1) := by decide +kernel
theorem dX4_open_58 : decode cX4_open 58 = .ok (.aload 4, 2) := by decide +kernel
theorem dX4_open_60 : decode cX4_open 60 = .ok (.aastore, 1) := by decide +kernel
theorem dX4_open_61 : decode cX4_open 61 = .ok (.aload 4, 2) := by decide +kernel
theorem dX4_open_63 : decode cX4_open 63 = .ok (.iload_n 2, 1) := by decide +kernel
theorem dX4_open_64 : decode cX4_open 64 = .ok (.iload_n 3, 1) := by decide +kernel
theorem dX4_open_65 : decode cX4_open 65 = .ok (.invokevirtual 34, 3) := by decide +kernel
theorem dX4_open_68 : decode cX4_open 68 = .ok (.iconst 1, 1) := by decide +kernel
theorem dX4_open_69 : decode cX4_open 69 = .ok (.ireturn, 1) := by decide +kernel
theorem dX5_init_0 : decode cX5_init 0 = .ok (.aload_n 0, 1) := by decide +kernel
theorem dX5_init_1 : decode cX5_init 1 = .ok (.invokespecial 1, 3) := by decide +kernel
theorem dX5_init_4 : decode cX5_init 4 = .ok (.aload_n 0, 1) := by decide +kernel
theorem dX5_init_5 : decode cX5_init 5 = .ok (.iconst 4, 1) := by decide +kernel
theorem dX5_init_6 : decode cX5_init 6 = .ok (.newarray .boolean, 2) := by decide +kernel
theorem dX5_init_8 : decode cX5_init 8 = .ok (.putfield 7, 3) := by decide +kernel
theorem dX5_init_11 : decode cX5_init 11 = .ok (.aload_n 0, 1) := by decide +kernel
theorem dX5_init_12 : decode cX5_init 12 = .ok (.iconst 4, 1) := by decide +kernel
theorem dX5_init_13 : decode cX5_init 13 = .ok (.newarray .boolean, 2) := by decide +kernel
theorem dX5_init_15 : decode cX5_init 15 = .ok (.putfield 13, 3) := by decide +kernel
theorem dX5_init_18 : decode cX5_init 18 = .ok (.aload_n 0, 1) := by decide +kernel
theorem dX5_init_19 : decode cX5_init 19 = .ok (.iconst 4, 1) := by decide +kernel
theorem dX5_init_20 : decode cX5_init 20 = .ok (.newarray .int, 2) := by decide +kernel
theorem dX5_init_22 : decode cX5_init 22 = .ok (.putfield 16, 3) := by decide +kernel
theorem dX5_init_25 : decode cX5_init 25 = .ok (.aload_n 0, 1) := by decide +kernel
theorem dX5_init_26 : decode cX5_init 26 = .ok (.iconst 4, 1) := by decide +kernel
theorem dX5_init_27 : decode cX5_init 27 = .ok (.newarray .int, 2) := by decide +kernel
theorem dX5_init_29 : decode cX5_init 29 = .ok (.putfield 20, 3) := by decide +kernel
theorem dX5_init_32 : decode cX5_init 32 = .ok (.aload_n 0, 1) := by decide +kernel
theorem dX5_init_33 : decode cX5_init 33 = .ok (.iconst 4, 1) := by decide +kernel
theorem dX5_init_34 : decode cX5_init 34 = .ok (.newarray .int, 2) := by decide +kernel
theorem dX5_init_36 : decode cX5_init 36 = .ok (.putfield 23, 3) := by decide +kernel
theorem dX5_init_39 : decode cX5_init 39 = .ok (.aload_n 0, 1) := by decide +kernel
theorem dX5_init_40 : decode cX5_init 40 = .ok (.sipush 8000, 3) := by decide +kernel
theorem dX5_init_43 : decode cX5_init 43 = .ok (.newarray .int, 2) := by decide +kernel
theorem dX5_init_45 : decode cX5_init 45 = .ok (.putfield 26, 3) := by decide +kernel
theorem dX5_init_48 : decode cX5_init 48 = .ok (.aload_n 0, 1) := by decide +kernel
theorem dX5_init_49 : decode cX5_init 49 = .ok (.iconst 4, 1) := by decide +kernel
theorem dX5_init_50 : decode cX5_init 50 = .ok (.newarray .int, 2) := by decide +kernel
theorem dX5_init_52 : decode cX5_init 52 = .ok (.putfield 29, 3) := by decide +kernel
theorem dX5_init_55 : decode cX5_init 55 = .ok (.aload_n 0, 1) := by decide +kernel
theorem dX5_init_56 : decode cX5_init 56 = .ok (.sipush 8000, 3) := by decide +kernel
theorem dX5_init_59 : decode cX5_init 59 = .ok (.newarray .int, 2) := by decide +kernel
theorem dX5_init_61 : decode cX5_init 61 = .ok (.putfield 32, 3) := by decide +kernel
theorem dX5_init_64 : decode cX5_init 64 = .ok (.aload_n 0, 1) := by decide +kernel
theorem dX5_init_65 : decode cX5_init 65 = .ok (.sipush 8000, 3) := by decide +kernel
theorem dX5_init_68 : decode cX5_init 68 = .ok (.newarray .int, 2) := by decide +kernel
theorem dX5_init_70 : decode cX5_init 70 = .ok (.putfield 35, 3) := by decide +kernel
theorem dX5_init_73 : decode cX5_init 73 = .ok (.aload_n 0, 1) := by decide +kernel
theorem dX5_init_74 : decode cX5_init 74 = .ok (.sipush 8000, 3) := by decide +kernel
theorem dX5_init_77 : decode cX5_init 77 = .ok (.newarray .int, 2) := by decide +kernel
theorem dX5_init_79 : decode cX5_init 79 = .ok (.putfield 38, 3) := by decide +kernel
theorem dX5_init_82 : decode cX5_init 82 = .ok (.aload_n 0, 1) := by decide +kernel
theorem dX5_init_83 : decode cX5_init 83 = .ok (.sipush 8000, 3) := by decide +kernel
theorem dX5_init_86 : decode cX5_init 86 = .ok (.newarray .boolean, 2) := by decide +kernel
theorem dX5_init_88 : decode cX5_init 88 = .ok (.putfield 41, 3) := by decide +kernel
theorem dX5_init_91 : decode cX5_init 91 = .ok (.aload_n 0, 1) := by decide +kernel
theorem dX5_init_92 : decode cX5_init 92 = .ok (.iconst 4, 1) := by decide +kernel
theorem dX5_init_93 : decode cX5_init 93 = .ok (.newarray .int, 2) := by decide +kernel
theorem dX5_init_95 : decode cX5_init 95 = .ok (.putfield 44, 3) := by decide +kernel
theorem dX5_init_98 : decode cX5_init 98 = .ok (.aload_n 0, 1) := by decide +kernel
theorem dX5_init_99 : decode cX5_init 99 = .ok (.iconst 4, 1) := by decide +kernel
theorem dX5_init_100 : decode cX5_init 100 = .ok (.newarray .int, 2) := by decide +kernel
theorem dX5_init_102 : decode cX5_init 102 = .ok (.putfield 47, 3) := by decide +kernel
theorem dX5_init_105 : decode cX5_init 105 = .ok (.aload_n 0, 1) := by decide +kernel
theorem dX5_init_106 : decode cX5_init 106 = .ok (.iconst 4, 1) := by decide +kernel
theorem dX5_init_107 : decode cX5_init 107 = .ok (.newarray .int, 2) := by decide +kernel
theorem dX5_init_109 : decode cX5_init 109 = .ok (.putfield 50, 3) := by decide +kernel
theorem dX5_init_112 : decode cX5_init 112 = .ok (.aload_n 0, 1) := by decide +kernel
theorem dX5_init_113 : decode cX5_init 113 = .ok (.iconst 4, 1) := by decide +kernel
theorem dX5_init_114 : decode cX5_init 114 = .ok (.newarray .int, 2) := by decide +kernel
theorem dX5_init_116 : decode cX5_init 116 = .ok (.putfield 53, 3) := by decide +kernel
theorem dX5_init_119 : decode cX5_init 119 = .ok (.aload_n 0, 1) := by decide +kernel
theorem dX5_init_120 : decode cX5_init 120 = .ok (.iconst 4, 1) := by decide +kernel
theorem dX5_init_121 : decode cX5_init 121 = .ok (.newarray .int, 2) := by decide +kernel
theorem dX5_init_123 : decode cX5_init 123 = .ok (.putfield 56, 3) := by decide +kernel
theorem dX5_init_126 : decode cX5_init 126 = .ok (.aload_n 0, 1) := by decide +kernel
theorem dX5_init_127 : decode cX5_init 127 = .ok (.iconst 4, 1) := by decide +kernel
theorem dX5_init_128 : decode cX5_init 128 = .ok (.newarray .boolean, 2) := by decide +kernel
theorem dX5_init_130 : decode cX5_init 130 = .ok (.putfield 59, 3) := by decide +kernel
theorem dX5_init_133 : decode cX5_init 133 = .ok (.aload_n 0, 1) := by decide +kernel
theorem dX5_init_134 : decode cX5_init 134 = .ok (.sipush 6000, 3) := by decide +kernel
theorem dX5_init_137 : decode cX5_init 137 = .ok (.newarray .int, 2) := by decide +kernel
theorem dX5_init_139 : decode cX5_init 139 = .ok (.putfield 62, 3) := by decide +kernel
theorem dX5_init_142 : decode cX5_init 142 = .ok (.aload_n 0, 1) := by decide +kernel
theorem dX5_init_143 : decode cX5_init 143 = .ok (.sipush 6000, 3) := by decide +kernel
theorem dX5_init_146 : decode cX5_init 146 = .ok (.newarray .int, 2) := by decide +kernel
theorem dX5_init_148 : decode cX5_init 148 = .ok (.putfield 65, 3) := by decide +kernel
theorem dX5_init_151 : decode cX5_init 151 = .ok (.aload_n 0, 1) := by decide +kernel
theorem dX5_init_152 : decode cX5_init 152 = .ok (.iconst 0, 1) := by decide +kernel
theorem dX5_init_153 : decode cX5_init 153 = .ok (.putfield 68, 3) := by decide +kernel
theorem dX5_init_156 : decode cX5_init 156 = .ok (.return_, 1) := by decide +kernel
theorem dX5_isBegun_0 : decode cX5_isBegun 0 = .ok (.iconst 1, 1) := by decide +kernel
theorem dX5_isBegun_1 : decode cX5_isBegun 1 = .ok (.istore 7, 2) := by decide +kernel
theorem dX5_isBegun_3 : decode cX5_isBegun 3 = .ok (.iconst 0, 1) := by decide +kernel
theorem dX5_isBegun_4 : decode cX5_isBegun 4 = .ok (.istore 8, 2) := by decide +kernel
theorem dX5_isBegun_6 : decode cX5_isBegun 6 = .ok (.iload 8, 2) := by decide +kernel
theorem dX5_isBegun_8 : decode cX5_isBegun 8 = .ok (.iload_n 1, 1) := by decide +kernel
theorem dX5_isBegun_9 : decode cX5_isBegun 9 = .ok (.if_icmp .ge 74, 3) := by decide +kernel
theorem dX5_isBegun_83 : decode cX5_isBegun 83 = .ok (.iload 7, 2) := by decide +kernel
theorem dX5_isBegun_85 : decode cX5_isBegun 85 = .ok (.ireturn, 1) := by decide +kernel
set_option maxRecDepth 20000 in
theorem ggX5_findForm_X5_isBegun : GoodIn wsX5_findForm wsX5_isBegun := goodIn_r _ [6, 7, 8, 9, 10, 11, 12, 13, 14, 15, 16, 17, 18, 19, 20, 21, 22, 23, 24, 25, 26, 27, 28, 29, 30] (by decide +kernel) (by decide +kernel)
set_option maxRecDepth 20000 in
theorem gX5_findForm_X5_isBegun : GoodIn wsX5_findForm (wsV RX5 117 RX5 yX5_isBegun wsX5_isBegun) := goodIn_app (goodIn_of _ (by decide +kernel)) ggX5_findForm_X5_isBegun
theorem dX5_findForm_0 : decode cX5_findForm 0 = .ok (.aload_n 0, 1) := by decide +kernel
theorem dX5_findForm_1 : decode cX5_findForm 1 = .ok (.bipush 6, 2) := by decide +kernel
theorem dX5_findForm_3 : decode cX5_findForm 3 = .ok (.putfield 86, 3) := by decide +kernel
theorem dX5_findForm_6 : decode cX5_findForm 6 = .ok (.iload_n 1, 1) := by decide +kernel
theorem dX5_findForm_7 : decode cX5_findForm 7 = .ok (.iconst 3, 1) := by decide +kernel
theorem dX5_findForm_8 : decode cX5_findForm 8 = .ok (.if_icmp .lt 29, 3) := by decide +kernel
theorem dX5_findForm_37 : decode cX5_findForm 37 = .ok (.iload_n 1, 1) := by decide +kernel
theorem dX5_findForm_38 : decode cX5_findForm 38 = .ok (.iconst 4, 1) := by decide +kernel
theorem dX5_findForm_39 : decode cX5_findForm 39 = .ok (.if_icmp .lt 27, 3) := by decide +kernel
theorem dX5_findForm_66 : decode cX5_findForm 66 = .ok (.iload_n 1, 1) := by decide +kernel
theorem dX5_findForm_67 : decode cX5_findForm 67 = .ok (.iconst 4, 1) := by decide +kernel
theorem dX5_findForm_68 : decode cX5_findForm 68 = .ok (.if_icmp .lt 27, 3) := by decide +kernel
theorem dX5_findForm_95 : decode cX5_findForm 95 = .ok (.iload_n 1, 1) := by decide +kernel
theorem dX5_findForm_96 : decode cX5_findForm 96 = .ok (.iconst 2, 1) := by decide +kernel
theorem dX5_findForm_97 : decode cX5_findForm 97 = .ok (.if_icmp .lt 27, 3) := by decide +kernel
theorem dX5_findForm_124 : decode cX5_findForm 124 = .ok (.iload_n 1, 1) := by decide +kernel
theorem dX5_findForm_125 : decode cX5_findForm 125 = .ok (.iconst 2, 1) := by decide +kernel
theorem dX5_findForm_126 : decode cX5_findForm 126 = .ok (.if_icmp .lt 24, 3) := by decide +kernel
theorem dX5_findForm_150 : decode cX5_findForm 150 = .ok (.iconst 0, 1) := by decide +kernel
theorem dX5_findForm_151 : decode cX5_findForm 151 = .ok (.istore_n 3, 1) := by decide +kernel
theorem dX5_findForm_152 : decode cX5_findForm 152 = .ok (.iload_n 3, 1) := by decide +kernel
theorem dX5_findForm_153 : decode cX5_findForm 153 = .ok (.ifCond .eq 31, 3) := by decide +kernel
theorem dX5_findForm_184 : decode cX5_findForm 184 = .ok (.aload_n 0, 1) := by decide +kernel
theorem dX5_findForm_185 : decode cX5_findForm 185 = .ok (.iload_n 1, 1) := by decide +kernel
theorem dX5_findForm_186 : decode cX5_findForm 186 = .ok (.sipush 239, 3) := by decide +kernel
theorem dX5_findForm_189 : decode cX5_findForm 189 = .ok (.sipush 187, 3) := by decide +kernel
theorem dX5_findForm_192 : decode cX5_findForm 192 = .ok (.sipush 191, 3) := by decide +kernel
theorem dX5_findForm_195 : decode cX5_findForm 195 = .ok (.iconst 0, 1) := by decide +kernel
theorem dX5_findForm_196 : decode cX5_findForm 196 = .ok (.iconst 3, 1) := by decide +kernel
theorem dX5_findForm_197 : decode cX5_findForm 197 = .ok (.invokevirtual 117, 3) := by decide +kernel
theorem dX5_findForm_200 : decode cX5_findForm 200 = .ok (.ifCond .ne 54, 3) := by decide +kernel
theorem dX5_findForm_254 : decode cX5_findForm 254 = .ok (.iconst 1, 1) := by decide +kernel
theorem dX5_findForm_255 : decode cX5_findForm 255 = .ok (.goto 4, 3) := by decide +kernel
theorem dX5_findForm_259 : decode cX5_findForm 259 = .ok (.istore 4, 2) := by decide +kernel
theorem dX5_findForm_261 : decode cX5_findForm 261 = .ok (.iload_n 2, 1) := by decide +kernel
theorem dX5_findForm_262 : decode cX5_findForm 262 = .ok (.ifCond .ne 8, 3) := by decide +kernel
theorem dX5_findForm_265 : decode cX5_findForm 265 = .ok (.iload 4, 2) := by decide +kernel
theorem dX5_findForm_267 : decode cX5_findForm 267 = .ok (.ifCond .ne 8, 3) := by decide +kernel
theorem dX5_findForm_275 : decode cX5_findForm 275 = .ok (.iconst 0, 1) := by decide +kernel
theorem dX5_findForm_276 : decode cX5_findForm 276 = .ok (.ireturn, 1) := by decide +kernel
set_option maxRecDepth 20000 in
theorem ggX5_findAll_X5_findForm : GoodIn wsX5_findAll wsX5_findForm := goodIn_r _ [21, 13, 22, 23, 24, 20, 25, 2, 78, 79, 80, 81, 82, 83, 84, 85, 86, 87, 88, 89, 90, 91, 92, 93, 94, 95, 96, 97, 98, 99, 100] (by decide +kernel) (by decide +kernel)
set_option maxRecDepth 20000 in
theorem gX5_findAll_X5_findForm : GoodIn wsX5_findAll (wsV RX5 121 RX5 yX5_findForm wsX5_findForm) := goodIn_app (goodIn_of _ (by decide +kernel)) ggX5_findAll_X5_findForm
theorem dX5_findAll_0 : decode cX5_findAll 0 = .ok (.aload_n 0, 1) := by decide +kernel
theorem dX5_findAll_1 : decode cX5_findAll 1 = .ok (.getfield 29, 3) := by decide +kernel
theorem dX5_findAll_4 : decode cX5_findAll 4 = .ok (.iload_n 1, 1) := by decide +kernel
theorem dX5_findAll_5 : decode cX5_findAll 5 = .ok (.iaload, 1) := by decide +kernel
theorem dX5_findAll_6 : decode cX5_findAll 6 = .ok (.istore_n 2, 1) := by decide +kernel
theorem dX5_findAll_7 : decode cX5_findAll 7 = .ok (.iconst 0, 1) := by decide +kernel
theorem dX5_findAll_8 : decode cX5_findAll 8 = .ok (.istore_n 3, 1) := by decide +kernel
theorem dX5_findAll_9 : decode cX5_findAll 9 = .ok (.iload_n 3, 1) := by decide +kernel
theorem dX5_findAll_10 : decode cX5_findAll 10 = .ok (.iload_n 2, 1) := by decide +kernel
theorem dX5_findAll_11 : decode cX5_findAll 11 = .ok (.if_icmp .ge 27, 3) := by decide +kernel
theorem dX5_findAll_38 : decode cX5_findAll 38 = .ok (.aload_n 0, 1) := by decide +kernel
theorem dX5_findAll_39 : decode cX5_findAll 39 = .ok (.getfield 44, 3) := by decide +kernel
theorem dX5_findAll_42 : decode cX5_findAll 42 = .ok (.iload_n 1, 1) := by decide +kernel
theorem dX5_findAll_43 : decode cX5_findAll 43 = .ok (.iconst 0, 1) := by decide +kernel
theorem dX5_findAll_44 : decode cX5_findAll 44 = .ok (.iastore, 1) := by decide +kernel
theorem dX5_findAll_45 : decode cX5_findAll 45 = .ok (.aload_n 0, 1) := by decide +kernel
theorem dX5_findAll_46 : decode cX5_findAll 46 = .ok (.getfield 47, 3) := by decide +kernel
theorem dX5_findAll_49 : decode cX5_findAll 49 = .ok (.iload_n 1, 1) := by decide +kernel
theorem dX5_findAll_50 : decode cX5_findAll 50 = .ok (.iconst 0, 1) := by decide +kernel
theorem dX5_findAll_51 : decode cX5_findAll 51 = .ok (.iastore, 1) := by decide +kernel
theorem dX5_findAll_52 : decode cX5_findAll 52 = .ok (.aload_n 0, 1) := by decide +kernel
theorem dX5_findAll_53 : decode cX5_findAll 53 = .ok (.getfield 53, 3) := by decide +kernel
theorem dX5_findAll_56 : decode cX5_findAll 56 = .ok (.iload_n 1, 1) := by decide +kernel
theorem dX5_findAll_57 : decode cX5_findAll 57 = .ok (.iconst (-1), 1) := by decide +kernel
theorem dX5_findAll_58 : decode cX5_findAll 58 = .ok (.iastore, 1) := by decide +kernel
theorem dX5_findAll_59 : decode cX5_findAll 59 = .ok (.aload_n 0, 1) := by decide +kernel
theorem dX5_findAll_60 : decode cX5_findAll 60 = .ok (.getfield 56, 3) := by decide +kernel
theorem dX5_findAll_63 : decode cX5_findAll 63 = .ok (.iload_n 1, 1) := by decide +kernel
theorem dX5_findAll_64 : decode cX5_findAll 64 = .ok (.iconst (-1), 1) := by decide +kernel
theorem dX5_findAll_65 : decode cX5_findAll 65 = .ok (.iastore, 1) := by decide +kernel
theorem dX5_findAll_66 : decode cX5_findAll 66 = .ok (.aload_n 0, 1) := by decide +kernel
theorem dX5_findAll_67 : decode cX5_findAll 67 = .ok (.getfield 59, 3) := by decide +kernel
theorem dX5_findAll_70 : decode cX5_findAll 70 = .ok (.iload_n 1, 1) := by decide +kernel
theorem dX5_findAll_71 : decode cX5_findAll 71 = .ok (.iconst 0, 1) := by decide +kernel
theorem dX5_findAll_72 : decode cX5_findAll 72 = .ok (.bastore, 1) := by decide +kernel
theorem dX5_findAll_73 : decode cX5_findAll 73 = .ok (.aload_n 0, 1) := by decide +kernel
theorem dX5_findAll_74 : decode cX5_findAll 74 = .ok (.getfield 50, 3) := by decide +kernel
theorem dX5_findAll_77 : decode cX5_findAll 77 = .ok (.iload_n 1, 1) := by decide +kernel
theorem dX5_findAll_78 : decode cX5_findAll 78 = .ok (.iload_n 2, 1) := by decide +kernel
theorem dX5_findAll_79 : decode cX5_findAll 79 = .ok (.iastore, 1) := by decide +kernel
theorem dX5_findAll_80 : decode cX5_findAll 80 = .ok (.aload_n 0, 1) := by decide +kernel
theorem dX5_findAll_81 : decode cX5_findAll 81 = .ok (.getfield 20, 3) := by decide +kernel
theorem dX5_findAll_84 : decode cX5_findAll 84 = .ok (.iload_n 1, 1) := by decide +kernel
theorem dX5_findAll_85 : decode cX5_findAll 85 = .ok (.aload_n 0, 1) := by decide +kernel
theorem dX5_findAll_86 : decode cX5_findAll 86 = .ok (.getfield 16, 3) := by decide +kernel
theorem dX5_findAll_89 : decode cX5_findAll 89 = .ok (.iload_n 1, 1) := by decide +kernel
theorem dX5_findAll_90 : decode cX5_findAll 90 = .ok (.iaload, 1) := by decide +kernel
theorem dX5_findAll_91 : decode cX5_findAll 91 = .ok (.iastore, 1) := by decide +kernel
theorem dX5_findAll_92 : decode cX5_findAll 92 = .ok (.iconst 0, 1) := by decide +kernel
theorem dX5_findAll_93 : decode cX5_findAll 93 = .ok (.istore_n 3, 1) := by decide +kernel
theorem dX5_findAll_94 : decode cX5_findAll 94 = .ok (.aload_n 0, 1) := by decide +kernel
theorem dX5_findAll_95 : decode cX5_findAll 95 = .ok (.getfield 16, 3) := by decide +kernel
theorem dX5_findAll_98 : decode cX5_findAll 98 = .ok (.iload_n 1, 1) := by decide +kernel
theorem dX5_findAll_99 : decode cX5_findAll 99 = .ok (.iaload, 1) := by decide +kernel
theorem dX5_findAll_100 : decode cX5_findAll 100 = .ok (.bipush 6, 2) := by decide +kernel
theorem dX5_findAll_102 : decode cX5_findAll 102 = .ok (.if_icmp .ne 40, 3) := by decide +kernel
theorem dX5_findAll_105 : decode cX5_findAll 105 = .ok (.aload_n 0, 1) := by decide +kernel
theorem dX5_findAll_106 : decode cX5_findAll 106 = .ok (.iload_n 2, 1) := by decide +kernel
theorem dX5_findAll_107 : decode cX5_findAll 107 = .ok (.aload_n 0, 1) := by decide +kernel
theorem dX5_findAll_108 : decode cX5_findAll 108 = .ok (.getfield 13, 3) := by decide +kernel
theorem dX5_findAll_111 : decode cX5_findAll 111 = .ok (.iload_n 1, 1) := by decide +kernel
theorem dX5_findAll_112 : decode cX5_findAll 112 = .ok (.baload, 1) := by decide +kernel
theorem dX5_findAll_113 : decode cX5_findAll 113 = .ok (.invokevirtual 121, 3) := by decide +kernel
theorem dX5_findAll_116 : decode cX5_findAll 116 = .ok (.istore_n 3, 1) := by decide +kernel
theorem dX5_findAll_117 : decode cX5_findAll 117 = .ok (.aload_n 0, 1) := by decide +kernel
theorem dX5_findAll_118 : decode cX5_findAll 118 = .ok (.getfield 20, 3) := by decide +kernel
theorem dX5_findAll_121 : decode cX5_findAll 121 = .ok (.iload_n 1, 1) := by decide +kernel
theorem dX5_findAll_122 : decode cX5_findAll 122 = .ok (.aload_n 0, 1) := by decide +kernel
theorem dX5_findAll_123 : decode cX5_findAll 123 = .ok (.getfield 86, 3) := by decide +kernel
theorem dX5_findAll_126 : decode cX5_findAll 126 = .ok (.iastore, 1) := by decide +kernel
theorem dX5_findAll_127 : decode cX5_findAll 127 = .ok (.aload_n 0, 1) := by decide +kernel
theorem dX5_findAll_128 : decode cX5_findAll 128 = .ok (.getfield 59, 3) := by decide +kernel
theorem dX5_findAll_131 : decode cX5_findAll 131 = .ok (.iload_n 1, 1) := by decide +kernel
theorem dX5_findAll_132 : decode cX5_findAll 132 = .ok (.iload_n 3, 1) := by decide +kernel
theorem dX5_findAll_133 : decode cX5_findAll 133 = .ok (.ifCond .le 7, 3) := by decide +kernel
theorem dX5_findAll_140 : decode cX5_findAll 140 = .ok (.iconst 0, 1) := by decide +kernel
theorem dX5_findAll_141 : decode cX5_findAll 141 = .ok (.bastore, 1) := by decide +kernel
theorem dX5_findAll_142 : decode cX5_findAll 142 = .ok (.aload_n 0, 1) := by decide +kernel
theorem dX5_findAll_143 : decode cX5_findAll 143 = .ok (.getfield 20, 3) := by decide +kernel
theorem dX5_findAll_146 : decode cX5_findAll 146 = .ok (.iload_n 1, 1) := by decide +kernel
theorem dX5_findAll_147 : decode cX5_findAll 147 = .ok (.iaload, 1) := by decide +kernel
theorem dX5_findAll_148 : decode cX5_findAll 148 = .ok (.bipush 6, 2) := by decide +kernel
theorem dX5_findAll_150 : decode cX5_findAll 150 = .ok (.if_icmp .ne 4, 3) := by decide +kernel
theorem dX5_findAll_153 : decode cX5_findAll 153 = .ok (.return_, 1) := by decide +kernel
theorem dX5_findAll_154 : decode cX5_findAll 154 = .ok (.iconst 1, 1) := by decide +kernel
theorem dX5_findAll_155 : decode cX5_findAll 155 = .ok (.istore 4, 2) := by decide +kernel
theorem dX5_findAll_157 : decode cX5_findAll 157 = .ok (.iload 4, 2) := by decide +kernel
theorem dX5_findAll_159 : decode cX5_findAll 159 = .ok (.ifCond .eq 168, 3) := by decide +kernel
theorem dX5_findAll_162 : decode cX5_findAll 162 = .ok (.iload_n 3, 1) := by decide +kernel
theorem dX5_findAll_163 : decode cX5_findAll 163 = .ok (.iload_n 2, 1) := by decide +kernel
theorem dX5_findAll_164 : decode cX5_findAll 164 = .ok (.if_icmp .ge 163, 3) := by decide +kernel
theorem dX5_findAll_327 : decode cX5_findAll 327 = .ok (.aload_n 0, 1) := by decide +kernel
theorem dX5_findAll_328 : decode cX5_findAll 328 = .ok (.getfield 50, 3) := by decide +kernel
theorem dX5_findAll_331 : decode cX5_findAll 331 = .ok (.iload_n 1, 1) := by decide +kernel
theorem dX5_findAll_332 : decode cX5_findAll 332 = .ok (.iload_n 2, 1) := by decide +kernel
theorem dX5_findAll_333 : decode cX5_findAll 333 = .ok (.iload_n 3, 1) := by decide +kernel
theorem dX5_findAll_334 : decode cX5_findAll 334 = .ok (.isub, 1) := by decide +kernel
theorem dX5_findAll_335 : decode cX5_findAll 335 = .ok (.iastore, 1) := by decide +kernel
theorem dX5_findAll_336 : decode cX5_findAll 336 = .ok (.return_, 1) := by decide +kernel
set_option maxRecDepth 20000 in
theorem ggX5_open_X5_isStream : GoodIn wsX5_open wsX5_isStream := goodIn_r _ [9] (by decide +kernel) (by decide +kernel)
set_option maxRecDepth 20000 in
theorem gX5_open_X5_isStream : GoodIn wsX5_open (va_wsS RX5 134 yX5_isStream wsX5_isStream) := goodIn_app (goodIn_of _ (by decide +kernel)) ggX5_open_X5_isStream
set_option maxRecDepth 20000 in
theorem ggX5_open_X5_findAll : GoodIn wsX5_open wsX5_findAll := goodIn_r _ [13, 5, 14, 15, 16, 17, 18, 19, 20, 21, 22, 3, 2, 23, 24, 4, 25, 26, 27, 28, 8, 29, 30, 31, 32, 33, 34, 35, 36, 37, 38, 39, 40, 41, 42, 43, 44, 45, 46, 47, 48, 49, 50, 51, 52, 53, 54, 55, 56, 57, 58, 59, 60, 61, 62, 63, 64, 65, 66, 67, 68, 69, 70, 71, 72, 73, 74, 75, 76, 77, 78, 79, 80, 81, 82, 83, 84, 85, 86, 87, 88, 89, 90, 91, 92, 93, 94, 95, 96, 97, 98, 99, 100, 101, 102, 103, 104, 105, 106, 107, 108] (by decide +kernel) (by decide +kernel)
set_option maxRecDepth 20000 in
theorem gX5_open_X5_findAll : GoodIn wsX5_open (wsV RX5 138 RX5 yX5_findAll wsX5_findAll) := goodIn_app (goodIn_of _ (by decide +kernel)) ggX5_open_X5_findAll
theorem dX5_open_0 : decode cX5_open 0 = .ok (.iload_n 1, 1) := by decide +kernel
theorem dX5_open_1 : decode cX5_open 1 = .ok (.invokestatic 134, 3) := by decide +kernel
theorem dX5_open_4 : decode cX5_open 4 = .ok (.ifCond .eq 22, 3) := by decide +kernel
theorem dX5_open_7 : decode cX5_open 7 = .ok (.iload_n 2, 1) := by decide +kernel
theorem dX5_open_8 : decode cX5_open 8 = .ok (.ifCond .lt 18, 3) := by decide +kernel
theorem dX5_open_11 : decode cX5_open 11 = .ok (.iload_n 2, 1) := by decide +kernel
theorem dX5_open_12 : decode cX5_open 12 = .ok (.bipush 6, 2) := by decide +kernel
theorem dX5_open_14 : decode cX5_open 14 = .ok (.if_icmp .gt 12, 3) := by decide +kernel
theorem dX5_open_17 : decode cX5_open 17 = .ok (.iload_n 3, 1) := by decide +kernel
theorem dX5_open_18 : decode cX5_open 18 = .ok (.ifCond .lt 8, 3) := by decide +kernel
theorem dX5_open_21 : decode cX5_open 21 = .ok (.iload_n 3, 1) := by decide +kernel
theorem dX5_open_22 : decode cX5_open 22 = .ok (.iconst 2, 1) := by decide +kernel
theorem dX5_open_23 : decode cX5_open 23 = .ok (.if_icmp .le 5, 3) := by decide +kernel
theorem dX5_open_26 : decode cX5_open 26 = .ok (.iconst 0, 1) := by decide +kernel
theorem dX5_open_27 : decode cX5_open 27 = .ok (.ireturn, 1) := by decide +kernel
theorem dX5_open_28 : decode cX5_open 28 = .ok (.aload_n 0, 1) := by decide +kernel
theorem dX5_open_29 : decode cX5_open 29 = .ok (.getfield 7, 3) := by decide +kernel
theorem dX5_open_32 : decode cX5_open 32 = .ok (.iload_n 1, 1) := by decide +kernel
theorem dX5_open_33 : decode cX5_open 33 = .ok (.iconst 1, 1) := by decide +kernel
theorem dX5_open_34 : decode cX5_open 34 = .ok (.bastore, 1) := by decide +kernel
theorem dX5_open_35 : decode cX5_open 35 = .ok (.aload_n 0, 1) := by decide +kernel
theorem dX5_open_36 : decode cX5_open 36 = .ok (.getfield 13, 3) := by decide +kernel
theorem dX5_open_39 : decode cX5_open 39 = .ok (.iload_n 1, 1) := by decide +kernel
theorem dX5_open_40 : decode cX5_open 40 = .ok (.iconst 0, 1) := by decide +kernel
theorem dX5_open_41 : decode cX5_open 41 = .ok (.bastore, 1) := by decide +kernel
theorem dX5_open_42 : decode cX5_open 42 = .ok (.aload_n 0, 1) := by decide +kernel
theorem dX5_open_43 : decode cX5_open 43 = .ok (.getfield 16, 3) := by decide +kernel
theorem dX5_open_46 : decode cX5_open 46 = .ok (.iload_n 1, 1) := by decide +kernel
theorem dX5_open_47 : decode cX5_open 47 = .ok (.iload_n 2, 1) := by decide +kernel
theorem dX5_open_48 : decode cX5_open 48 = .ok (.iastore, 1) := by decide +kernel
theorem dX5_open_49 : decode cX5_open 49 = .ok (.aload_n 0, 1) := by decide +kernel
theorem dX5_open_50 : decode cX5_open 50 = .ok (.getfield 23, 3) := by decide +kernel
theorem dX5_open_53 : decode cX5_open 53 = .ok (.iload_n 1, 1) := by decide +kernel
theorem dX5_open_54 : decode cX5_open 54 = .ok (.iload_n 3, 1) := by decide +kernel
theorem dX5_open_55 : decode cX5_open 55 = .ok (.iastore, 1) := by decide +kernel
theorem dX5_open_56 : decode cX5_open 56 = .ok (.aload_n 0, 1) := by decide +kernel
theorem dX5_open_57 : decode cX5_open 57 = .ok (.getfield 29, 3) := by decide +kernel
theorem dX5_open_60 : decode cX5_open 60 = .ok (.iload_n 1, 1) := by decide +kernel
theorem dX5_open_61 : decode cX5_open 61 = .ok (.iconst 0, 1) := by decide +kernel
theorem dX5_open_62 : decode cX5_open 62 = .ok (.iastore, 1) := by decide +kernel
theorem dX5_open_63 : decode cX5_open 63 = .ok (.aload_n 0, 1) := by decide +kernel
theorem dX5_open_64 : decode cX5_open 64 = .ok (.iload_n 1, 1) := by decide +kernel
theorem dX5_open_65 : decode cX5_open 65 = .ok (.invokevirtual 138, 3) := by decide +kernel
theorem dX5_open_68 : decode cX5_open 68 = .ok (.iconst 1, 1) := by decide +kernel
theorem dX5_open_69 : decode cX5_open 69 = .ok (.ireturn, 1) := by decide +kernel
