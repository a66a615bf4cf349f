theorem dX7_init_0 : decode cX7_init 0 = .ok (.aload_n 0, 1) := by decide +kernel
theorem dX7_init_1 : decode cX7_init 1 = .ok (.invokespecial 1, 3) := by decide +kernel
theorem dX7_init_4 : decode cX7_init 4 = .ok (.aload_n 0, 1) := by decide +kernel
theorem dX7_init_5 : decode cX7_init 5 = .ok (.bipush 60, 2) := by decide +kernel
theorem dX7_init_7 : decode cX7_init 7 = .ok (.newarray .int, 2) := by decide +kernel
theorem dX7_init_9 : decode cX7_init 9 = .ok (.putfield 7, 3) := by decide +kernel
theorem dX7_init_12 : decode cX7_init 12 = .ok (.aload_n 0, 1) := by decide +kernel
theorem dX7_init_13 : decode cX7_init 13 = .ok (.bipush 60, 2) := by decide +kernel
theorem dX7_init_15 : decode cX7_init 15 = .ok (.newarray .int, 2) := by decide +kernel
theorem dX7_init_17 : decode cX7_init 17 = .ok (.putfield 13, 3) := by decide +kernel
theorem dX7_init_20 : decode cX7_init 20 = .ok (.aload_n 0, 1) := by decide +kernel
theorem dX7_init_21 : decode cX7_init 21 = .ok (.bipush 60, 2) := by decide +kernel
theorem dX7_init_23 : decode cX7_init 23 = .ok (.newarray .int, 2) := by decide +kernel
theorem dX7_init_25 : decode cX7_init 25 = .ok (.putfield 16, 3) := by decide +kernel
theorem dX7_init_28 : decode cX7_init 28 = .ok (.aload_n 0, 1) := by decide +kernel
theorem dX7_init_29 : decode cX7_init 29 = .ok (.bipush 60, 2) := by decide +kernel
theorem dX7_init_31 : decode cX7_init 31 = .ok (.newarray .int, 2) := by decide +kernel
theorem dX7_init_33 : decode cX7_init 33 = .ok (.putfield 19, 3) := by decide +kernel
theorem dX7_init_36 : decode cX7_init 36 = .ok (.aload_n 0, 1) := by decide +kernel
theorem dX7_init_37 : decode cX7_init 37 = .ok (.bipush 60, 2) := by decide +kernel
theorem dX7_init_39 : decode cX7_init 39 = .ok (.newarray .int, 2) := by decide +kernel
theorem dX7_init_41 : decode cX7_init 41 = .ok (.putfield 22, 3) := by decide +kernel
theorem dX7_init_44 : decode cX7_init 44 = .ok (.aload_n 0, 1) := by decide +kernel
theorem dX7_init_45 : decode cX7_init 45 = .ok (.bipush 60, 2) := by decide +kernel
theorem dX7_init_47 : decode cX7_init 47 = .ok (.newarray .int, 2) := by decide +kernel
theorem dX7_init_49 : decode cX7_init 49 = .ok (.putfield 25, 3) := by decide +kernel
theorem dX7_init_52 : decode cX7_init 52 = .ok (.aload_n 0, 1) := by decide +kernel
theorem dX7_init_53 : decode cX7_init 53 = .ok (.ldc 28, 2) := by decide +kernel
theorem dX7_init_55 : decode cX7_init 55 = .ok (.newarray .int, 2) := by decide +kernel
theorem dX7_init_57 : decode cX7_init 57 = .ok (.putfield 29, 3) := by decide +kernel
theorem dX7_init_60 : decode cX7_init 60 = .ok (.aload_n 0, 1) := by decide +kernel
theorem dX7_init_61 : decode cX7_init 61 = .ok (.iconst 4, 1) := by decide +kernel
theorem dX7_init_62 : decode cX7_init 62 = .ok (.putfield 32, 3) := by decide +kernel
theorem dX7_init_65 : decode cX7_init 65 = .ok (.aload_n 0, 1) := by decide +kernel
theorem dX7_init_66 : decode cX7_init 66 = .ok (.bipush 8, 2) := by decide +kernel
theorem dX7_init_68 : decode cX7_init 68 = .ok (.putfield 36, 3) := by decide +kernel
theorem dX7_init_71 : decode cX7_init 71 = .ok (.aload_n 0, 1) := by decide +kernel
theorem dX7_init_72 : decode cX7_init 72 = .ok (.iconst 5, 1) := by decide +kernel
theorem dX7_init_73 : decode cX7_init 73 = .ok (.putfield 39, 3) := by decide +kernel
theorem dX7_init_76 : decode cX7_init 76 = .ok (.aload_n 0, 1) := by decide +kernel
theorem dX7_init_77 : decode cX7_init 77 = .ok (.bipush 60, 2) := by decide +kernel
theorem dX7_init_79 : decode cX7_init 79 = .ok (.newarray .int, 2) := by decide +kernel
theorem dX7_init_81 : decode cX7_init 81 = .ok (.putfield 42, 3) := by decide +kernel
theorem dX7_init_84 : decode cX7_init 84 = .ok (.aload_n 0, 1) := by decide +kernel
theorem dX7_init_85 : decode cX7_init 85 = .ok (.bipush 60, 2) := by decide +kernel
theorem dX7_init_87 : decode cX7_init 87 = .ok (.newarray .int, 2) := by decide +kernel
theorem dX7_init_89 : decode cX7_init 89 = .ok (.putfield 45, 3) := by decide +kernel
theorem dX7_init_92 : decode cX7_init 92 = .ok (.aload_n 0, 1) := by decide +kernel
theorem dX7_init_93 : decode cX7_init 93 = .ok (.bipush 8, 2) := by decide +kernel
theorem dX7_init_95 : decode cX7_init 95 = .ok (.newarray .int, 2) := by decide +kernel
theorem dX7_init_97 : decode cX7_init 97 = .ok (.putfield 48, 3) := by decide +kernel
theorem dX7_init_100 : decode cX7_init 100 = .ok (.aload_n 0, 1) := by decide +kernel
theorem dX7_init_101 : decode cX7_init 101 = .ok (.bipush 8, 2) := by decide +kernel
theorem dX7_init_103 : decode cX7_init 103 = .ok (.newarray .int, 2) := by decide +kernel
theorem dX7_init_105 : decode cX7_init 105 = .ok (.putfield 51, 3) := by decide +kernel
theorem dX7_init_108 : decode cX7_init 108 = .ok (.aload_n 0, 1) := by decide +kernel
theorem dX7_init_109 : decode cX7_init 109 = .ok (.bipush 8, 2) := by decide +kernel
theorem dX7_init_111 : decode cX7_init 111 = .ok (.newarray .int, 2) := by decide +kernel
theorem dX7_init_113 : decode cX7_init 113 = .ok (.putfield 54, 3) := by decide +kernel
theorem dX7_init_116 : decode cX7_init 116 = .ok (.aload_n 0, 1) := by decide +kernel
theorem dX7_init_117 : decode cX7_init 117 = .ok (.bipush 8, 2) := by decide +kernel
theorem dX7_init_119 : decode cX7_init 119 = .ok (.newarray .int, 2) := by decide +kernel
theorem dX7_init_121 : decode cX7_init 121 = .ok (.putfield 57, 3) := by decide +kernel
theorem dX7_init_124 : decode cX7_init 124 = .ok (.aload_n 0, 1) := by decide +kernel
theorem dX7_init_125 : decode cX7_init 125 = .ok (.iconst 2, 1) := by decide +kernel
theorem dX7_init_126 : decode cX7_init 126 = .ok (.putfield 60, 3) := by decide +kernel
theorem dX7_init_129 : decode cX7_init 129 = .ok (.aload_n 0, 1) := by decide +kernel
theorem dX7_init_130 : decode cX7_init 130 = .ok (.sipush 1600, 3) := by decide +kernel
theorem dX7_init_133 : decode cX7_init 133 = .ok (.newarray .int, 2) := by decide +kernel
theorem dX7_init_135 : decode cX7_init 135 = .ok (.putfield 63, 3) := by decide +kernel
theorem dX7_init_138 : decode cX7_init 138 = .ok (.aload_n 0, 1) := by decide +kernel
theorem dX7_init_139 : decode cX7_init 139 = .ok (.sipush 1600, 3) := by decide +kernel
theorem dX7_init_142 : decode cX7_init 142 = .ok (.newarray .int, 2) := by decide +kernel
theorem dX7_init_144 : decode cX7_init 144 = .ok (.putfield 66, 3) := by decide +kernel
theorem dX7_init_147 : decode cX7_init 147 = .ok (.return_, 1) := by decide +kernel
theorem dX7_thrown_0 : decode cX7_thrown 0 = .ok (.aload_n 0, 1) := by decide +kernel
theorem dX7_thrown_1 : decode cX7_thrown 1 = .ok (.getfield 69, 3) := by decide +kernel
theorem dX7_thrown_4 : decode cX7_thrown 4 = .ok (.ireturn, 1) := by decide +kernel
theorem dX7_in_0 : decode cX7_in 0 = .ok (.lload_n 0, 1) := by decide +kernel
theorem dX7_in_1 : decode cX7_in 1 = .ok (.lload_n 2, 1) := by decide +kernel
theorem dX7_in_2 : decode cX7_in 2 = .ok (.lcmp, 1) := by decide +kernel
theorem dX7_in_3 : decode cX7_in 3 = .ok (.ifCond .lt 14, 3) := by decide +kernel
theorem dX7_in_6 : decode cX7_in 6 = .ok (.lload_n 0, 1) := by decide +kernel
theorem dX7_in_7 : decode cX7_in 7 = .ok (.lload 4, 2) := by decide +kernel
theorem dX7_in_9 : decode cX7_in 9 = .ok (.lcmp, 1) := by decide +kernel
theorem dX7_in_10 : decode cX7_in 10 = .ok (.ifCond .gt 7, 3) := by decide +kernel
theorem dX7_in_13 : decode cX7_in 13 = .ok (.iconst 1, 1) := by decide +kernel
theorem dX7_in_14 : decode cX7_in 14 = .ok (.goto 4, 3) := by decide +kernel
theorem dX7_in_17 : decode cX7_in 17 = .ok (.iconst 0, 1) := by decide +kernel
theorem dX7_in_18 : decode cX7_in 18 = .ok (.ireturn, 1) := by decide +kernel
theorem dX7_mix_0 : decode cX7_mix 0 = .ok (.lload_n 0, 1) := by decide +kernel
theorem dX7_mix_1 : decode cX7_mix 1 = .ok (.lload_n 0, 1) := by decide +kernel
theorem dX7_mix_2 : decode cX7_mix 2 = .ok (.bipush 30, 2) := by decide +kernel
theorem dX7_mix_4 : decode cX7_mix 4 = .ok (.lushr, 1) := by decide +kernel
theorem dX7_mix_5 : decode cX7_mix 5 = .ok (.lxor, 1) := by decide +kernel
theorem dX7_mix_6 : decode cX7_mix 6 = .ok (.ldc2_w 72, 3) := by decide +kernel
theorem dX7_mix_9 : decode cX7_mix 9 = .ok (.lmul, 1) := by decide +kernel
theorem dX7_mix_10 : decode cX7_mix 10 = .ok (.lstore_n 2, 1) := by decide +kernel
theorem dX7_mix_11 : decode cX7_mix 11 = .ok (.lload_n 2, 1) := by decide +kernel
theorem dX7_mix_12 : decode cX7_mix 12 = .ok (.lload_n 2, 1) := by decide +kernel
theorem dX7_mix_13 : decode cX7_mix 13 = .ok (.bipush 27, 2) := by decide +kernel
theorem dX7_mix_15 : decode cX7_mix 15 = .ok (.lushr, 1) := by decide +kernel
theorem dX7_mix_16 : decode cX7_mix 16 = .ok (.lxor, 1) := by decide +kernel
theorem dX7_mix_17 : decode cX7_mix 17 = .ok (.ldc2_w 74, 3) := by decide +kernel
theorem dX7_mix_20 : decode cX7_mix 20 = .ok (.lmul, 1) := by decide +kernel
theorem dX7_mix_21 : decode cX7_mix 21 = .ok (.lstore_n 2, 1) := by decide +kernel
theorem dX7_mix_22 : decode cX7_mix 22 = .ok (.lload_n 2, 1) := by decide +kernel
theorem dX7_mix_23 : decode cX7_mix 23 = .ok (.lload_n 2, 1) := by decide +kernel
theorem dX7_mix_24 : decode cX7_mix 24 = .ok (.bipush 31, 2) := by decide +kernel
theorem dX7_mix_26 : decode cX7_mix 26 = .ok (.lushr, 1) := by decide +kernel
theorem dX7_mix_27 : decode cX7_mix 27 = .ok (.lxor, 1) := by decide +kernel
theorem dX7_mix_28 : decode cX7_mix 28 = .ok (.lreturn, 1) := by decide +kernel
theorem dX7_begin_0 : decode cX7_begin 0 = .ok (.aload_n 0, 1) := by decide +kernel
theorem dX7_begin_1 : decode cX7_begin 1 = .ok (.aload_n 0, 1) := by decide +kernel
theorem dX7_begin_2 : decode cX7_begin 2 = .ok (.getfield 76, 3) := by decide +kernel
theorem dX7_begin_5 : decode cX7_begin 5 = .ok (.putfield 80, 3) := by decide +kernel
theorem dX7_begin_8 : decode cX7_begin 8 = .ok (.return_, 1) := by decide +kernel
set_option maxRecDepth 20000 in
theorem ggX7_with_X7_mix : GoodIn wsX7_with wsX7_mix := goodIn_r _ [6, 7, 8] (by decide +kernel) (by decide +kernel)
set_option maxRecDepth 20000 in
theorem gX7_with_X7_mix : GoodIn wsX7_with (va_wsS RX7 85 yX7_mix wsX7_mix) := goodIn_app (goodIn_of _ (by decide +kernel)) ggX7_with_X7_mix
theorem dX7_with_0 : decode cX7_with 0 = .ok (.aload_n 0, 1) := by decide +kernel
theorem dX7_with_1 : decode cX7_with 1 = .ok (.aload_n 0, 1) := by decide +kernel
theorem dX7_with_2 : decode cX7_with 2 = .ok (.getfield 80, 3) := by decide +kernel
theorem dX7_with_5 : decode cX7_with 5 = .ok (.lload_n 1, 1) := by decide +kernel
theorem dX7_with_6 : decode cX7_with 6 = .ok (.ldc2_w 83, 3) := by decide +kernel
theorem dX7_with_9 : decode cX7_with 9 = .ok (.lmul, 1) := by decide +kernel
theorem dX7_with_10 : decode cX7_with 10 = .ok (.lxor, 1) := by decide +kernel
theorem dX7_with_11 : decode cX7_with 11 = .ok (.invokestatic 85, 3) := by decide +kernel
theorem dX7_with_14 : decode cX7_with 14 = .ok (.putfield 80, 3) := by decide +kernel
theorem dX7_with_17 : decode cX7_with 17 = .ok (.return_, 1) := by decide +kernel
set_option maxRecDepth 20000 in
theorem ggX7_draw_X7_mix : GoodIn wsX7_draw wsX7_mix := goodIn_r _ [6, 7, 8] (by decide +kernel) (by decide +kernel)
set_option maxRecDepth 20000 in
theorem gX7_draw_X7_mix : GoodIn wsX7_draw (va_wsS RX7 85 yX7_mix wsX7_mix) := goodIn_app (goodIn_of _ (by decide +kernel)) ggX7_draw_X7_mix
theorem dX7_draw_0 : decode cX7_draw 0 = .ok (.aload_n 0, 1) := by decide +kernel
theorem dX7_draw_1 : decode cX7_draw 1 = .ok (.dup, 1) := by decide +kernel
theorem dX7_draw_2 : decode cX7_draw 2 = .ok (.getfield 80, 3) := by decide +kernel
theorem dX7_draw_5 : decode cX7_draw 5 = .ok (.ldc2_w 83, 3) := by decide +kernel
theorem dX7_draw_8 : decode cX7_draw 8 = .ok (.ladd, 1) := by decide +kernel
theorem dX7_draw_9 : decode cX7_draw 9 = .ok (.putfield 80, 3) := by decide +kernel
theorem dX7_draw_12 : decode cX7_draw 12 = .ok (.aload_n 0, 1) := by decide +kernel
theorem dX7_draw_13 : decode cX7_draw 13 = .ok (.getfield 80, 3) := by decide +kernel
theorem dX7_draw_16 : decode cX7_draw 16 = .ok (.invokestatic 85, 3) := by decide +kernel
theorem dX7_draw_19 : decode cX7_draw 19 = .ok (.iconst 1, 1) := by decide +kernel
theorem dX7_draw_20 : decode cX7_draw 20 = .ok (.lushr, 1) := by decide +kernel
theorem dX7_draw_21 : decode cX7_draw 21 = .ok (.lload_n 1, 1) := by decide +kernel
theorem dX7_draw_22 : decode cX7_draw 22 = .ok (.lrem, 1) := by decide +kernel
theorem dX7_draw_23 : decode cX7_draw 23 = .ok (.l2i, 1) := by decide +kernel
theorem dX7_draw_24 : decode cX7_draw 24 = .ok (.ireturn, 1) := by decide +kernel
set_option maxRecDepth 20000 in
theorem ggX7_mixes_X7_draw : GoodIn wsX7_mixes wsX7_draw := goodIn_r _ [5, 6, 7, 8, 9, 4, 10, 11, 12, 13, 14, 15, 16, 17, 18, 19, 20, 21, 22, 23, 24, 25, 26, 27, 28, 29, 30, 31, 32, 33, 34, 35, 36, 37, 38, 39, 40, 41, 42] (by decide +kernel) (by decide +kernel)
set_option maxRecDepth 20000 in
theorem gX7_mixes_X7_draw : GoodIn wsX7_mixes (wsV RX7 89 RX7 yX7_draw wsX7_draw) := goodIn_app (goodIn_of _ (by decide +kernel)) ggX7_mixes_X7_draw
theorem dX7_mixes_0 : decode cX7_mixes 0 = .ok (.iload_n 3, 1) := by decide +kernel
theorem dX7_mixes_1 : decode cX7_mixes 1 = .ok (.iconst 1, 1) := by decide +kernel
theorem dX7_mixes_2 : decode cX7_mixes 2 = .ok (.isub, 1) := by decide +kernel
theorem dX7_mixes_3 : decode cX7_mixes 3 = .ok (.istore 4, 2) := by decide +kernel
theorem dX7_mixes_5 : decode cX7_mixes 5 = .ok (.iload 4, 2) := by decide +kernel
theorem dX7_mixes_7 : decode cX7_mixes 7 = .ok (.ifCond .le 48, 3) := by decide +kernel
theorem dX7_mixes_10 : decode cX7_mixes 10 = .ok (.aload_n 0, 1) := by decide +kernel
theorem dX7_mixes_11 : decode cX7_mixes 11 = .ok (.iload 4, 2) := by decide +kernel
theorem dX7_mixes_13 : decode cX7_mixes 13 = .ok (.iconst 1, 1) := by decide +kernel
theorem dX7_mixes_14 : decode cX7_mixes 14 = .ok (.iadd, 1) := by decide +kernel
theorem dX7_mixes_15 : decode cX7_mixes 15 = .ok (.i2l, 1) := by decide +kernel
theorem dX7_mixes_16 : decode cX7_mixes 16 = .ok (.invokevirtual 89, 3) := by decide +kernel
theorem dX7_mixes_19 : decode cX7_mixes 19 = .ok (.istore 5, 2) := by decide +kernel
theorem dX7_mixes_21 : decode cX7_mixes 21 = .ok (.aload_n 1, 1) := by decide +kernel
theorem dX7_mixes_22 : decode cX7_mixes 22 = .ok (.iload_n 2, 1) := by decide +kernel
theorem dX7_mixes_23 : decode cX7_mixes 23 = .ok (.iload 4, 2) := by decide +kernel
theorem dX7_mixes_25 : decode cX7_mixes 25 = .ok (.iadd, 1) := by decide +kernel
theorem dX7_mixes_26 : decode cX7_mixes 26 = .ok (.iaload, 1) := by decide +kernel
theorem dX7_mixes_27 : decode cX7_mixes 27 = .ok (.istore 6, 2) := by decide +kernel
theorem dX7_mixes_29 : decode cX7_mixes 29 = .ok (.aload_n 1, 1) := by decide +kernel
theorem dX7_mixes_30 : decode cX7_mixes 30 = .ok (.iload_n 2, 1) := by decide +kernel
theorem dX7_mixes_31 : decode cX7_mixes 31 = .ok (.iload 4, 2) := by decide +kernel
theorem dX7_mixes_33 : decode cX7_mixes 33 = .ok (.iadd, 1) := by decide +kernel
theorem dX7_mixes_34 : decode cX7_mixes 34 = .ok (.aload_n 1, 1) := by decide +kernel
theorem dX7_mixes_35 : decode cX7_mixes 35 = .ok (.iload_n 2, 1) := by decide +kernel
theorem dX7_mixes_36 : decode cX7_mixes 36 = .ok (.iload 5, 2) := by decide +kernel
theorem dX7_mixes_38 : decode cX7_mixes 38 = .ok (.iadd, 1) := by decide +kernel
theorem dX7_mixes_39 : decode cX7_mixes 39 = .ok (.iaload, 1) := by decide +kernel
theorem dX7_mixes_40 : decode cX7_mixes 40 = .ok (.iastore, 1) := by decide +kernel
theorem dX7_mixes_41 : decode cX7_mixes 41 = .ok (.aload_n 1, 1) := by decide +kernel
theorem dX7_mixes_42 : decode cX7_mixes 42 = .ok (.iload_n 2, 1) := by decide +kernel
theorem dX7_mixes_43 : decode cX7_mixes 43 = .ok (.iload 5, 2) := by decide +kernel
theorem dX7_mixes_45 : decode cX7_mixes 45 = .ok (.iadd, 1) := by decide +kernel
theorem dX7_mixes_46 : decode cX7_mixes 46 = .ok (.iload 6, 2) := by decide +kernel
theorem dX7_mixes_48 : decode cX7_mixes 48 = .ok (.iastore, 1) := by decide +kernel
theorem dX7_mixes_49 : decode cX7_mixes 49 = .ok (.iinc 4 (-1), 3) := by decide +kernel
theorem dX7_mixes_52 : decode cX7_mixes 52 = .ok (.goto (-47), 3) := by decide +kernel
theorem dX7_mixes_55 : decode cX7_mixes 55 = .ok (.return_, 1) := by decide +kernel
set_option maxRecDepth 20000 in
theorem ggX7_isRow_X7_in : GoodIn wsX7_isRow wsX7_in := goodIn_r _ [5] (by decide +kernel) (by decide +kernel)
set_option maxRecDepth 20000 in
theorem gX7_isRow_X7_in : GoodIn wsX7_isRow (va_wsS RX7 96 yX7_in wsX7_in) := goodIn_app (goodIn_of _ (by decide +kernel)) ggX7_isRow_X7_in
theorem dX7_isRow_0 : decode cX7_isRow 0 = .ok (.iload_n 1, 1) := by decide +kernel
theorem dX7_isRow_1 : decode cX7_isRow 1 = .ok (.i2l, 1) := by decide +kernel
theorem dX7_isRow_2 : decode cX7_isRow 2 = .ok (.lconst 0, 1) := by decide +kernel
theorem dX7_isRow_3 : decode cX7_isRow 3 = .ok (.aload_n 0, 1) := by decide +kernel
theorem dX7_isRow_4 : decode cX7_isRow 4 = .ok (.getfield 93, 3) := by decide +kernel
theorem dX7_isRow_7 : decode cX7_isRow 7 = .ok (.iconst 1, 1) := by decide +kernel
theorem dX7_isRow_8 : decode cX7_isRow 8 = .ok (.isub, 1) := by decide +kernel
theorem dX7_isRow_9 : decode cX7_isRow 9 = .ok (.i2l, 1) := by decide +kernel
theorem dX7_isRow_10 : decode cX7_isRow 10 = .ok (.invokestatic 96, 3) := by decide +kernel
theorem dX7_isRow_13 : decode cX7_isRow 13 = .ok (.ireturn, 1) := by decide +kernel
set_option maxRecDepth 20000 in
theorem ggX7_comes_X7_in : GoodIn wsX7_comes wsX7_in := goodIn_r _ [14] (by decide +kernel) (by decide +kernel)
set_option maxRecDepth 20000 in
theorem gX7_comes_X7_in : GoodIn wsX7_comes (va_wsS RX7 96 yX7_in wsX7_in) := goodIn_app (goodIn_of _ (by decide +kernel)) ggX7_comes_X7_in
theorem dX7_comes_0 : decode cX7_comes 0 = .ok (.iload_n 2, 1) := by decide +kernel
theorem dX7_comes_1 : decode cX7_comes 1 = .ok (.i2l, 1) := by decide +kernel
theorem dX7_comes_2 : decode cX7_comes 2 = .ok (.lconst 0, 1) := by decide +kernel
theorem dX7_comes_3 : decode cX7_comes 3 = .ok (.ldc2_w 100, 3) := by decide +kernel
theorem dX7_comes_6 : decode cX7_comes 6 = .ok (.invokestatic 96, 3) := by decide +kernel
theorem dX7_comes_9 : decode cX7_comes 9 = .ok (.ifCond .eq 15, 3) := by decide +kernel
theorem dX7_comes_12 : decode cX7_comes 12 = .ok (.iload_n 3, 1) := by decide +kernel
theorem dX7_comes_13 : decode cX7_comes 13 = .ok (.i2l, 1) := by decide +kernel
theorem dX7_comes_14 : decode cX7_comes 14 = .ok (.lconst 0, 1) := by decide +kernel
theorem dX7_comes_15 : decode cX7_comes 15 = .ok (.ldc2_w 102, 3) := by decide +kernel
theorem dX7_comes_18 : decode cX7_comes 18 = .ok (.invokestatic 96, 3) := by decide +kernel
theorem dX7_comes_21 : decode cX7_comes 21 = .ok (.ifCond .ne 5, 3) := by decide +kernel
theorem dX7_comes_24 : decode cX7_comes 24 = .ok (.iconst (-1), 1) := by decide +kernel
theorem dX7_comes_25 : decode cX7_comes 25 = .ok (.ireturn, 1) := by decide +kernel
theorem dX7_comes_26 : decode cX7_comes 26 = .ok (.aload_n 0, 1) := by decide +kernel
theorem dX7_comes_27 : decode cX7_comes 27 = .ok (.getfield 93, 3) := by decide +kernel
theorem dX7_comes_30 : decode cX7_comes 30 = .ok (.bipush 60, 2) := by decide +kernel
theorem dX7_comes_32 : decode cX7_comes 32 = .ok (.if_icmp .ne 6, 3) := by decide +kernel
theorem dX7_comes_35 : decode cX7_comes 35 = .ok (.bipush (-2), 2) := by decide +kernel
theorem dX7_comes_37 : decode cX7_comes 37 = .ok (.ireturn, 1) := by decide +kernel
theorem dX7_comes_38 : decode cX7_comes 38 = .ok (.aload_n 0, 1) := by decide +kernel
theorem dX7_comes_39 : decode cX7_comes 39 = .ok (.getfield 7, 3) := by decide +kernel
theorem dX7_comes_42 : decode cX7_comes 42 = .ok (.aload_n 0, 1) := by decide +kernel
theorem dX7_comes_43 : decode cX7_comes 43 = .ok (.getfield 93, 3) := by decide +kernel
theorem dX7_comes_46 : decode cX7_comes 46 = .ok (.iload_n 1, 1) := by decide +kernel
theorem dX7_comes_47 : decode cX7_comes 47 = .ok (.iastore, 1) := by decide +kernel
theorem dX7_comes_48 : decode cX7_comes 48 = .ok (.aload_n 0, 1) := by decide +kernel
theorem dX7_comes_49 : decode cX7_comes 49 = .ok (.getfield 13, 3) := by decide +kernel
theorem dX7_comes_52 : decode cX7_comes 52 = .ok (.aload_n 0, 1) := by decide +kernel
theorem dX7_comes_53 : decode cX7_comes 53 = .ok (.getfield 93, 3) := by decide +kernel
theorem dX7_comes_56 : decode cX7_comes 56 = .ok (.iload_n 2, 1) := by decide +kernel
theorem dX7_comes_57 : decode cX7_comes 57 = .ok (.iastore, 1) := by decide +kernel
theorem dX7_comes_58 : decode cX7_comes 58 = .ok (.aload_n 0, 1) := by decide +kernel
theorem dX7_comes_59 : decode cX7_comes 59 = .ok (.getfield 16, 3) := by decide +kernel
theorem dX7_comes_62 : decode cX7_comes 62 = .ok (.aload_n 0, 1) := by decide +kernel
theorem dX7_comes_63 : decode cX7_comes 63 = .ok (.getfield 93, 3) := by decide +kernel
theorem dX7_comes_66 : decode cX7_comes 66 = .ok (.iload_n 3, 1) := by decide +kernel
theorem dX7_comes_67 : decode cX7_comes 67 = .ok (.iastore, 1) := by decide +kernel
theorem dX7_comes_68 : decode cX7_comes 68 = .ok (.aload_n 0, 1) := by decide +kernel
theorem dX7_comes_69 : decode cX7_comes 69 = .ok (.getfield 22, 3) := by decide +kernel
theorem dX7_comes_72 : decode cX7_comes 72 = .ok (.aload_n 0, 1) := by decide +kernel
theorem dX7_comes_73 : decode cX7_comes 73 = .ok (.getfield 93, 3) := by decide +kernel
theorem dX7_comes_76 : decode cX7_comes 76 = .ok (.iload 4, 2) := by decide +kernel
theorem dX7_comes_78 : decode cX7_comes 78 = .ok (.iastore, 1) := by decide +kernel
theorem dX7_comes_79 : decode cX7_comes 79 = .ok (.aload_n 0, 1) := by decide +kernel
theorem dX7_comes_80 : decode cX7_comes 80 = .ok (.getfield 25, 3) := by decide +kernel
theorem dX7_comes_83 : decode cX7_comes 83 = .ok (.aload_n 0, 1) := by decide +kernel
theorem dX7_comes_84 : decode cX7_comes 84 = .ok (.getfield 93, 3) := by decide +kernel
theorem dX7_comes_87 : decode cX7_comes 87 = .ok (.iload 5, 2) := by decide +kernel
theorem dX7_comes_89 : decode cX7_comes 89 = .ok (.iastore, 1) := by decide +kernel
theorem dX7_comes_90 : decode cX7_comes 90 = .ok (.aload_n 0, 1) := by decide +kernel
theorem dX7_comes_91 : decode cX7_comes 91 = .ok (.getfield 19, 3) := by decide +kernel
theorem dX7_comes_94 : decode cX7_comes 94 = .ok (.aload_n 0, 1) := by decide +kernel
theorem dX7_comes_95 : decode cX7_comes 95 = .ok (.getfield 93, 3) := by decide +kernel
theorem dX7_comes_98 : decode cX7_comes 98 = .ok (.iload 4, 2) := by decide +kernel
theorem dX7_comes_100 : decode cX7_comes 100 = .ok (.iload 5, 2) := by decide +kernel
theorem dX7_comes_102 : decode cX7_comes 102 = .ok (.imul, 1) := by decide +kernel
theorem dX7_comes_103 : decode cX7_comes 103 = .ok (.iastore, 1) := by decide +kernel
theorem dX7_comes_104 : decode cX7_comes 104 = .ok (.iconst 0, 1) := by decide +kernel
theorem dX7_comes_105 : decode cX7_comes 105 = .ok (.istore 6, 2) := by decide +kernel
theorem dX7_comes_107 : decode cX7_comes 107 = .ok (.iload 6, 2) := by decide +kernel
theorem dX7_comes_109 : decode cX7_comes 109 = .ok (.sipush 1600, 3) := by decide +kernel
theorem dX7_comes_112 : decode cX7_comes 112 = .ok (.if_icmp .ge 26, 3) := by decide +kernel
theorem dX7_comes_115 : decode cX7_comes 115 = .ok (.aload_n 0, 1) := by decide +kernel
theorem dX7_comes_116 : decode cX7_comes 116 = .ok (.getfield 29, 3) := by decide +kernel
theorem dX7_comes_119 : decode cX7_comes 119 = .ok (.sipush 1600, 3) := by decide +kernel
theorem dX7_comes_122 : decode cX7_comes 122 = .ok (.aload_n 0, 1) := by decide +kernel
theorem dX7_comes_123 : decode cX7_comes 123 = .ok (.getfield 93, 3) := by decide +kernel
theorem dX7_comes_126 : decode cX7_comes 126 = .ok (.imul, 1) := by decide +kernel
theorem dX7_comes_127 : decode cX7_comes 127 = .ok (.iload 6, 2) := by decide +kernel
theorem dX7_comes_129 : decode cX7_comes 129 = .ok (.iadd, 1) := by decide +kernel
theorem dX7_comes_130 : decode cX7_comes 130 = .ok (.iconst 0, 1) := by decide +kernel
theorem dX7_comes_131 : decode cX7_comes 131 = .ok (.iastore, 1) := by decide +kernel
theorem dX7_comes_132 : decode cX7_comes 132 = .ok (.iinc 6 1, 3) := by decide +kernel
theorem dX7_comes_135 : decode cX7_comes 135 = .ok (.goto (-28), 3) := by decide +kernel
theorem dX7_comes_138 : decode cX7_comes 138 = .ok (.aload_n 0, 1) := by decide +kernel
theorem dX7_comes_139 : decode cX7_comes 139 = .ok (.dup, 1) := by decide +kernel
theorem dX7_comes_140 : decode cX7_comes 140 = .ok (.getfield 93, 3) := by decide +kernel
theorem dX7_comes_143 : decode cX7_comes 143 = .ok (.iconst 1, 1) := by decide +kernel
theorem dX7_comes_144 : decode cX7_comes 144 = .ok (.iadd, 1) := by decide +kernel
theorem dX7_comes_145 : decode cX7_comes 145 = .ok (.putfield 93, 3) := by decide +kernel
theorem dX7_comes_148 : decode cX7_comes 148 = .ok (.aload_n 0, 1) := by decide +kernel
theorem dX7_comes_149 : decode cX7_comes 149 = .ok (.getfield 93, 3) := by decide +kernel
theorem dX7_comes_152 : decode cX7_comes 152 = .ok (.iconst 1, 1) := by decide +kernel
theorem dX7_comes_153 : decode cX7_comes 153 = .ok (.isub, 1) := by decide +kernel
theorem dX7_comes_154 : decode cX7_comes 154 = .ok (.ireturn, 1) := by decide +kernel
set_option maxRecDepth 20000 in
theorem ggX7_row_X7_comes : GoodIn wsX7_row wsX7_comes := goodIn_r _ [6, 7, 8, 9, 10, 11, 12, 13, 14, 15, 16, 17, 18, 5, 19, 20, 21, 22, 23, 24, 25, 26, 27, 28, 29, 30, 31, 32, 33, 34, 35, 36, 37, 38, 39, 40, 41, 42, 43, 44, 45, 46, 47, 48, 49] (by decide +kernel) (by decide +kernel)
set_option maxRecDepth 20000 in
theorem gX7_row_X7_comes : GoodIn wsX7_row (wsV RX7 104 RX7 yX7_comes wsX7_comes) := goodIn_app (goodIn_of _ (by decide +kernel)) ggX7_row_X7_comes
theorem dX7_row_0 : decode cX7_row 0 = .ok (.aload_n 0, 1) := by decide +kernel
theorem dX7_row_1 : decode cX7_row 1 = .ok (.iconst 0, 1) := by decide +kernel
theorem dX7_row_2 : decode cX7_row 2 = .ok (.putfield 69, 3) := by decide +kernel
theorem dX7_row_5 : decode cX7_row 5 = .ok (.iload_n 1, 1) := by decide +kernel
theorem dX7_row_6 : decode cX7_row 6 = .ok (.ifCond .eq 12, 3) := by decide +kernel
theorem dX7_row_9 : decode cX7_row 9 = .ok (.iload_n 1, 1) := by decide +kernel
theorem dX7_row_10 : decode cX7_row 10 = .ok (.iconst 2, 1) := by decide +kernel
theorem dX7_row_11 : decode cX7_row 11 = .ok (.if_icmp .eq 7, 3) := by decide +kernel
theorem dX7_row_14 : decode cX7_row 14 = .ok (.iconst (-1), 1) := by decide +kernel
theorem dX7_row_15 : decode cX7_row 15 = .ok (.goto 12, 3) := by decide +kernel
theorem dX7_row_18 : decode cX7_row 18 = .ok (.aload_n 0, 1) := by decide +kernel
theorem dX7_row_19 : decode cX7_row 19 = .ok (.iload_n 1, 1) := by decide +kernel
theorem dX7_row_20 : decode cX7_row 20 = .ok (.iload_n 2, 1) := by decide +kernel
theorem dX7_row_21 : decode cX7_row 21 = .ok (.iload_n 3, 1) := by decide +kernel
theorem dX7_row_22 : decode cX7_row 22 = .ok (.iconst 0, 1) := by decide +kernel
theorem dX7_row_23 : decode cX7_row 23 = .ok (.iconst 0, 1) := by decide +kernel
theorem dX7_row_24 : decode cX7_row 24 = .ok (.invokevirtual 104, 3) := by decide +kernel
theorem dX7_row_27 : decode cX7_row 27 = .ok (.ireturn, 1) := by decide +kernel
set_option maxRecDepth 20000 in
theorem ggX7_picture_X7_in : GoodIn wsX7_picture wsX7_in := goodIn_r _ [6] (by decide +kernel) (by decide +kernel)
set_option maxRecDepth 20000 in
theorem gX7_picture_X7_in : GoodIn wsX7_picture (va_wsS RX7 96 yX7_in wsX7_in) := goodIn_app (goodIn_of _ (by decide +kernel)) ggX7_picture_X7_in
set_option maxRecDepth 20000 in
theorem ggX7_picture_X7_comes : GoodIn wsX7_picture wsX7_comes := goodIn_r _ [10, 11, 12, 13, 14, 15, 16, 17, 18, 19, 20, 3, 4, 5, 6, 21, 22, 23, 24, 25, 26, 27, 28, 29, 30, 31, 32, 33, 34, 35, 36, 37, 38, 39, 40, 41, 42, 43, 44, 45, 46, 47, 48, 49, 50] (by decide +kernel) (by decide +kernel)
set_option maxRecDepth 20000 in
theorem gX7_picture_X7_comes : GoodIn wsX7_picture (wsV RX7 104 RX7 yX7_comes wsX7_comes) := goodIn_app (goodIn_of _ (by decide +kernel)) ggX7_picture_X7_comes
theorem dX7_picture_0 : decode cX7_picture 0 = .ok (.aload_n 0, 1) := by decide +kernel
theorem dX7_picture_1 : decode cX7_picture 1 = .ok (.iconst 0, 1) := by decide +kernel
theorem dX7_picture_2 : decode cX7_picture 2 = .ok (.putfield 69, 3) := by decide +kernel
theorem dX7_picture_5 : decode cX7_picture 5 = .ok (.iload_n 1, 1) := by decide +kernel
theorem dX7_picture_6 : decode cX7_picture 6 = .ok (.i2l, 1) := by decide +kernel
theorem dX7_picture_7 : decode cX7_picture 7 = .ok (.lconst 1, 1) := by decide +kernel
theorem dX7_picture_8 : decode cX7_picture 8 = .ok (.ldc2_w 108, 3) := by decide +kernel
theorem dX7_picture_11 : decode cX7_picture 11 = .ok (.invokestatic 96, 3) := by decide +kernel
theorem dX7_picture_14 : decode cX7_picture 14 = .ok (.ifCond .eq 15, 3) := by decide +kernel
theorem dX7_picture_17 : decode cX7_picture 17 = .ok (.iload_n 2, 1) := by decide +kernel
theorem dX7_picture_18 : decode cX7_picture 18 = .ok (.i2l, 1) := by decide +kernel
theorem dX7_picture_19 : decode cX7_picture 19 = .ok (.lconst 1, 1) := by decide +kernel
theorem dX7_picture_20 : decode cX7_picture 20 = .ok (.ldc2_w 108, 3) := by decide +kernel
theorem dX7_picture_23 : decode cX7_picture 23 = .ok (.invokestatic 96, 3) := by decide +kernel
theorem dX7_picture_26 : decode cX7_picture 26 = .ok (.ifCond .ne 7, 3) := by decide +kernel
theorem dX7_picture_29 : decode cX7_picture 29 = .ok (.iconst (-1), 1) := by decide +kernel
theorem dX7_picture_30 : decode cX7_picture 30 = .ok (.goto 13, 3) := by decide +kernel
theorem dX7_picture_33 : decode cX7_picture 33 = .ok (.aload_n 0, 1) := by decide +kernel
theorem dX7_picture_34 : decode cX7_picture 34 = .ok (.iconst 1, 1) := by decide +kernel
theorem dX7_picture_35 : decode cX7_picture 35 = .ok (.iload_n 3, 1) := by decide +kernel
theorem dX7_picture_36 : decode cX7_picture 36 = .ok (.iload 4, 2) := by decide +kernel
theorem dX7_picture_38 : decode cX7_picture 38 = .ok (.iload_n 1, 1) := by decide +kernel
theorem dX7_picture_39 : decode cX7_picture 39 = .ok (.iload_n 2, 1) := by decide +kernel
theorem dX7_picture_40 : decode cX7_picture 40 = .ok (.invokevirtual 104, 3) := by decide +kernel
theorem dX7_picture_43 : decode cX7_picture 43 = .ok (.ireturn, 1) := by decide +kernel
set_option maxRecDepth 20000 in
theorem ggX7_word_X7_isRow : GoodIn wsX7_word wsX7_isRow := goodIn_r _ [9, 10, 11, 12, 8, 13, 14, 15, 16, 17, 18, 19, 20, 21, 22, 23, 24, 25, 26, 27, 28, 29, 30, 31, 32, 33, 34, 35, 36, 37, 38, 39, 40, 41, 42, 43] (by decide +kernel) (by decide +kernel)
set_option maxRecDepth 20000 in
theorem gX7_word_X7_isRow : GoodIn wsX7_word (wsV RX7 110 RX7 yX7_isRow wsX7_isRow) := goodIn_app (goodIn_of _ (by decide +kernel)) ggX7_word_X7_isRow
theorem dX7_word_0 : decode cX7_word 0 = .ok (.aload_n 0, 1) := by decide +kernel
theorem dX7_word_1 : decode cX7_word 1 = .ok (.iconst 0, 1) := by decide +kernel
theorem dX7_word_2 : decode cX7_word 2 = .ok (.putfield 69, 3) := by decide +kernel
theorem dX7_word_5 : decode cX7_word 5 = .ok (.aload_n 0, 1) := by decide +kernel
theorem dX7_word_6 : decode cX7_word 6 = .ok (.iload_n 1, 1) := by decide +kernel
theorem dX7_word_7 : decode cX7_word 7 = .ok (.invokevirtual 110, 3) := by decide +kernel
theorem dX7_word_10 : decode cX7_word 10 = .ok (.ifCond .eq 12, 3) := by decide +kernel
theorem dX7_word_13 : decode cX7_word 13 = .ok (.aload_n 0, 1) := by decide +kernel
theorem dX7_word_14 : decode cX7_word 14 = .ok (.getfield 7, 3) := by decide +kernel
theorem dX7_word_17 : decode cX7_word 17 = .ok (.iload_n 1, 1) := by decide +kernel
theorem dX7_word_18 : decode cX7_word 18 = .ok (.iaload, 1) := by decide +kernel
theorem dX7_word_19 : decode cX7_word 19 = .ok (.ifCond .eq 5, 3) := by decide +kernel
theorem dX7_word_22 : decode cX7_word 22 = .ok (.iconst (-1), 1) := by decide +kernel
theorem dX7_word_23 : decode cX7_word 23 = .ok (.ireturn, 1) := by decide +kernel
theorem dX7_word_24 : decode cX7_word 24 = .ok (.aload_n 0, 1) := by decide +kernel
theorem dX7_word_25 : decode cX7_word 25 = .ok (.getfield 19, 3) := by decide +kernel
theorem dX7_word_28 : decode cX7_word 28 = .ok (.iload_n 1, 1) := by decide +kernel
theorem dX7_word_29 : decode cX7_word 29 = .ok (.iaload, 1) := by decide +kernel
theorem dX7_word_30 : decode cX7_word 30 = .ok (.bipush 40, 2) := by decide +kernel
theorem dX7_word_32 : decode cX7_word 32 = .ok (.if_icmp .ne 6, 3) := by decide +kernel
theorem dX7_word_35 : decode cX7_word 35 = .ok (.bipush (-2), 2) := by decide +kernel
theorem dX7_word_37 : decode cX7_word 37 = .ok (.ireturn, 1) := by decide +kernel
theorem dX7_word_38 : decode cX7_word 38 = .ok (.aload_n 0, 1) := by decide +kernel
theorem dX7_word_39 : decode cX7_word 39 = .ok (.getfield 29, 3) := by decide +kernel
theorem dX7_word_42 : decode cX7_word 42 = .ok (.sipush 1600, 3) := by decide +kernel
theorem dX7_word_45 : decode cX7_word 45 = .ok (.iload_n 1, 1) := by decide +kernel
theorem dX7_word_46 : decode cX7_word 46 = .ok (.imul, 1) := by decide +kernel
theorem dX7_word_47 : decode cX7_word 47 = .ok (.aload_n 0, 1) := by decide +kernel
theorem dX7_word_48 : decode cX7_word 48 = .ok (.getfield 19, 3) := by decide +kernel
theorem dX7_word_51 : decode cX7_word 51 = .ok (.iload_n 1, 1) := by decide +kernel
theorem dX7_word_52 : decode cX7_word 52 = .ok (.iaload, 1) := by decide +kernel
theorem dX7_word_53 : decode cX7_word 53 = .ok (.iadd, 1) := by decide +kernel
theorem dX7_word_54 : decode cX7_word 54 = .ok (.iload_n 2, 1) := by decide +kernel
theorem dX7_word_55 : decode cX7_word 55 = .ok (.iastore, 1) := by decide +kernel
theorem dX7_word_56 : decode cX7_word 56 = .ok (.aload_n 0, 1) := by decide +kernel
theorem dX7_word_57 : decode cX7_word 57 = .ok (.getfield 19, 3) := by decide +kernel
theorem dX7_word_60 : decode cX7_word 60 = .ok (.iload_n 1, 1) := by decide +kernel
theorem dX7_word_61 : decode cX7_word 61 = .ok (.dup2, 1) := by decide +kernel
theorem dX7_word_62 : decode cX7_word 62 = .ok (.iaload, 1) := by decide +kernel
theorem dX7_word_63 : decode cX7_word 63 = .ok (.iconst 1, 1) := by decide +kernel
theorem dX7_word_64 : decode cX7_word 64 = .ok (.iadd, 1) := by decide +kernel
theorem dX7_word_65 : decode cX7_word 65 = .ok (.iastore, 1) := by decide +kernel
theorem dX7_word_66 : decode cX7_word 66 = .ok (.aload_n 0, 1) := by decide +kernel
theorem dX7_word_67 : decode cX7_word 67 = .ok (.getfield 19, 3) := by decide +kernel
theorem dX7_word_70 : decode cX7_word 70 = .ok (.iload_n 1, 1) := by decide +kernel
theorem dX7_word_71 : decode cX7_word 71 = .ok (.iaload, 1) := by decide +kernel
theorem dX7_word_72 : decode cX7_word 72 = .ok (.ireturn, 1) := by decide +kernel
set_option maxRecDepth 20000 in
theorem ggX7_paint_X7_isRow : GoodIn wsX7_paint wsX7_isRow := goodIn_r _ [10, 11, 12, 13, 9, 14, 15, 16, 17, 18, 19, 20, 21, 22, 23, 24, 25, 26, 27, 28, 29, 30, 31, 32, 33, 34, 35, 36, 37, 38, 39, 40, 41, 42, 43, 44] (by decide +kernel) (by decide +kernel)
set_option maxRecDepth 20000 in
theorem gX7_paint_X7_isRow : GoodIn wsX7_paint (wsV RX7 110 RX7 yX7_isRow wsX7_isRow) := goodIn_app (goodIn_of _ (by decide +kernel)) ggX7_paint_X7_isRow
set_option maxRecDepth 20000 in
theorem ggX7_paint_X7_in : GoodIn wsX7_paint wsX7_in := goodIn_r _ [14] (by decide +kernel) (by decide +kernel)
set_option maxRecDepth 20000 in
theorem gX7_paint_X7_in : GoodIn wsX7_paint (va_wsS RX7 96 yX7_in wsX7_in) := goodIn_app (goodIn_of _ (by decide +kernel)) ggX7_paint_X7_in
theorem dX7_paint_0 : decode cX7_paint 0 = .ok (.aload_n 0, 1) := by decide +kernel
theorem dX7_paint_1 : decode cX7_paint 1 = .ok (.iconst 0, 1) := by decide +kernel
theorem dX7_paint_2 : decode cX7_paint 2 = .ok (.putfield 69, 3) := by decide +kernel
theorem dX7_paint_5 : decode cX7_paint 5 = .ok (.aload_n 0, 1) := by decide +kernel
theorem dX7_paint_6 : decode cX7_paint 6 = .ok (.iload_n 1, 1) := by decide +kernel
theorem dX7_paint_7 : decode cX7_paint 7 = .ok (.invokevirtual 110, 3) := by decide +kernel
theorem dX7_paint_10 : decode cX7_paint 10 = .ok (.ifCond .eq 31, 3) := by decide +kernel
theorem dX7_paint_13 : decode cX7_paint 13 = .ok (.aload_n 0, 1) := by decide +kernel
theorem dX7_paint_14 : decode cX7_paint 14 = .ok (.getfield 7, 3) := by decide +kernel
theorem dX7_paint_17 : decode cX7_paint 17 = .ok (.iload_n 1, 1) := by decide +kernel
theorem dX7_paint_18 : decode cX7_paint 18 = .ok (.iaload, 1) := by decide +kernel
theorem dX7_paint_19 : decode cX7_paint 19 = .ok (.iconst 1, 1) := by decide +kernel
theorem dX7_paint_20 : decode cX7_paint 20 = .ok (.if_icmp .ne 21, 3) := by decide +kernel
theorem dX7_paint_23 : decode cX7_paint 23 = .ok (.iload_n 2, 1) := by decide +kernel
theorem dX7_paint_24 : decode cX7_paint 24 = .ok (.i2l, 1) := by decide +kernel
theorem dX7_paint_25 : decode cX7_paint 25 = .ok (.lconst 0, 1) := by decide +kernel
theorem dX7_paint_26 : decode cX7_paint 26 = .ok (.aload_n 0, 1) := by decide +kernel
theorem dX7_paint_27 : decode cX7_paint 27 = .ok (.getfield 19, 3) := by decide +kernel
theorem dX7_paint_30 : decode cX7_paint 30 = .ok (.iload_n 1, 1) := by decide +kernel
theorem dX7_paint_31 : decode cX7_paint 31 = .ok (.iaload, 1) := by decide +kernel
theorem dX7_paint_32 : decode cX7_paint 32 = .ok (.iconst 1, 1) := by decide +kernel
theorem dX7_paint_33 : decode cX7_paint 33 = .ok (.isub, 1) := by decide +kernel
theorem dX7_paint_34 : decode cX7_paint 34 = .ok (.i2l, 1) := by decide +kernel
theorem dX7_paint_35 : decode cX7_paint 35 = .ok (.invokestatic 96, 3) := by decide +kernel
theorem dX7_paint_38 : decode cX7_paint 38 = .ok (.ifCond .ne 5, 3) := by decide +kernel
theorem dX7_paint_41 : decode cX7_paint 41 = .ok (.iconst (-1), 1) := by decide +kernel
theorem dX7_paint_42 : decode cX7_paint 42 = .ok (.ireturn, 1) := by decide +kernel
theorem dX7_paint_43 : decode cX7_paint 43 = .ok (.iconst 0, 1) := by decide +kernel
theorem dX7_paint_44 : decode cX7_paint 44 = .ok (.istore 5, 2) := by decide +kernel
theorem dX7_paint_46 : decode cX7_paint 46 = .ok (.iload 5, 2) := by decide +kernel
theorem dX7_paint_48 : decode cX7_paint 48 = .ok (.bipush 8, 2) := by decide +kernel
theorem dX7_paint_50 : decode cX7_paint 50 = .ok (.if_icmp .ge 52, 3) := by decide +kernel
theorem dX7_paint_53 : decode cX7_paint 53 = .ok (.iload_n 2, 1) := by decide +kernel
theorem dX7_paint_54 : decode cX7_paint 54 = .ok (.iload 5, 2) := by decide +kernel
theorem dX7_paint_56 : decode cX7_paint 56 = .ok (.iadd, 1) := by decide +kernel
theorem dX7_paint_57 : decode cX7_paint 57 = .ok (.aload_n 0, 1) := by decide +kernel
theorem dX7_paint_58 : decode cX7_paint 58 = .ok (.getfield 19, 3) := by decide +kernel
theorem dX7_paint_61 : decode cX7_paint 61 = .ok (.iload_n 1, 1) := by decide +kernel
theorem dX7_paint_62 : decode cX7_paint 62 = .ok (.iaload, 1) := by decide +kernel
theorem dX7_paint_63 : decode cX7_paint 63 = .ok (.if_icmp .ge 39, 3) := by decide +kernel
theorem dX7_paint_66 : decode cX7_paint 66 = .ok (.aload_n 0, 1) := by decide +kernel
theorem dX7_paint_67 : decode cX7_paint 67 = .ok (.getfield 29, 3) := by decide +kernel
theorem dX7_paint_70 : decode cX7_paint 70 = .ok (.sipush 1600, 3) := by decide +kernel
theorem dX7_paint_73 : decode cX7_paint 73 = .ok (.iload_n 1, 1) := by decide +kernel
theorem dX7_paint_74 : decode cX7_paint 74 = .ok (.imul, 1) := by decide +kernel
theorem dX7_paint_75 : decode cX7_paint 75 = .ok (.iload_n 2, 1) := by decide +kernel
theorem dX7_paint_76 : decode cX7_paint 76 = .ok (.iadd, 1) := by decide +kernel
theorem dX7_paint_77 : decode cX7_paint 77 = .ok (.iload 5, 2) := by decide +kernel
theorem dX7_paint_79 : decode cX7_paint 79 = .ok (.iadd, 1) := by decide +kernel
theorem dX7_paint_80 : decode cX7_paint 80 = .ok (.lload_n 3, 1) := by decide +kernel
theorem dX7_paint_81 : decode cX7_paint 81 = .ok (.bipush 56, 2) := by decide +kernel
theorem dX7_paint_83 : decode cX7_paint 83 = .ok (.bipush 8, 2) := by decide +kernel
theorem dX7_paint_85 : decode cX7_paint 85 = .ok (.iload 5, 2) := by decide +kernel
theorem dX7_paint_87 : decode cX7_paint 87 = .ok (.imul, 1) := by decide +kernel
theorem dX7_paint_88 : decode cX7_paint 88 = .ok (.isub, 1) := by decide +kernel
theorem dX7_paint_89 : decode cX7_paint 89 = .ok (.lushr, 1) := by decide +kernel
theorem dX7_paint_90 : decode cX7_paint 90 = .ok (.ldc2_w 114, 3) := by decide +kernel
theorem dX7_paint_93 : decode cX7_paint 93 = .ok (.land, 1) := by decide +kernel
theorem dX7_paint_94 : decode cX7_paint 94 = .ok (.l2i, 1) := by decide +kernel
theorem dX7_paint_95 : decode cX7_paint 95 = .ok (.iastore, 1) := by decide +kernel
theorem dX7_paint_96 : decode cX7_paint 96 = .ok (.iinc 5 1, 3) := by decide +kernel
theorem dX7_paint_99 : decode cX7_paint 99 = .ok (.goto (-53), 3) := by decide +kernel
theorem dX7_paint_102 : decode cX7_paint 102 = .ok (.iconst 1, 1) := by decide +kernel
theorem dX7_paint_103 : decode cX7_paint 103 = .ok (.ireturn, 1) := by decide +kernel
set_option maxRecDepth 20000 in
theorem ggX7_mark_X7_isRow : GoodIn wsX7_mark wsX7_isRow := goodIn_r _ [10, 11, 12, 13, 9, 14, 15, 16, 17, 18, 19, 20, 21, 22, 23, 24, 25, 26, 27, 28, 29, 30, 31, 32, 33, 34, 35, 36, 37, 38, 39, 40, 41, 42, 43, 44] (by decide +kernel) (by decide +kernel)
set_option maxRecDepth 20000 in
theorem gX7_mark_X7_isRow : GoodIn wsX7_mark (wsV RX7 110 RX7 yX7_isRow wsX7_isRow) := goodIn_app (goodIn_of _ (by decide +kernel)) ggX7_mark_X7_isRow
set_option maxRecDepth 20000 in
theorem ggX7_mark_X7_in : GoodIn wsX7_mark wsX7_in := goodIn_r _ [14] (by decide +kernel) (by decide +kernel)
set_option maxRecDepth 20000 in
theorem gX7_mark_X7_in : GoodIn wsX7_mark (va_wsS RX7 96 yX7_in wsX7_in) := goodIn_app (goodIn_of _ (by decide +kernel)) ggX7_mark_X7_in
theorem dX7_mark_0 : decode cX7_mark 0 = .ok (.aload_n 0, 1) := by decide +kernel
theorem dX7_mark_1 : decode cX7_mark 1 = .ok (.iconst 0, 1) := by decide +kernel
theorem dX7_mark_2 : decode cX7_mark 2 = .ok (.putfield 69, 3) := by decide +kernel
theorem dX7_mark_5 : decode cX7_mark 5 = .ok (.aload_n 0, 1) := by decide +kernel
theorem dX7_mark_6 : decode cX7_mark 6 = .ok (.iload_n 1, 1) := by decide +kernel
theorem dX7_mark_7 : decode cX7_mark 7 = .ok (.invokevirtual 110, 3) := by decide +kernel
theorem dX7_mark_10 : decode cX7_mark 10 = .ok (.ifCond .eq 27, 3) := by decide +kernel
theorem dX7_mark_13 : decode cX7_mark 13 = .ok (.iload_n 2, 1) := by decide +kernel
theorem dX7_mark_14 : decode cX7_mark 14 = .ok (.i2l, 1) := by decide +kernel
theorem dX7_mark_15 : decode cX7_mark 15 = .ok (.lconst 0, 1) := by decide +kernel
theorem dX7_mark_16 : decode cX7_mark 16 = .ok (.ldc2_w 100, 3) := by decide +kernel
theorem dX7_mark_19 : decode cX7_mark 19 = .ok (.invokestatic 96, 3) := by decide +kernel
theorem dX7_mark_22 : decode cX7_mark 22 = .ok (.ifCond .eq 15, 3) := by decide +kernel
theorem dX7_mark_25 : decode cX7_mark 25 = .ok (.iload_n 3, 1) := by decide +kernel
theorem dX7_mark_26 : decode cX7_mark 26 = .ok (.i2l, 1) := by decide +kernel
theorem dX7_mark_27 : decode cX7_mark 27 = .ok (.lconst 0, 1) := by decide +kernel
theorem dX7_mark_28 : decode cX7_mark 28 = .ok (.ldc2_w 102, 3) := by decide +kernel
theorem dX7_mark_31 : decode cX7_mark 31 = .ok (.invokestatic 96, 3) := by decide +kernel
theorem dX7_mark_34 : decode cX7_mark 34 = .ok (.ifCond .ne 5, 3) := by decide +kernel
theorem dX7_mark_37 : decode cX7_mark 37 = .ok (.iconst (-1), 1) := by decide +kernel
theorem dX7_mark_38 : decode cX7_mark 38 = .ok (.ireturn, 1) := by decide +kernel
theorem dX7_mark_39 : decode cX7_mark 39 = .ok (.aload_n 0, 1) := by decide +kernel
theorem dX7_mark_40 : decode cX7_mark 40 = .ok (.getfield 13, 3) := by decide +kernel
theorem dX7_mark_43 : decode cX7_mark 43 = .ok (.iload_n 1, 1) := by decide +kernel
theorem dX7_mark_44 : decode cX7_mark 44 = .ok (.iload_n 2, 1) := by decide +kernel
theorem dX7_mark_45 : decode cX7_mark 45 = .ok (.iastore, 1) := by decide +kernel
theorem dX7_mark_46 : decode cX7_mark 46 = .ok (.aload_n 0, 1) := by decide +kernel
theorem dX7_mark_47 : decode cX7_mark 47 = .ok (.getfield 16, 3) := by decide +kernel
theorem dX7_mark_50 : decode cX7_mark 50 = .ok (.iload_n 1, 1) := by decide +kernel
theorem dX7_mark_51 : decode cX7_mark 51 = .ok (.iload_n 3, 1) := by decide +kernel
theorem dX7_mark_52 : decode cX7_mark 52 = .ok (.iastore, 1) := by decide +kernel
theorem dX7_mark_53 : decode cX7_mark 53 = .ok (.iconst 1, 1) := by decide +kernel
theorem dX7_mark_54 : decode cX7_mark 54 = .ok (.ireturn, 1) := by decide +kernel
set_option maxRecDepth 20000 in
theorem ggX7_of_X7_isRow : GoodIn wsX7_of wsX7_isRow := goodIn_r _ [12, 13, 14, 15, 11, 16, 17, 18, 19, 20, 21, 22, 23, 24, 25, 26, 27, 28, 29, 30, 31, 32, 33, 34, 35, 36, 37, 38, 39, 40, 41, 42, 43, 44, 45, 46] (by decide +kernel) (by decide +kernel)
set_option maxRecDepth 20000 in
theorem gX7_of_X7_isRow : GoodIn wsX7_of (wsV RX7 110 RX7 yX7_isRow wsX7_isRow) := goodIn_app (goodIn_of _ (by decide +kernel)) ggX7_of_X7_isRow
theorem dX7_of_0 : decode cX7_of 0 = .ok (.aload_n 0, 1) := by decide +kernel
theorem dX7_of_1 : decode cX7_of 1 = .ok (.iconst 0, 1) := by decide +kernel
theorem dX7_of_2 : decode cX7_of 2 = .ok (.putfield 69, 3) := by decide +kernel
theorem dX7_of_5 : decode cX7_of 5 = .ok (.aload_n 0, 1) := by decide +kernel
theorem dX7_of_6 : decode cX7_of 6 = .ok (.iload_n 1, 1) := by decide +kernel
theorem dX7_of_7 : decode cX7_of 7 = .ok (.invokevirtual 110, 3) := by decide +kernel
theorem dX7_of_10 : decode cX7_of 10 = .ok (.ifCond .ne 5, 3) := by decide +kernel
theorem dX7_of_13 : decode cX7_of 13 = .ok (.iconst (-1), 1) := by decide +kernel
theorem dX7_of_14 : decode cX7_of 14 = .ok (.ireturn, 1) := by decide +kernel
theorem dX7_of_15 : decode cX7_of 15 = .ok (.iload_n 2, 1) := by decide +kernel
theorem dX7_of_16 : decode cX7_of 16 = .ok (.tableswitch 82 0 5 #[40, 47, 54, 61, 68, 75], 40) := by decide +kernel
theorem dX7_of_56 : decode cX7_of 56 = .ok (.aload_n 0, 1) := by decide +kernel
theorem dX7_of_57 : decode cX7_of 57 = .ok (.getfield 7, 3) := by decide +kernel
theorem dX7_of_60 : decode cX7_of 60 = .ok (.iload_n 1, 1) := by decide +kernel
theorem dX7_of_61 : decode cX7_of 61 = .ok (.iaload, 1) := by decide +kernel
theorem dX7_of_62 : decode cX7_of 62 = .ok (.ireturn, 1) := by decide +kernel
theorem dX7_of_63 : decode cX7_of 63 = .ok (.aload_n 0, 1) := by decide +kernel
theorem dX7_of_64 : decode cX7_of 64 = .ok (.getfield 13, 3) := by decide +kernel
theorem dX7_of_67 : decode cX7_of 67 = .ok (.iload_n 1, 1) := by decide +kernel
theorem dX7_of_68 : decode cX7_of 68 = .ok (.iaload, 1) := by decide +kernel
theorem dX7_of_69 : decode cX7_of 69 = .ok (.ireturn, 1) := by decide +kernel
theorem dX7_of_70 : decode cX7_of 70 = .ok (.aload_n 0, 1) := by decide +kernel
theorem dX7_of_71 : decode cX7_of 71 = .ok (.getfield 16, 3) := by decide +kernel
theorem dX7_of_74 : decode cX7_of 74 = .ok (.iload_n 1, 1) := by decide +kernel
theorem dX7_of_75 : decode cX7_of 75 = .ok (.iaload, 1) := by decide +kernel
theorem dX7_of_76 : decode cX7_of 76 = .ok (.ireturn, 1) := by decide +kernel
theorem dX7_of_77 : decode cX7_of 77 = .ok (.aload_n 0, 1) := by decide +kernel
theorem dX7_of_78 : decode cX7_of 78 = .ok (.getfield 19, 3) := by decide +kernel
theorem dX7_of_81 : decode cX7_of 81 = .ok (.iload_n 1, 1) := by decide +kernel
theorem dX7_of_82 : decode cX7_of 82 = .ok (.iaload, 1) := by decide +kernel
theorem dX7_of_83 : decode cX7_of 83 = .ok (.ireturn, 1) := by decide +kernel
theorem dX7_of_84 : decode cX7_of 84 = .ok (.aload_n 0, 1) := by decide +kernel
theorem dX7_of_85 : decode cX7_of 85 = .ok (.getfield 22, 3) := by decide +kernel
theorem dX7_of_88 : decode cX7_of 88 = .ok (.iload_n 1, 1) := by decide +kernel
theorem dX7_of_89 : decode cX7_of 89 = .ok (.iaload, 1) := by decide +kernel
theorem dX7_of_90 : decode cX7_of 90 = .ok (.ireturn, 1) := by decide +kernel
theorem dX7_of_91 : decode cX7_of 91 = .ok (.aload_n 0, 1) := by decide +kernel
theorem dX7_of_92 : decode cX7_of 92 = .ok (.getfield 25, 3) := by decide +kernel
theorem dX7_of_95 : decode cX7_of 95 = .ok (.iload_n 1, 1) := by decide +kernel
theorem dX7_of_96 : decode cX7_of 96 = .ok (.iaload, 1) := by decide +kernel
theorem dX7_of_97 : decode cX7_of 97 = .ok (.ireturn, 1) := by decide +kernel
theorem dX7_of_98 : decode cX7_of 98 = .ok (.iconst (-1), 1) := by decide +kernel
theorem dX7_of_99 : decode cX7_of 99 = .ok (.ireturn, 1) := by decide +kernel
theorem dX7_seed_0 : decode cX7_seed 0 = .ok (.aload_n 0, 1) := by decide +kernel
theorem dX7_seed_1 : decode cX7_seed 1 = .ok (.iconst 0, 1) := by decide +kernel
theorem dX7_seed_2 : decode cX7_seed 2 = .ok (.putfield 69, 3) := by decide +kernel
theorem dX7_seed_5 : decode cX7_seed 5 = .ok (.aload_n 0, 1) := by decide +kernel
theorem dX7_seed_6 : decode cX7_seed 6 = .ok (.getfield 76, 3) := by decide +kernel
theorem dX7_seed_9 : decode cX7_seed 9 = .ok (.lstore_n 3, 1) := by decide +kernel
theorem dX7_seed_10 : decode cX7_seed 10 = .ok (.aload_n 0, 1) := by decide +kernel
theorem dX7_seed_11 : decode cX7_seed 11 = .ok (.lload_n 1, 1) := by decide +kernel
theorem dX7_seed_12 : decode cX7_seed 12 = .ok (.putfield 76, 3) := by decide +kernel
theorem dX7_seed_15 : decode cX7_seed 15 = .ok (.lload_n 3, 1) := by decide +kernel
theorem dX7_seed_16 : decode cX7_seed 16 = .ok (.lreturn, 1) := by decide +kernel
set_option maxRecDepth 20000 in
theorem ggX7_set_X7_in : GoodIn wsX7_set wsX7_in := goodIn_r _ [11] (by decide +kernel) (by decide +kernel)
set_option maxRecDepth 20000 in
theorem gX7_set_X7_in : GoodIn wsX7_set (va_wsS RX7 96 yX7_in wsX7_in) := goodIn_app (goodIn_of _ (by decide +kernel)) ggX7_set_X7_in
theorem dX7_set_0 : decode cX7_set 0 = .ok (.aload_n 0, 1) := by decide +kernel
theorem dX7_set_1 : decode cX7_set 1 = .ok (.iconst 0, 1) := by decide +kernel
theorem dX7_set_2 : decode cX7_set 2 = .ok (.putfield 69, 3) := by decide +kernel
theorem dX7_set_5 : decode cX7_set 5 = .ok (.iload_n 1, 1) := by decide +kernel
theorem dX7_set_6 : decode cX7_set 6 = .ok (.tableswitch 132 0 3 #[30, 56, 82, 108], 30) := by decide +kernel
theorem dX7_set_36 : decode cX7_set 36 = .ok (.iload_n 2, 1) := by decide +kernel
theorem dX7_set_37 : decode cX7_set 37 = .ok (.i2l, 1) := by decide +kernel
theorem dX7_set_38 : decode cX7_set 38 = .ok (.lconst 0, 1) := by decide +kernel
theorem dX7_set_39 : decode cX7_set 39 = .ok (.ldc2_w 116, 3) := by decide +kernel
theorem dX7_set_42 : decode cX7_set 42 = .ok (.invokestatic 96, 3) := by decide +kernel
theorem dX7_set_45 : decode cX7_set 45 = .ok (.ifCond .ne 5, 3) := by decide +kernel
theorem dX7_set_48 : decode cX7_set 48 = .ok (.iconst (-1), 1) := by decide +kernel
theorem dX7_set_49 : decode cX7_set 49 = .ok (.ireturn, 1) := by decide +kernel
theorem dX7_set_50 : decode cX7_set 50 = .ok (.aload_n 0, 1) := by decide +kernel
theorem dX7_set_51 : decode cX7_set 51 = .ok (.getfield 32, 3) := by decide +kernel
theorem dX7_set_54 : decode cX7_set 54 = .ok (.istore_n 3, 1) := by decide +kernel
theorem dX7_set_55 : decode cX7_set 55 = .ok (.aload_n 0, 1) := by decide +kernel
theorem dX7_set_56 : decode cX7_set 56 = .ok (.iload_n 2, 1) := by decide +kernel
theorem dX7_set_57 : decode cX7_set 57 = .ok (.putfield 32, 3) := by decide +kernel
theorem dX7_set_60 : decode cX7_set 60 = .ok (.iload_n 3, 1) := by decide +kernel
theorem dX7_set_61 : decode cX7_set 61 = .ok (.ireturn, 1) := by decide +kernel
theorem dX7_set_62 : decode cX7_set 62 = .ok (.iload_n 2, 1) := by decide +kernel
theorem dX7_set_63 : decode cX7_set 63 = .ok (.i2l, 1) := by decide +kernel
theorem dX7_set_64 : decode cX7_set 64 = .ok (.lconst 1, 1) := by decide +kernel
theorem dX7_set_65 : decode cX7_set 65 = .ok (.ldc2_w 118, 3) := by decide +kernel
theorem dX7_set_68 : decode cX7_set 68 = .ok (.invokestatic 96, 3) := by decide +kernel
theorem dX7_set_71 : decode cX7_set 71 = .ok (.ifCond .ne 5, 3) := by decide +kernel
theorem dX7_set_74 : decode cX7_set 74 = .ok (.iconst (-1), 1) := by decide +kernel
theorem dX7_set_75 : decode cX7_set 75 = .ok (.ireturn, 1) := by decide +kernel
theorem dX7_set_76 : decode cX7_set 76 = .ok (.aload_n 0, 1) := by decide +kernel
theorem dX7_set_77 : decode cX7_set 77 = .ok (.getfield 36, 3) := by decide +kernel
theorem dX7_set_80 : decode cX7_set 80 = .ok (.istore_n 3, 1) := by decide +kernel
theorem dX7_set_81 : decode cX7_set 81 = .ok (.aload_n 0, 1) := by decide +kernel
theorem dX7_set_82 : decode cX7_set 82 = .ok (.iload_n 2, 1) := by decide +kernel
theorem dX7_set_83 : decode cX7_set 83 = .ok (.putfield 36, 3) := by decide +kernel
theorem dX7_set_86 : decode cX7_set 86 = .ok (.iload_n 3, 1) := by decide +kernel
theorem dX7_set_87 : decode cX7_set 87 = .ok (.ireturn, 1) := by decide +kernel
theorem dX7_set_88 : decode cX7_set 88 = .ok (.iload_n 2, 1) := by decide +kernel
theorem dX7_set_89 : decode cX7_set 89 = .ok (.i2l, 1) := by decide +kernel
theorem dX7_set_90 : decode cX7_set 90 = .ok (.lconst 1, 1) := by decide +kernel
theorem dX7_set_91 : decode cX7_set 91 = .ok (.ldc2_w 118, 3) := by decide +kernel
theorem dX7_set_94 : decode cX7_set 94 = .ok (.invokestatic 96, 3) := by decide +kernel
theorem dX7_set_97 : decode cX7_set 97 = .ok (.ifCond .ne 5, 3) := by decide +kernel
theorem dX7_set_100 : decode cX7_set 100 = .ok (.iconst (-1), 1) := by decide +kernel
theorem dX7_set_101 : decode cX7_set 101 = .ok (.ireturn, 1) := by decide +kernel
theorem dX7_set_102 : decode cX7_set 102 = .ok (.aload_n 0, 1) := by decide +kernel
theorem dX7_set_103 : decode cX7_set 103 = .ok (.getfield 39, 3) := by decide +kernel
theorem dX7_set_106 : decode cX7_set 106 = .ok (.istore_n 3, 1) := by decide +kernel
theorem dX7_set_107 : decode cX7_set 107 = .ok (.aload_n 0, 1) := by decide +kernel
theorem dX7_set_108 : decode cX7_set 108 = .ok (.iload_n 2, 1) := by decide +kernel
theorem dX7_set_109 : decode cX7_set 109 = .ok (.putfield 39, 3) := by decide +kernel
theorem dX7_set_112 : decode cX7_set 112 = .ok (.iload_n 3, 1) := by decide +kernel
theorem dX7_set_113 : decode cX7_set 113 = .ok (.ireturn, 1) := by decide +kernel
theorem dX7_set_114 : decode cX7_set 114 = .ok (.iload_n 2, 1) := by decide +kernel
theorem dX7_set_115 : decode cX7_set 115 = .ok (.i2l, 1) := by decide +kernel
theorem dX7_set_116 : decode cX7_set 116 = .ok (.lconst 0, 1) := by decide +kernel
theorem dX7_set_117 : decode cX7_set 117 = .ok (.lconst 1, 1) := by decide +kernel
theorem dX7_set_118 : decode cX7_set 118 = .ok (.invokestatic 96, 3) := by decide +kernel
theorem dX7_set_121 : decode cX7_set 121 = .ok (.ifCond .ne 5, 3) := by decide +kernel
theorem dX7_set_124 : decode cX7_set 124 = .ok (.iconst (-1), 1) := by decide +kernel
theorem dX7_set_125 : decode cX7_set 125 = .ok (.ireturn, 1) := by decide +kernel
theorem dX7_set_126 : decode cX7_set 126 = .ok (.aload_n 0, 1) := by decide +kernel
theorem dX7_set_127 : decode cX7_set 127 = .ok (.getfield 120, 3) := by decide +kernel
theorem dX7_set_130 : decode cX7_set 130 = .ok (.istore_n 3, 1) := by decide +kernel
theorem dX7_set_131 : decode cX7_set 131 = .ok (.aload_n 0, 1) := by decide +kernel
theorem dX7_set_132 : decode cX7_set 132 = .ok (.iload_n 2, 1) := by decide +kernel
theorem dX7_set_133 : decode cX7_set 133 = .ok (.putfield 120, 3) := by decide +kernel
theorem dX7_set_136 : decode cX7_set 136 = .ok (.iload_n 3, 1) := by decide +kernel
theorem dX7_set_137 : decode cX7_set 137 = .ok (.ireturn, 1) := by decide +kernel
theorem dX7_set_138 : decode cX7_set 138 = .ok (.iconst (-1), 1) := by decide +kernel
theorem dX7_set_139 : decode cX7_set 139 = .ok (.ireturn, 1) := by decide +kernel
theorem dX7_weightsOfAll_0 : decode cX7_weightsOfAll 0 = .ok (.iconst 0, 1) := by decide +kernel
theorem dX7_weightsOfAll_1 : decode cX7_weightsOfAll 1 = .ok (.istore_n 1, 1) := by decide +kernel
theorem dX7_weightsOfAll_2 : decode cX7_weightsOfAll 2 = .ok (.iconst 0, 1) := by decide +kernel
theorem dX7_weightsOfAll_3 : decode cX7_weightsOfAll 3 = .ok (.istore_n 2, 1) := by decide +kernel
theorem dX7_weightsOfAll_4 : decode cX7_weightsOfAll 4 = .ok (.iload_n 2, 1) := by decide +kernel
theorem dX7_weightsOfAll_5 : decode cX7_weightsOfAll 5 = .ok (.aload_n 0, 1) := by decide +kernel
theorem dX7_weightsOfAll_6 : decode cX7_weightsOfAll 6 = .ok (.getfield 93, 3) := by decide +kernel
theorem dX7_weightsOfAll_9 : decode cX7_weightsOfAll 9 = .ok (.if_icmp .ge 18, 3) := by decide +kernel
theorem dX7_weightsOfAll_12 : decode cX7_weightsOfAll 12 = .ok (.iload_n 1, 1) := by decide +kernel
theorem dX7_weightsOfAll_13 : decode cX7_weightsOfAll 13 = .ok (.aload_n 0, 1) := by decide +kernel
theorem dX7_weightsOfAll_14 : decode cX7_weightsOfAll 14 = .ok (.getfield 16, 3) := by decide +kernel
theorem dX7_weightsOfAll_17 : decode cX7_weightsOfAll 17 = .ok (.iload_n 2, 1) := by decide +kernel
theorem dX7_weightsOfAll_18 : decode cX7_weightsOfAll 18 = .ok (.iaload, 1) := by decide +kernel
theorem dX7_weightsOfAll_19 : decode cX7_weightsOfAll 19 = .ok (.iadd, 1) := by decide +kernel
theorem dX7_weightsOfAll_20 : decode cX7_weightsOfAll 20 = .ok (.istore_n 1, 1) := by decide +kernel
theorem dX7_weightsOfAll_21 : decode cX7_weightsOfAll 21 = .ok (.iinc 2 1, 3) := by decide +kernel
theorem dX7_weightsOfAll_24 : decode cX7_weightsOfAll 24 = .ok (.goto (-20), 3) := by decide +kernel
theorem dX7_weightsOfAll_27 : decode cX7_weightsOfAll 27 = .ok (.iload_n 1, 1) := by decide +kernel
theorem dX7_weightsOfAll_28 : decode cX7_weightsOfAll 28 = .ok (.ireturn, 1) := by decide +kernel
set_option maxRecDepth 20000 in
theorem ggX7_orders_X7_begin : GoodIn wsX7_orders wsX7_begin := goodIn_r _ [7, 8, 9, 63, 64, 65, 66, 67, 68, 69, 70, 71, 72, 73, 74, 75, 76, 77, 78, 79, 80, 81, 82, 83, 84, 85, 86, 87, 88, 89, 90, 91, 92] (by decide +kernel) (by decide +kernel)
set_option maxRecDepth 20000 in
theorem gX7_orders_X7_begin : GoodIn wsX7_orders (wsV RX7 123 RX7 yX7_begin wsX7_begin) := goodIn_app (goodIn_of _ (by decide +kernel)) ggX7_orders_X7_begin
set_option maxRecDepth 20000 in
theorem ggX7_orders_X7_with : GoodIn wsX7_orders wsX7_with := goodIn_r _ [13, 9, 14, 15, 16, 6, 17, 18, 19, 63, 64, 65, 66, 67, 68, 69, 70, 71, 72, 73, 74, 75, 76, 77, 78, 79, 80, 81, 82, 83, 84, 85, 86, 87, 88, 89, 90, 91, 92] (by decide +kernel) (by decide +kernel)
set_option maxRecDepth 20000 in
theorem gX7_orders_X7_with : GoodIn wsX7_orders (wsV RX7 126 RX7 yX7_with wsX7_with) := goodIn_app (goodIn_of _ (by decide +kernel)) ggX7_orders_X7_with
set_option maxRecDepth 20000 in
theorem ggX7_orders_X7_mixes : GoodIn wsX7_orders wsX7_mixes := goodIn_r _ [23, 24, 25, 26, 6, 27, 9, 14, 15, 16, 17, 18, 19, 63, 64, 65, 66, 67, 68, 69, 70, 71, 72, 73, 74, 75, 76, 77, 78, 79, 80, 81, 82, 83, 84, 85, 86, 87, 88, 89, 90, 91, 92] (by decide +kernel) (by decide +kernel)
set_option maxRecDepth 20000 in
theorem gX7_orders_X7_mixes : GoodIn wsX7_orders (wsV RX7 130 RX7 yX7_mixes wsX7_mixes) := goodIn_app (goodIn_of _ (by decide +kernel)) ggX7_orders_X7_mixes
set_option maxRecDepth 20000 in
theorem ggX7_orders_X7_byLengths : GoodIn wsX7_orders wsX7_byLengths := goodIn_r _ [31, 1, 32, 2, 33, 63, 64, 65, 66, 67, 68, 69, 70, 71, 72, 73, 74, 75, 76, 77, 78, 79, 80, 81, 82, 83, 84, 85, 86, 87, 88, 89, 90, 91, 92] (by decide +kernel) (by decide +kernel)
set_option maxRecDepth 20000 in
theorem gX7_orders_X7_byLengths : GoodIn wsX7_orders (wsV RX7 134 RX7 yX7_byLengths wsX7_byLengths) := goodIn_app (goodIn_of _ (by decide +kernel)) ggX7_orders_X7_byLengths
set_option maxRecDepth 20000 in
theorem ggX7_orders_X7_byWeights : GoodIn wsX7_orders wsX7_byWeights := goodIn_r _ [37, 1, 38, 2, 39, 40, 41, 6, 42, 24, 25, 26, 27, 9, 14, 15, 16, 17, 18, 19, 63, 64, 65, 66, 67, 68, 69, 70, 71, 72, 73, 74, 75, 76, 77, 78, 79, 80, 81, 82, 83, 84, 85, 86, 87, 88, 89, 90, 91, 92] (by decide +kernel) (by decide +kernel)
set_option maxRecDepth 20000 in
theorem gX7_orders_X7_byWeights : GoodIn wsX7_orders (wsV RX7 137 RX7 yX7_byWeights wsX7_byWeights) := goodIn_app (goodIn_of _ (by decide +kernel)) ggX7_orders_X7_byWeights
set_option maxRecDepth 20000 in
theorem ggX7_orders_X7_balanced : GoodIn wsX7_orders wsX7_balanced := goodIn_r _ [46, 47, 48, 49, 1, 50, 51, 2, 52, 53, 54, 55, 6, 56, 57, 3, 4, 5, 7, 8, 9, 10, 11, 12, 13, 14, 15, 16, 17, 18, 19, 20, 21, 22, 23, 24, 25, 26, 27, 63, 64, 65, 66, 67, 68, 69, 70, 71, 72, 73, 74, 75, 76, 77, 78, 79, 80, 81, 82, 83, 84, 85, 86, 87, 88, 89, 90, 91, 92] (by decide +kernel) (by decide +kernel)
set_option maxRecDepth 20000 in
theorem gX7_orders_X7_balanced : GoodIn wsX7_orders (wsV RX7 141 RX7 yX7_balanced wsX7_balanced) := goodIn_app (goodIn_of _ (by decide +kernel)) ggX7_orders_X7_balanced
set_option maxRecDepth 20000 in
theorem ggX7_orders_X7_buffered : GoodIn wsX7_orders wsX7_buffered := goodIn_r _ [61, 62, 1, 52, 2, 24, 25, 26, 6, 27, 9, 14, 15, 16, 17, 18, 19, 63, 64, 65, 66, 67, 68, 69, 70, 71, 72, 73, 74, 75, 76, 77, 78, 79, 80, 81, 82, 83, 84, 85, 86, 87, 88, 89, 90, 91, 92] (by decide +kernel) (by decide +kernel)
set_option maxRecDepth 20000 in
theorem gX7_orders_X7_buffered : GoodIn wsX7_orders (wsV RX7 145 RX7 yX7_buffered wsX7_buffered) := goodIn_app (goodIn_of _ (by decide +kernel)) ggX7_orders_X7_buffered
theorem dX7_orders_0 : decode cX7_orders 0 = .ok (.iconst 0, 1) := by decide +kernel
theorem dX7_orders_1 : decode cX7_orders 1 = .ok (.istore_n 3, 1) := by decide +kernel
theorem dX7_orders_2 : decode cX7_orders 2 = .ok (.iload_n 3, 1) := by decide +kernel
theorem dX7_orders_3 : decode cX7_orders 3 = .ok (.aload_n 0, 1) := by decide +kernel
theorem dX7_orders_4 : decode cX7_orders 4 = .ok (.getfield 93, 3) := by decide +kernel
theorem dX7_orders_7 : decode cX7_orders 7 = .ok (.if_icmp .ge 16, 3) := by decide +kernel
theorem dX7_orders_10 : decode cX7_orders 10 = .ok (.aload_n 0, 1) := by decide +kernel
theorem dX7_orders_11 : decode cX7_orders 11 = .ok (.getfield 42, 3) := by decide +kernel
theorem dX7_orders_14 : decode cX7_orders 14 = .ok (.iload_n 3, 1) := by decide +kernel
theorem dX7_orders_15 : decode cX7_orders 15 = .ok (.iload_n 3, 1) := by decide +kernel
theorem dX7_orders_16 : decode cX7_orders 16 = .ok (.iastore, 1) := by decide +kernel
theorem dX7_orders_17 : decode cX7_orders 17 = .ok (.iinc 3 1, 3) := by decide +kernel
theorem dX7_orders_20 : decode cX7_orders 20 = .ok (.goto (-18), 3) := by decide +kernel
theorem dX7_orders_23 : decode cX7_orders 23 = .ok (.aload_n 0, 1) := by decide +kernel
theorem dX7_orders_24 : decode cX7_orders 24 = .ok (.invokevirtual 123, 3) := by decide +kernel
theorem dX7_orders_27 : decode cX7_orders 27 = .ok (.aload_n 0, 1) := by decide +kernel
theorem dX7_orders_28 : decode cX7_orders 28 = .ok (.iload_n 1, 1) := by decide +kernel
theorem dX7_orders_29 : decode cX7_orders 29 = .ok (.i2l, 1) := by decide +kernel
theorem dX7_orders_30 : decode cX7_orders 30 = .ok (.invokevirtual 126, 3) := by decide +kernel
theorem dX7_orders_33 : decode cX7_orders 33 = .ok (.aload_n 0, 1) := by decide +kernel
theorem dX7_orders_34 : decode cX7_orders 34 = .ok (.iload_n 2, 1) := by decide +kernel
theorem dX7_orders_35 : decode cX7_orders 35 = .ok (.i2l, 1) := by decide +kernel
theorem dX7_orders_36 : decode cX7_orders 36 = .ok (.invokevirtual 126, 3) := by decide +kernel
theorem dX7_orders_39 : decode cX7_orders 39 = .ok (.iload_n 1, 1) := by decide +kernel
theorem dX7_orders_40 : decode cX7_orders 40 = .ok (.tableswitch 78 0 3 #[32, 47, 66, 71], 32) := by decide +kernel
theorem dX7_orders_72 : decode cX7_orders 72 = .ok (.aload_n 0, 1) := by decide +kernel
theorem dX7_orders_73 : decode cX7_orders 73 = .ok (.aload_n 0, 1) := by decide +kernel
theorem dX7_orders_74 : decode cX7_orders 74 = .ok (.getfield 42, 3) := by decide +kernel
theorem dX7_orders_77 : decode cX7_orders 77 = .ok (.iconst 0, 1) := by decide +kernel
theorem dX7_orders_78 : decode cX7_orders 78 = .ok (.aload_n 0, 1) := by decide +kernel
theorem dX7_orders_79 : decode cX7_orders 79 = .ok (.getfield 93, 3) := by decide +kernel
theorem dX7_orders_82 : decode cX7_orders 82 = .ok (.invokevirtual 130, 3) := by decide +kernel
theorem dX7_orders_85 : decode cX7_orders 85 = .ok (.iconst 1, 1) := by decide +kernel
theorem dX7_orders_86 : decode cX7_orders 86 = .ok (.ireturn, 1) := by decide +kernel
theorem dX7_orders_87 : decode cX7_orders 87 = .ok (.aload_n 0, 1) := by decide +kernel
theorem dX7_orders_88 : decode cX7_orders 88 = .ok (.aload_n 0, 1) := by decide +kernel
theorem dX7_orders_89 : decode cX7_orders 89 = .ok (.getfield 42, 3) := by decide +kernel
theorem dX7_orders_92 : decode cX7_orders 92 = .ok (.iconst 0, 1) := by decide +kernel
theorem dX7_orders_93 : decode cX7_orders 93 = .ok (.aload_n 0, 1) := by decide +kernel
theorem dX7_orders_94 : decode cX7_orders 94 = .ok (.getfield 93, 3) := by decide +kernel
theorem dX7_orders_97 : decode cX7_orders 97 = .ok (.invokevirtual 130, 3) := by decide +kernel
theorem dX7_orders_100 : decode cX7_orders 100 = .ok (.aload_n 0, 1) := by decide +kernel
theorem dX7_orders_101 : decode cX7_orders 101 = .ok (.invokevirtual 134, 3) := by decide +kernel
theorem dX7_orders_104 : decode cX7_orders 104 = .ok (.iconst 1, 1) := by decide +kernel
theorem dX7_orders_105 : decode cX7_orders 105 = .ok (.ireturn, 1) := by decide +kernel
theorem dX7_orders_106 : decode cX7_orders 106 = .ok (.aload_n 0, 1) := by decide +kernel
theorem dX7_orders_107 : decode cX7_orders 107 = .ok (.invokevirtual 137, 3) := by decide +kernel
theorem dX7_orders_110 : decode cX7_orders 110 = .ok (.ireturn, 1) := by decide +kernel
theorem dX7_orders_111 : decode cX7_orders 111 = .ok (.aload_n 0, 1) := by decide +kernel
theorem dX7_orders_112 : decode cX7_orders 112 = .ok (.iload_n 2, 1) := by decide +kernel
theorem dX7_orders_113 : decode cX7_orders 113 = .ok (.invokevirtual 141, 3) := by decide +kernel
theorem dX7_orders_116 : decode cX7_orders 116 = .ok (.iconst 1, 1) := by decide +kernel
theorem dX7_orders_117 : decode cX7_orders 117 = .ok (.ireturn, 1) := by decide +kernel
theorem dX7_orders_118 : decode cX7_orders 118 = .ok (.aload_n 0, 1) := by decide +kernel
theorem dX7_orders_119 : decode cX7_orders 119 = .ok (.invokevirtual 145, 3) := by decide +kernel
theorem dX7_orders_122 : decode cX7_orders 122 = .ok (.iconst 1, 1) := by decide +kernel
theorem dX7_orders_123 : decode cX7_orders 123 = .ok (.ireturn, 1) := by decide +kernel
theorem dX7_byLengths_0 : decode cX7_byLengths 0 = .ok (.iconst 0, 1) := by decide +kernel
theorem dX7_byLengths_1 : decode cX7_byLengths 1 = .ok (.istore_n 1, 1) := by decide +kernel
theorem dX7_byLengths_2 : decode cX7_byLengths 2 = .ok (.iload_n 1, 1) := by decide +kernel
theorem dX7_byLengths_3 : decode cX7_byLengths 3 = .ok (.aload_n 0, 1) := by decide +kernel
theorem dX7_byLengths_4 : decode cX7_byLengths 4 = .ok (.getfield 93, 3) := by decide +kernel
theorem dX7_byLengths_7 : decode cX7_byLengths 7 = .ok (.if_icmp .ge 127, 3) := by decide +kernel
theorem dX7_byLengths_10 : decode cX7_byLengths 10 = .ok (.iload_n 1, 1) := by decide +kernel
theorem dX7_byLengths_11 : decode cX7_byLengths 11 = .ok (.aload_n 0, 1) := by decide +kernel
theorem dX7_byLengths_12 : decode cX7_byLengths 12 = .ok (.getfield 36, 3) := by decide +kernel
theorem dX7_byLengths_15 : decode cX7_byLengths 15 = .ok (.iadd, 1) := by decide +kernel
theorem dX7_byLengths_16 : decode cX7_byLengths 16 = .ok (.aload_n 0, 1) := by decide +kernel
theorem dX7_byLengths_17 : decode cX7_byLengths 17 = .ok (.getfield 93, 3) := by decide +kernel
theorem dX7_byLengths_20 : decode cX7_byLengths 20 = .ok (.if_icmp .ge 12, 3) := by decide +kernel
theorem dX7_byLengths_23 : decode cX7_byLengths 23 = .ok (.iload_n 1, 1) := by decide +kernel
theorem dX7_byLengths_24 : decode cX7_byLengths 24 = .ok (.aload_n 0, 1) := by decide +kernel
theorem dX7_byLengths_25 : decode cX7_byLengths 25 = .ok (.getfield 36, 3) := by decide +kernel
theorem dX7_byLengths_28 : decode cX7_byLengths 28 = .ok (.iadd, 1) := by decide +kernel
theorem dX7_byLengths_29 : decode cX7_byLengths 29 = .ok (.goto 7, 3) := by decide +kernel
theorem dX7_byLengths_32 : decode cX7_byLengths 32 = .ok (.aload_n 0, 1) := by decide +kernel
theorem dX7_byLengths_33 : decode cX7_byLengths 33 = .ok (.getfield 93, 3) := by decide +kernel
theorem dX7_byLengths_36 : decode cX7_byLengths 36 = .ok (.istore_n 2, 1) := by decide +kernel
theorem dX7_byLengths_37 : decode cX7_byLengths 37 = .ok (.iload_n 1, 1) := by decide +kernel
theorem dX7_byLengths_38 : decode cX7_byLengths 38 = .ok (.iconst 1, 1) := by decide +kernel
theorem dX7_byLengths_39 : decode cX7_byLengths 39 = .ok (.iadd, 1) := by decide +kernel
theorem dX7_byLengths_40 : decode cX7_byLengths 40 = .ok (.istore_n 3, 1) := by decide +kernel
theorem dX7_byLengths_41 : decode cX7_byLengths 41 = .ok (.iload_n 3, 1) := by decide +kernel
theorem dX7_byLengths_42 : decode cX7_byLengths 42 = .ok (.iload_n 2, 1) := by decide +kernel
theorem dX7_byLengths_43 : decode cX7_byLengths 43 = .ok (.if_icmp .ge 81, 3) := by decide +kernel
theorem dX7_byLengths_46 : decode cX7_byLengths 46 = .ok (.aload_n 0, 1) := by decide +kernel
theorem dX7_byLengths_47 : decode cX7_byLengths 47 = .ok (.getfield 42, 3) := by decide +kernel
theorem dX7_byLengths_50 : decode cX7_byLengths 50 = .ok (.iload_n 3, 1) := by decide +kernel
theorem dX7_byLengths_51 : decode cX7_byLengths 51 = .ok (.iaload, 1) := by decide +kernel
theorem dX7_byLengths_52 : decode cX7_byLengths 52 = .ok (.istore 4, 2) := by decide +kernel
theorem dX7_byLengths_54 : decode cX7_byLengths 54 = .ok (.iload_n 3, 1) := by decide +kernel
theorem dX7_byLengths_55 : decode cX7_byLengths 55 = .ok (.istore 5, 2) := by decide +kernel
theorem dX7_byLengths_57 : decode cX7_byLengths 57 = .ok (.iload 5, 2) := by decide +kernel
theorem dX7_byLengths_59 : decode cX7_byLengths 59 = .ok (.iload_n 1, 1) := by decide +kernel
theorem dX7_byLengths_60 : decode cX7_byLengths 60 = .ok (.if_icmp .le 49, 3) := by decide +kernel
theorem dX7_byLengths_63 : decode cX7_byLengths 63 = .ok (.aload_n 0, 1) := by decide +kernel
theorem dX7_byLengths_64 : decode cX7_byLengths 64 = .ok (.getfield 19, 3) := by decide +kernel
theorem dX7_byLengths_67 : decode cX7_byLengths 67 = .ok (.aload_n 0, 1) := by decide +kernel
theorem dX7_byLengths_68 : decode cX7_byLengths 68 = .ok (.getfield 42, 3) := by decide +kernel
theorem dX7_byLengths_71 : decode cX7_byLengths 71 = .ok (.iload 5, 2) := by decide +kernel
theorem dX7_byLengths_73 : decode cX7_byLengths 73 = .ok (.iconst 1, 1) := by decide +kernel
theorem dX7_byLengths_74 : decode cX7_byLengths 74 = .ok (.isub, 1) := by decide +kernel
theorem dX7_byLengths_75 : decode cX7_byLengths 75 = .ok (.iaload, 1) := by decide +kernel
theorem dX7_byLengths_76 : decode cX7_byLengths 76 = .ok (.iaload, 1) := by decide +kernel
theorem dX7_byLengths_77 : decode cX7_byLengths 77 = .ok (.aload_n 0, 1) := by decide +kernel
theorem dX7_byLengths_78 : decode cX7_byLengths 78 = .ok (.getfield 19, 3) := by decide +kernel
theorem dX7_byLengths_81 : decode cX7_byLengths 81 = .ok (.iload 4, 2) := by decide +kernel
theorem dX7_byLengths_83 : decode cX7_byLengths 83 = .ok (.iaload, 1) := by decide +kernel
theorem dX7_byLengths_84 : decode cX7_byLengths 84 = .ok (.if_icmp .le 25, 3) := by decide +kernel
theorem dX7_byLengths_87 : decode cX7_byLengths 87 = .ok (.aload_n 0, 1) := by decide +kernel
theorem dX7_byLengths_88 : decode cX7_byLengths 88 = .ok (.getfield 42, 3) := by decide +kernel
theorem dX7_byLengths_91 : decode cX7_byLengths 91 = .ok (.iload 5, 2) := by decide +kernel
theorem dX7_byLengths_93 : decode cX7_byLengths 93 = .ok (.aload_n 0, 1) := by decide +kernel
theorem dX7_byLengths_94 : decode cX7_byLengths 94 = .ok (.getfield 42, 3) := by decide +kernel
theorem dX7_byLengths_97 : decode cX7_byLengths 97 = .ok (.iload 5, 2) := by decide +kernel
theorem dX7_byLengths_99 : decode cX7_byLengths 99 = .ok (.iconst 1, 1) := by decide +kernel
theorem dX7_byLengths_100 : decode cX7_byLengths 100 = .ok (.isub, 1) := by decide +kernel
theorem dX7_byLengths_101 : decode cX7_byLengths 101 = .ok (.iaload, 1) := by decide +kernel
theorem dX7_byLengths_102 : decode cX7_byLengths 102 = .ok (.iastore, 1) := by decide +kernel
theorem dX7_byLengths_103 : decode cX7_byLengths 103 = .ok (.iinc 5 (-1), 3) := by decide +kernel
theorem dX7_byLengths_106 : decode cX7_byLengths 106 = .ok (.goto (-49), 3) := by decide +kernel
theorem dX7_byLengths_109 : decode cX7_byLengths 109 = .ok (.aload_n 0, 1) := by decide +kernel
theorem dX7_byLengths_110 : decode cX7_byLengths 110 = .ok (.getfield 42, 3) := by decide +kernel
theorem dX7_byLengths_113 : decode cX7_byLengths 113 = .ok (.iload 5, 2) := by decide +kernel
theorem dX7_byLengths_115 : decode cX7_byLengths 115 = .ok (.iload 4, 2) := by decide +kernel
theorem dX7_byLengths_117 : decode cX7_byLengths 117 = .ok (.iastore, 1) := by decide +kernel
theorem dX7_byLengths_118 : decode cX7_byLengths 118 = .ok (.iinc 3 1, 3) := by decide +kernel
theorem dX7_byLengths_121 : decode cX7_byLengths 121 = .ok (.goto (-80), 3) := by decide +kernel
theorem dX7_byLengths_124 : decode cX7_byLengths 124 = .ok (.iload_n 1, 1) := by decide +kernel
theorem dX7_byLengths_125 : decode cX7_byLengths 125 = .ok (.aload_n 0, 1) := by decide +kernel
theorem dX7_byLengths_126 : decode cX7_byLengths 126 = .ok (.getfield 36, 3) := by decide +kernel
theorem dX7_byLengths_129 : decode cX7_byLengths 129 = .ok (.iadd, 1) := by decide +kernel
theorem dX7_byLengths_130 : decode cX7_byLengths 130 = .ok (.istore_n 1, 1) := by decide +kernel
theorem dX7_byLengths_131 : decode cX7_byLengths 131 = .ok (.goto (-129), 3) := by decide +kernel
theorem dX7_byLengths_134 : decode cX7_byLengths 134 = .ok (.return_, 1) := by decide +kernel
set_option maxRecDepth 20000 in
theorem ggX7_byWeights_X7_weightsOfAll : GoodIn wsX7_byWeights wsX7_weightsOfAll := goodIn_r _ [8, 1, 2, 20, 21, 22, 23, 24, 25, 26, 27, 28, 29, 30, 31, 32, 33, 34, 35, 36, 37, 38, 39, 40, 41, 42, 43, 44, 45, 46, 47, 48, 49] (by decide +kernel) (by decide +kernel)
set_option maxRecDepth 20000 in
theorem gX7_byWeights_X7_weightsOfAll : GoodIn wsX7_byWeights (wsV RX7 148 RX7 yX7_weightsOfAll wsX7_weightsOfAll) := goodIn_app (goodIn_of _ (by decide +kernel)) ggX7_byWeights_X7_weightsOfAll
set_option maxRecDepth 20000 in
theorem ggX7_byWeights_X7_draw : GoodIn wsX7_byWeights wsX7_draw := goodIn_r _ [12, 13, 14, 15, 16, 7, 17, 18, 19, 20, 21, 22, 23, 24, 25, 26, 27, 28, 29, 30, 31, 32, 33, 34, 35, 36, 37, 38, 39, 40, 41, 42, 43, 44, 45, 46, 47, 48, 49] (by decide +kernel) (by decide +kernel)
set_option maxRecDepth 20000 in
theorem gX7_byWeights_X7_draw : GoodIn wsX7_byWeights (wsV RX7 89 RX7 yX7_draw wsX7_draw) := goodIn_app (goodIn_of _ (by decide +kernel)) ggX7_byWeights_X7_draw
theorem dX7_byWeights_0 : decode cX7_byWeights 0 = .ok (.aload_n 0, 1) := by decide +kernel
theorem dX7_byWeights_1 : decode cX7_byWeights 1 = .ok (.invokevirtual 148, 3) := by decide +kernel
theorem dX7_byWeights_4 : decode cX7_byWeights 4 = .ok (.istore_n 1, 1) := by decide +kernel
theorem dX7_byWeights_5 : decode cX7_byWeights 5 = .ok (.iload_n 1, 1) := by decide +kernel
theorem dX7_byWeights_6 : decode cX7_byWeights 6 = .ok (.ifCond .ne 16, 3) := by decide +kernel
theorem dX7_byWeights_9 : decode cX7_byWeights 9 = .ok (.aload_n 0, 1) := by decide +kernel
theorem dX7_byWeights_10 : decode cX7_byWeights 10 = .ok (.getfield 93, 3) := by decide +kernel
theorem dX7_byWeights_13 : decode cX7_byWeights 13 = .ok (.ifCond .ne 7, 3) := by decide +kernel
theorem dX7_byWeights_16 : decode cX7_byWeights 16 = .ok (.iconst 1, 1) := by decide +kernel
theorem dX7_byWeights_17 : decode cX7_byWeights 17 = .ok (.goto 4, 3) := by decide +kernel
theorem dX7_byWeights_20 : decode cX7_byWeights 20 = .ok (.iconst 0, 1) := by decide +kernel
theorem dX7_byWeights_21 : decode cX7_byWeights 21 = .ok (.ireturn, 1) := by decide +kernel
theorem dX7_byWeights_22 : decode cX7_byWeights 22 = .ok (.iconst 0, 1) := by decide +kernel
theorem dX7_byWeights_23 : decode cX7_byWeights 23 = .ok (.istore_n 2, 1) := by decide +kernel
theorem dX7_byWeights_24 : decode cX7_byWeights 24 = .ok (.iload_n 2, 1) := by decide +kernel
theorem dX7_byWeights_25 : decode cX7_byWeights 25 = .ok (.aload_n 0, 1) := by decide +kernel
theorem dX7_byWeights_26 : decode cX7_byWeights 26 = .ok (.getfield 93, 3) := by decide +kernel
theorem dX7_byWeights_29 : decode cX7_byWeights 29 = .ok (.if_icmp .ge 59, 3) := by decide +kernel
theorem dX7_byWeights_32 : decode cX7_byWeights 32 = .ok (.aload_n 0, 1) := by decide +kernel
theorem dX7_byWeights_33 : decode cX7_byWeights 33 = .ok (.iload_n 1, 1) := by decide +kernel
theorem dX7_byWeights_34 : decode cX7_byWeights 34 = .ok (.i2l, 1) := by decide +kernel
theorem dX7_byWeights_35 : decode cX7_byWeights 35 = .ok (.invokevirtual 89, 3) := by decide +kernel
theorem dX7_byWeights_38 : decode cX7_byWeights 38 = .ok (.istore_n 3, 1) := by decide +kernel
theorem dX7_byWeights_39 : decode cX7_byWeights 39 = .ok (.iconst 0, 1) := by decide +kernel
theorem dX7_byWeights_40 : decode cX7_byWeights 40 = .ok (.istore 4, 2) := by decide +kernel
theorem dX7_byWeights_42 : decode cX7_byWeights 42 = .ok (.aload_n 0, 1) := by decide +kernel
theorem dX7_byWeights_43 : decode cX7_byWeights 43 = .ok (.getfield 16, 3) := by decide +kernel
theorem dX7_byWeights_46 : decode cX7_byWeights 46 = .ok (.iconst 0, 1) := by decide +kernel
theorem dX7_byWeights_47 : decode cX7_byWeights 47 = .ok (.iaload, 1) := by decide +kernel
theorem dX7_byWeights_48 : decode cX7_byWeights 48 = .ok (.istore 5, 2) := by decide +kernel
theorem dX7_byWeights_50 : decode cX7_byWeights 50 = .ok (.iload 5, 2) := by decide +kernel
theorem dX7_byWeights_52 : decode cX7_byWeights 52 = .ok (.iload_n 3, 1) := by decide +kernel
theorem dX7_byWeights_53 : decode cX7_byWeights 53 = .ok (.if_icmp .gt 21, 3) := by decide +kernel
theorem dX7_byWeights_56 : decode cX7_byWeights 56 = .ok (.iinc 4 1, 3) := by decide +kernel
theorem dX7_byWeights_59 : decode cX7_byWeights 59 = .ok (.iload 5, 2) := by decide +kernel
theorem dX7_byWeights_61 : decode cX7_byWeights 61 = .ok (.aload_n 0, 1) := by decide +kernel
theorem dX7_byWeights_62 : decode cX7_byWeights 62 = .ok (.getfield 16, 3) := by decide +kernel
theorem dX7_byWeights_65 : decode cX7_byWeights 65 = .ok (.iload 4, 2) := by decide +kernel
theorem dX7_byWeights_67 : decode cX7_byWeights 67 = .ok (.iaload, 1) := by decide +kernel
theorem dX7_byWeights_68 : decode cX7_byWeights 68 = .ok (.iadd, 1) := by decide +kernel
theorem dX7_byWeights_69 : decode cX7_byWeights 69 = .ok (.istore 5, 2) := by decide +kernel
theorem dX7_byWeights_71 : decode cX7_byWeights 71 = .ok (.goto (-21), 3) := by decide +kernel
theorem dX7_byWeights_74 : decode cX7_byWeights 74 = .ok (.aload_n 0, 1) := by decide +kernel
theorem dX7_byWeights_75 : decode cX7_byWeights 75 = .ok (.getfield 42, 3) := by decide +kernel
theorem dX7_byWeights_78 : decode cX7_byWeights 78 = .ok (.iload_n 2, 1) := by decide +kernel
theorem dX7_byWeights_79 : decode cX7_byWeights 79 = .ok (.iload 4, 2) := by decide +kernel
theorem dX7_byWeights_81 : decode cX7_byWeights 81 = .ok (.iastore, 1) := by decide +kernel
theorem dX7_byWeights_82 : decode cX7_byWeights 82 = .ok (.iinc 2 1, 3) := by decide +kernel
theorem dX7_byWeights_85 : decode cX7_byWeights 85 = .ok (.goto (-61), 3) := by decide +kernel
theorem dX7_byWeights_88 : decode cX7_byWeights 88 = .ok (.iconst 1, 1) := by decide +kernel
theorem dX7_byWeights_89 : decode cX7_byWeights 89 = .ok (.ireturn, 1) := by decide +kernel
set_option maxRecDepth 20000 in
theorem ggX7_again_X7_begin : GoodIn wsX7_again wsX7_begin := goodIn_r _ [13, 14, 15, 34, 35, 36, 37, 38, 39, 40, 41, 42, 43, 44, 45, 46, 47, 48, 49, 50, 51, 52, 53, 54, 55, 56, 57, 58, 59, 60, 61, 62, 63] (by decide +kernel) (by decide +kernel)
set_option maxRecDepth 20000 in
theorem gX7_again_X7_begin : GoodIn wsX7_again (wsV RX7 123 RX7 yX7_begin wsX7_begin) := goodIn_app (goodIn_of _ (by decide +kernel)) ggX7_again_X7_begin
set_option maxRecDepth 20000 in
theorem ggX7_again_X7_with : GoodIn wsX7_again wsX7_with := goodIn_r _ [19, 15, 20, 21, 22, 12, 23, 24, 25, 34, 35, 36, 37, 38, 39, 40, 41, 42, 43, 44, 45, 46, 47, 48, 49, 50, 51, 52, 53, 54, 55, 56, 57, 58, 59, 60, 61, 62, 63] (by decide +kernel) (by decide +kernel)
set_option maxRecDepth 20000 in
theorem gX7_again_X7_with : GoodIn wsX7_again (wsV RX7 126 RX7 yX7_with wsX7_with) := goodIn_app (goodIn_of _ (by decide +kernel)) ggX7_again_X7_with
set_option maxRecDepth 20000 in
theorem ggX7_again_X7_mixes : GoodIn wsX7_again wsX7_mixes := goodIn_r _ [29, 30, 31, 32, 12, 33, 15, 20, 21, 22, 23, 24, 25, 34, 35, 36, 37, 38, 39, 40, 41, 42, 43, 44, 45, 46, 47, 48, 49, 50, 51, 52, 53, 54, 55, 56, 57, 58, 59, 60, 61, 62, 63] (by decide +kernel) (by decide +kernel)
set_option maxRecDepth 20000 in
theorem gX7_again_X7_mixes : GoodIn wsX7_again (wsV RX7 130 RX7 yX7_mixes wsX7_mixes) := goodIn_app (goodIn_of _ (by decide +kernel)) ggX7_again_X7_mixes
theorem dX7_again_0 : decode cX7_again 0 = .ok (.aload_n 0, 1) := by decide +kernel
theorem dX7_again_1 : decode cX7_again 1 = .ok (.getfield 48, 3) := by decide +kernel
theorem dX7_again_4 : decode cX7_again 4 = .ok (.iload_n 1, 1) := by decide +kernel
theorem dX7_again_5 : decode cX7_again 5 = .ok (.iaload, 1) := by decide +kernel
theorem dX7_again_6 : decode cX7_again 6 = .ok (.istore_n 3, 1) := by decide +kernel
theorem dX7_again_7 : decode cX7_again 7 = .ok (.iconst 0, 1) := by decide +kernel
theorem dX7_again_8 : decode cX7_again 8 = .ok (.istore 4, 2) := by decide +kernel
theorem dX7_again_10 : decode cX7_again 10 = .ok (.iload 4, 2) := by decide +kernel
theorem dX7_again_12 : decode cX7_again 12 = .ok (.aload_n 0, 1) := by decide +kernel
theorem dX7_again_13 : decode cX7_again 13 = .ok (.getfield 93, 3) := by decide +kernel
theorem dX7_again_16 : decode cX7_again 16 = .ok (.if_icmp .ge 31, 3) := by decide +kernel
theorem dX7_again_19 : decode cX7_again 19 = .ok (.aload_n 0, 1) := by decide +kernel
theorem dX7_again_20 : decode cX7_again 20 = .ok (.getfield 13, 3) := by decide +kernel
theorem dX7_again_23 : decode cX7_again 23 = .ok (.iload 4, 2) := by decide +kernel
theorem dX7_again_25 : decode cX7_again 25 = .ok (.iaload, 1) := by decide +kernel
theorem dX7_again_26 : decode cX7_again 26 = .ok (.iload_n 1, 1) := by decide +kernel
theorem dX7_again_27 : decode cX7_again 27 = .ok (.if_icmp .ne 14, 3) := by decide +kernel
theorem dX7_again_30 : decode cX7_again 30 = .ok (.aload_n 0, 1) := by decide +kernel
theorem dX7_again_31 : decode cX7_again 31 = .ok (.getfield 45, 3) := by decide +kernel
theorem dX7_again_34 : decode cX7_again 34 = .ok (.iload_n 3, 1) := by decide +kernel
theorem dX7_again_35 : decode cX7_again 35 = .ok (.iload 4, 2) := by decide +kernel
theorem dX7_again_37 : decode cX7_again 37 = .ok (.iastore, 1) := by decide +kernel
theorem dX7_again_38 : decode cX7_again 38 = .ok (.iinc 3 1, 3) := by decide +kernel
theorem dX7_again_41 : decode cX7_again 41 = .ok (.iinc 4 1, 3) := by decide +kernel
theorem dX7_again_44 : decode cX7_again 44 = .ok (.goto (-34), 3) := by decide +kernel
theorem dX7_again_47 : decode cX7_again 47 = .ok (.aload_n 0, 1) := by decide +kernel
theorem dX7_again_48 : decode cX7_again 48 = .ok (.invokevirtual 123, 3) := by decide +kernel
theorem dX7_again_51 : decode cX7_again 51 = .ok (.aload_n 0, 1) := by decide +kernel
theorem dX7_again_52 : decode cX7_again 52 = .ok (.ldc2_w 152, 3) := by decide +kernel
theorem dX7_again_55 : decode cX7_again 55 = .ok (.invokevirtual 126, 3) := by decide +kernel
theorem dX7_again_58 : decode cX7_again 58 = .ok (.aload_n 0, 1) := by decide +kernel
theorem dX7_again_59 : decode cX7_again 59 = .ok (.iload_n 2, 1) := by decide +kernel
theorem dX7_again_60 : decode cX7_again 60 = .ok (.i2l, 1) := by decide +kernel
theorem dX7_again_61 : decode cX7_again 61 = .ok (.invokevirtual 126, 3) := by decide +kernel
theorem dX7_again_64 : decode cX7_again 64 = .ok (.aload_n 0, 1) := by decide +kernel
theorem dX7_again_65 : decode cX7_again 65 = .ok (.iload_n 1, 1) := by decide +kernel
theorem dX7_again_66 : decode cX7_again 66 = .ok (.i2l, 1) := by decide +kernel
theorem dX7_again_67 : decode cX7_again 67 = .ok (.invokevirtual 126, 3) := by decide +kernel
theorem dX7_again_70 : decode cX7_again 70 = .ok (.aload_n 0, 1) := by decide +kernel
theorem dX7_again_71 : decode cX7_again 71 = .ok (.aload_n 0, 1) := by decide +kernel
theorem dX7_again_72 : decode cX7_again 72 = .ok (.getfield 57, 3) := by decide +kernel
theorem dX7_again_75 : decode cX7_again 75 = .ok (.iload_n 1, 1) := by decide +kernel
theorem dX7_again_76 : decode cX7_again 76 = .ok (.iaload, 1) := by decide +kernel
theorem dX7_again_77 : decode cX7_again 77 = .ok (.i2l, 1) := by decide +kernel
theorem dX7_again_78 : decode cX7_again 78 = .ok (.invokevirtual 126, 3) := by decide +kernel
theorem dX7_again_81 : decode cX7_again 81 = .ok (.aload_n 0, 1) := by decide +kernel
theorem dX7_again_82 : decode cX7_again 82 = .ok (.aload_n 0, 1) := by decide +kernel
theorem dX7_again_83 : decode cX7_again 83 = .ok (.getfield 45, 3) := by decide +kernel
theorem dX7_again_86 : decode cX7_again 86 = .ok (.aload_n 0, 1) := by decide +kernel
theorem dX7_again_87 : decode cX7_again 87 = .ok (.getfield 48, 3) := by decide +kernel
theorem dX7_again_90 : decode cX7_again 90 = .ok (.iload_n 1, 1) := by decide +kernel
theorem dX7_again_91 : decode cX7_again 91 = .ok (.iaload, 1) := by decide +kernel
theorem dX7_again_92 : decode cX7_again 92 = .ok (.aload_n 0, 1) := by decide +kernel
theorem dX7_again_93 : decode cX7_again 93 = .ok (.getfield 51, 3) := by decide +kernel
theorem dX7_again_96 : decode cX7_again 96 = .ok (.iload_n 1, 1) := by decide +kernel
theorem dX7_again_97 : decode cX7_again 97 = .ok (.iaload, 1) := by decide +kernel
theorem dX7_again_98 : decode cX7_again 98 = .ok (.invokevirtual 130, 3) := by decide +kernel
theorem dX7_again_101 : decode cX7_again 101 = .ok (.aload_n 0, 1) := by decide +kernel
theorem dX7_again_102 : decode cX7_again 102 = .ok (.getfield 57, 3) := by decide +kernel
theorem dX7_again_105 : decode cX7_again 105 = .ok (.iload_n 1, 1) := by decide +kernel
theorem dX7_again_106 : decode cX7_again 106 = .ok (.dup2, 1) := by decide +kernel
theorem dX7_again_107 : decode cX7_again 107 = .ok (.iaload, 1) := by decide +kernel
theorem dX7_again_108 : decode cX7_again 108 = .ok (.iconst 1, 1) := by decide +kernel
theorem dX7_again_109 : decode cX7_again 109 = .ok (.iadd, 1) := by decide +kernel
theorem dX7_again_110 : decode cX7_again 110 = .ok (.iastore, 1) := by decide +kernel
theorem dX7_again_111 : decode cX7_again 111 = .ok (.aload_n 0, 1) := by decide +kernel
theorem dX7_again_112 : decode cX7_again 112 = .ok (.getfield 54, 3) := by decide +kernel
theorem dX7_again_115 : decode cX7_again 115 = .ok (.iload_n 1, 1) := by decide +kernel
theorem dX7_again_116 : decode cX7_again 116 = .ok (.iconst 0, 1) := by decide +kernel
theorem dX7_again_117 : decode cX7_again 117 = .ok (.iastore, 1) := by decide +kernel
theorem dX7_again_118 : decode cX7_again 118 = .ok (.return_, 1) := by decide +kernel
set_option maxRecDepth 20000 in
theorem ggX7_balanced_X7_again : GoodIn wsX7_balanced wsX7_again := goodIn_r _ [13, 1, 4, 5, 8, 14, 3, 2, 6, 15, 16, 17, 12, 18, 19, 20, 21, 22, 23, 24, 25, 26, 27, 28, 29, 30, 31, 32, 33, 34, 35, 36, 37, 38, 39, 40, 41, 42, 43, 44, 45, 46, 47, 48, 49, 50, 51, 52, 53, 54, 55, 56, 57, 58, 59, 60, 61, 62, 63, 64, 65, 66, 67, 68] (by decide +kernel) (by decide +kernel)
set_option maxRecDepth 20000 in
theorem gX7_balanced_X7_again : GoodIn wsX7_balanced (wsV RX7 154 RX7 yX7_again wsX7_again) := goodIn_app (goodIn_of _ (by decide +kernel)) ggX7_balanced_X7_again
theorem dX7_balanced_0 : decode cX7_balanced 0 = .ok (.iconst 0, 1) := by decide +kernel
theorem dX7_balanced_1 : decode cX7_balanced 1 = .ok (.istore_n 2, 1) := by decide +kernel
theorem dX7_balanced_2 : decode cX7_balanced 2 = .ok (.iconst 0, 1) := by decide +kernel
theorem dX7_balanced_3 : decode cX7_balanced 3 = .ok (.istore_n 3, 1) := by decide +kernel
theorem dX7_balanced_4 : decode cX7_balanced 4 = .ok (.iload_n 3, 1) := by decide +kernel
theorem dX7_balanced_5 : decode cX7_balanced 5 = .ok (.bipush 8, 2) := by decide +kernel
theorem dX7_balanced_7 : decode cX7_balanced 7 = .ok (.if_icmp .ge 97, 3) := by decide +kernel
theorem dX7_balanced_10 : decode cX7_balanced 10 = .ok (.aload_n 0, 1) := by decide +kernel
theorem dX7_balanced_11 : decode cX7_balanced 11 = .ok (.getfield 48, 3) := by decide +kernel
theorem dX7_balanced_14 : decode cX7_balanced 14 = .ok (.iload_n 3, 1) := by decide +kernel
theorem dX7_balanced_15 : decode cX7_balanced 15 = .ok (.iload_n 2, 1) := by decide +kernel
theorem dX7_balanced_16 : decode cX7_balanced 16 = .ok (.iastore, 1) := by decide +kernel
theorem dX7_balanced_17 : decode cX7_balanced 17 = .ok (.aload_n 0, 1) := by decide +kernel
theorem dX7_balanced_18 : decode cX7_balanced 18 = .ok (.getfield 51, 3) := by decide +kernel
theorem dX7_balanced_21 : decode cX7_balanced 21 = .ok (.iload_n 3, 1) := by decide +kernel
theorem dX7_balanced_22 : decode cX7_balanced 22 = .ok (.iconst 0, 1) := by decide +kernel
theorem dX7_balanced_23 : decode cX7_balanced 23 = .ok (.iastore, 1) := by decide +kernel
theorem dX7_balanced_24 : decode cX7_balanced 24 = .ok (.aload_n 0, 1) := by decide +kernel
theorem dX7_balanced_25 : decode cX7_balanced 25 = .ok (.getfield 57, 3) := by decide +kernel
theorem dX7_balanced_28 : decode cX7_balanced 28 = .ok (.iload_n 3, 1) := by decide +kernel
theorem dX7_balanced_29 : decode cX7_balanced 29 = .ok (.iconst 0, 1) := by decide +kernel
theorem dX7_balanced_30 : decode cX7_balanced 30 = .ok (.iastore, 1) := by decide +kernel
theorem dX7_balanced_31 : decode cX7_balanced 31 = .ok (.iconst 0, 1) := by decide +kernel
theorem dX7_balanced_32 : decode cX7_balanced 32 = .ok (.istore 4, 2) := by decide +kernel
theorem dX7_balanced_34 : decode cX7_balanced 34 = .ok (.iload 4, 2) := by decide +kernel
theorem dX7_balanced_36 : decode cX7_balanced 36 = .ok (.aload_n 0, 1) := by decide +kernel
theorem dX7_balanced_37 : decode cX7_balanced 37 = .ok (.getfield 93, 3) := by decide +kernel
theorem dX7_balanced_40 : decode cX7_balanced 40 = .ok (.if_icmp .ge 34, 3) := by decide +kernel
theorem dX7_balanced_43 : decode cX7_balanced 43 = .ok (.aload_n 0, 1) := by decide +kernel
theorem dX7_balanced_44 : decode cX7_balanced 44 = .ok (.getfield 51, 3) := by decide +kernel
theorem dX7_balanced_47 : decode cX7_balanced 47 = .ok (.iload_n 3, 1) := by decide +kernel
theorem dX7_balanced_48 : decode cX7_balanced 48 = .ok (.dup2, 1) := by decide +kernel
theorem dX7_balanced_49 : decode cX7_balanced 49 = .ok (.iaload, 1) := by decide +kernel
theorem dX7_balanced_50 : decode cX7_balanced 50 = .ok (.aload_n 0, 1) := by decide +kernel
theorem dX7_balanced_51 : decode cX7_balanced 51 = .ok (.getfield 13, 3) := by decide +kernel
theorem dX7_balanced_54 : decode cX7_balanced 54 = .ok (.iload 4, 2) := by decide +kernel
theorem dX7_balanced_56 : decode cX7_balanced 56 = .ok (.iaload, 1) := by decide +kernel
theorem dX7_balanced_57 : decode cX7_balanced 57 = .ok (.iload_n 3, 1) := by decide +kernel
theorem dX7_balanced_58 : decode cX7_balanced 58 = .ok (.if_icmp .ne 7, 3) := by decide +kernel
theorem dX7_balanced_61 : decode cX7_balanced 61 = .ok (.iconst 1, 1) := by decide +kernel
theorem dX7_balanced_62 : decode cX7_balanced 62 = .ok (.goto 4, 3) := by decide +kernel
theorem dX7_balanced_65 : decode cX7_balanced 65 = .ok (.iconst 0, 1) := by decide +kernel
theorem dX7_balanced_66 : decode cX7_balanced 66 = .ok (.iadd, 1) := by decide +kernel
theorem dX7_balanced_67 : decode cX7_balanced 67 = .ok (.iastore, 1) := by decide +kernel
theorem dX7_balanced_68 : decode cX7_balanced 68 = .ok (.iinc 4 1, 3) := by decide +kernel
theorem dX7_balanced_71 : decode cX7_balanced 71 = .ok (.goto (-37), 3) := by decide +kernel
theorem dX7_balanced_74 : decode cX7_balanced 74 = .ok (.iload_n 2, 1) := by decide +kernel
theorem dX7_balanced_75 : decode cX7_balanced 75 = .ok (.aload_n 0, 1) := by decide +kernel
theorem dX7_balanced_76 : decode cX7_balanced 76 = .ok (.getfield 51, 3) := by decide +kernel
theorem dX7_balanced_79 : decode cX7_balanced 79 = .ok (.iload_n 3, 1) := by decide +kernel
theorem dX7_balanced_80 : decode cX7_balanced 80 = .ok (.iaload, 1) := by decide +kernel
theorem dX7_balanced_81 : decode cX7_balanced 81 = .ok (.iadd, 1) := by decide +kernel
theorem dX7_balanced_82 : decode cX7_balanced 82 = .ok (.istore_n 2, 1) := by decide +kernel
theorem dX7_balanced_83 : decode cX7_balanced 83 = .ok (.aload_n 0, 1) := by decide +kernel
theorem dX7_balanced_84 : decode cX7_balanced 84 = .ok (.getfield 51, 3) := by decide +kernel
theorem dX7_balanced_87 : decode cX7_balanced 87 = .ok (.iload_n 3, 1) := by decide +kernel
theorem dX7_balanced_88 : decode cX7_balanced 88 = .ok (.iaload, 1) := by decide +kernel
theorem dX7_balanced_89 : decode cX7_balanced 89 = .ok (.ifCond .le 9, 3) := by decide +kernel
theorem dX7_balanced_92 : decode cX7_balanced 92 = .ok (.aload_n 0, 1) := by decide +kernel
theorem dX7_balanced_93 : decode cX7_balanced 93 = .ok (.iload_n 3, 1) := by decide +kernel
theorem dX7_balanced_94 : decode cX7_balanced 94 = .ok (.iload_n 1, 1) := by decide +kernel
theorem dX7_balanced_95 : decode cX7_balanced 95 = .ok (.invokevirtual 154, 3) := by decide +kernel
theorem dX7_balanced_98 : decode cX7_balanced 98 = .ok (.iinc 3 1, 3) := by decide +kernel
theorem dX7_balanced_101 : decode cX7_balanced 101 = .ok (.goto (-97), 3) := by decide +kernel
theorem dX7_balanced_104 : decode cX7_balanced 104 = .ok (.iconst 0, 1) := by decide +kernel
theorem dX7_balanced_105 : decode cX7_balanced 105 = .ok (.istore_n 3, 1) := by decide +kernel
theorem dX7_balanced_106 : decode cX7_balanced 106 = .ok (.iconst 0, 1) := by decide +kernel
theorem dX7_balanced_107 : decode cX7_balanced 107 = .ok (.istore 4, 2) := by decide +kernel
theorem dX7_balanced_109 : decode cX7_balanced 109 = .ok (.iload_n 3, 1) := by decide +kernel
theorem dX7_balanced_110 : decode cX7_balanced 110 = .ok (.aload_n 0, 1) := by decide +kernel
theorem dX7_balanced_111 : decode cX7_balanced 111 = .ok (.getfield 93, 3) := by decide +kernel
theorem dX7_balanced_114 : decode cX7_balanced 114 = .ok (.if_icmp .ge 89, 3) := by decide +kernel
theorem dX7_balanced_117 : decode cX7_balanced 117 = .ok (.aload_n 0, 1) := by decide +kernel
theorem dX7_balanced_118 : decode cX7_balanced 118 = .ok (.getfield 51, 3) := by decide +kernel
theorem dX7_balanced_121 : decode cX7_balanced 121 = .ok (.iload 4, 2) := by decide +kernel
theorem dX7_balanced_123 : decode cX7_balanced 123 = .ok (.iaload, 1) := by decide +kernel
theorem dX7_balanced_124 : decode cX7_balanced 124 = .ok (.ifCond .le 67, 3) := by decide +kernel
theorem dX7_balanced_127 : decode cX7_balanced 127 = .ok (.aload_n 0, 1) := by decide +kernel
theorem dX7_balanced_128 : decode cX7_balanced 128 = .ok (.getfield 54, 3) := by decide +kernel
theorem dX7_balanced_131 : decode cX7_balanced 131 = .ok (.iload 4, 2) := by decide +kernel
theorem dX7_balanced_133 : decode cX7_balanced 133 = .ok (.iaload, 1) := by decide +kernel
theorem dX7_balanced_134 : decode cX7_balanced 134 = .ok (.aload_n 0, 1) := by decide +kernel
theorem dX7_balanced_135 : decode cX7_balanced 135 = .ok (.getfield 51, 3) := by decide +kernel
theorem dX7_balanced_138 : decode cX7_balanced 138 = .ok (.iload 4, 2) := by decide +kernel
theorem dX7_balanced_140 : decode cX7_balanced 140 = .ok (.iaload, 1) := by decide +kernel
theorem dX7_balanced_141 : decode cX7_balanced 141 = .ok (.if_icmp .ne 10, 3) := by decide +kernel
theorem dX7_balanced_144 : decode cX7_balanced 144 = .ok (.aload_n 0, 1) := by decide +kernel
theorem dX7_balanced_145 : decode cX7_balanced 145 = .ok (.iload 4, 2) := by decide +kernel
theorem dX7_balanced_147 : decode cX7_balanced 147 = .ok (.iload_n 1, 1) := by decide +kernel
theorem dX7_balanced_148 : decode cX7_balanced 148 = .ok (.invokevirtual 154, 3) := by decide +kernel
theorem dX7_balanced_151 : decode cX7_balanced 151 = .ok (.aload_n 0, 1) := by decide +kernel
theorem dX7_balanced_152 : decode cX7_balanced 152 = .ok (.getfield 42, 3) := by decide +kernel
theorem dX7_balanced_155 : decode cX7_balanced 155 = .ok (.iload_n 3, 1) := by decide +kernel
theorem dX7_balanced_156 : decode cX7_balanced 156 = .ok (.aload_n 0, 1) := by decide +kernel
theorem dX7_balanced_157 : decode cX7_balanced 157 = .ok (.getfield 45, 3) := by decide +kernel
theorem dX7_balanced_160 : decode cX7_balanced 160 = .ok (.aload_n 0, 1) := by decide +kernel
theorem dX7_balanced_161 : decode cX7_balanced 161 = .ok (.getfield 48, 3) := by decide +kernel
theorem dX7_balanced_164 : decode cX7_balanced 164 = .ok (.iload 4, 2) := by decide +kernel
theorem dX7_balanced_166 : decode cX7_balanced 166 = .ok (.iaload, 1) := by decide +kernel
theorem dX7_balanced_167 : decode cX7_balanced 167 = .ok (.aload_n 0, 1) := by decide +kernel
theorem dX7_balanced_168 : decode cX7_balanced 168 = .ok (.getfield 54, 3) := by decide +kernel
theorem dX7_balanced_171 : decode cX7_balanced 171 = .ok (.iload 4, 2) := by decide +kernel
theorem dX7_balanced_173 : decode cX7_balanced 173 = .ok (.iaload, 1) := by decide +kernel
theorem dX7_balanced_174 : decode cX7_balanced 174 = .ok (.iadd, 1) := by decide +kernel
theorem dX7_balanced_175 : decode cX7_balanced 175 = .ok (.iaload, 1) := by decide +kernel
theorem dX7_balanced_176 : decode cX7_balanced 176 = .ok (.iastore, 1) := by decide +kernel
theorem dX7_balanced_177 : decode cX7_balanced 177 = .ok (.aload_n 0, 1) := by decide +kernel
theorem dX7_balanced_178 : decode cX7_balanced 178 = .ok (.getfield 54, 3) := by decide +kernel
theorem dX7_balanced_181 : decode cX7_balanced 181 = .ok (.iload 4, 2) := by decide +kernel
theorem dX7_balanced_183 : decode cX7_balanced 183 = .ok (.dup2, 1) := by decide +kernel
theorem dX7_balanced_184 : decode cX7_balanced 184 = .ok (.iaload, 1) := by decide +kernel
theorem dX7_balanced_185 : decode cX7_balanced 185 = .ok (.iconst 1, 1) := by decide +kernel
theorem dX7_balanced_186 : decode cX7_balanced 186 = .ok (.iadd, 1) := by decide +kernel
theorem dX7_balanced_187 : decode cX7_balanced 187 = .ok (.iastore, 1) := by decide +kernel
theorem dX7_balanced_188 : decode cX7_balanced 188 = .ok (.iinc 3 1, 3) := by decide +kernel
theorem dX7_balanced_191 : decode cX7_balanced 191 = .ok (.iload 4, 2) := by decide +kernel
theorem dX7_balanced_193 : decode cX7_balanced 193 = .ok (.iconst 1, 1) := by decide +kernel
theorem dX7_balanced_194 : decode cX7_balanced 194 = .ok (.iadd, 1) := by decide +kernel
theorem dX7_balanced_195 : decode cX7_balanced 195 = .ok (.bipush 8, 2) := by decide +kernel
theorem dX7_balanced_197 : decode cX7_balanced 197 = .ok (.irem, 1) := by decide +kernel
theorem dX7_balanced_198 : decode cX7_balanced 198 = .ok (.istore 4, 2) := by decide +kernel
theorem dX7_balanced_200 : decode cX7_balanced 200 = .ok (.goto (-91), 3) := by decide +kernel
theorem dX7_balanced_203 : decode cX7_balanced 203 = .ok (.return_, 1) := by decide +kernel
set_option maxRecDepth 20000 in
theorem ggX7_buffered_X7_draw : GoodIn wsX7_buffered wsX7_draw := goodIn_r _ [9, 10, 11, 12, 13, 8, 14, 15, 16, 17, 18, 19, 20, 21, 22, 23, 24, 25, 26, 27, 28, 29, 30, 31, 32, 33, 34, 35, 36, 37, 38, 39, 40, 41, 42, 43, 44, 45, 46] (by decide +kernel) (by decide +kernel)
set_option maxRecDepth 20000 in
theorem gX7_buffered_X7_draw : GoodIn wsX7_buffered (wsV RX7 89 RX7 yX7_draw wsX7_draw) := goodIn_app (goodIn_of _ (by decide +kernel)) ggX7_buffered_X7_draw
theorem dX7_buffered_0 : decode cX7_buffered 0 = .ok (.aload_n 0, 1) := by decide +kernel
theorem dX7_buffered_1 : decode cX7_buffered 1 = .ok (.getfield 39, 3) := by decide +kernel
theorem dX7_buffered_4 : decode cX7_buffered 4 = .ok (.aload_n 0, 1) := by decide +kernel
theorem dX7_buffered_5 : decode cX7_buffered 5 = .ok (.getfield 93, 3) := by decide +kernel
theorem dX7_buffered_8 : decode cX7_buffered 8 = .ok (.if_icmp .ge 10, 3) := by decide +kernel
theorem dX7_buffered_11 : decode cX7_buffered 11 = .ok (.aload_n 0, 1) := by decide +kernel
theorem dX7_buffered_12 : decode cX7_buffered 12 = .ok (.getfield 39, 3) := by decide +kernel
theorem dX7_buffered_15 : decode cX7_buffered 15 = .ok (.goto 7, 3) := by decide +kernel
theorem dX7_buffered_18 : decode cX7_buffered 18 = .ok (.aload_n 0, 1) := by decide +kernel
theorem dX7_buffered_19 : decode cX7_buffered 19 = .ok (.getfield 93, 3) := by decide +kernel
theorem dX7_buffered_22 : decode cX7_buffered 22 = .ok (.istore_n 1, 1) := by decide +kernel
theorem dX7_buffered_23 : decode cX7_buffered 23 = .ok (.iconst 0, 1) := by decide +kernel
theorem dX7_buffered_24 : decode cX7_buffered 24 = .ok (.istore_n 2, 1) := by decide +kernel
theorem dX7_buffered_25 : decode cX7_buffered 25 = .ok (.iload_n 2, 1) := by decide +kernel
theorem dX7_buffered_26 : decode cX7_buffered 26 = .ok (.iload_n 1, 1) := by decide +kernel
theorem dX7_buffered_27 : decode cX7_buffered 27 = .ok (.if_icmp .ge 16, 3) := by decide +kernel
theorem dX7_buffered_30 : decode cX7_buffered 30 = .ok (.aload_n 0, 1) := by decide +kernel
theorem dX7_buffered_31 : decode cX7_buffered 31 = .ok (.getfield 45, 3) := by decide +kernel
theorem dX7_buffered_34 : decode cX7_buffered 34 = .ok (.iload_n 2, 1) := by decide +kernel
theorem dX7_buffered_35 : decode cX7_buffered 35 = .ok (.iload_n 2, 1) := by decide +kernel
theorem dX7_buffered_36 : decode cX7_buffered 36 = .ok (.iastore, 1) := by decide +kernel
theorem dX7_buffered_37 : decode cX7_buffered 37 = .ok (.iinc 2 1, 3) := by decide +kernel
theorem dX7_buffered_40 : decode cX7_buffered 40 = .ok (.goto (-15), 3) := by decide +kernel
theorem dX7_buffered_43 : decode cX7_buffered 43 = .ok (.iload_n 1, 1) := by decide +kernel
theorem dX7_buffered_44 : decode cX7_buffered 44 = .ok (.istore_n 2, 1) := by decide +kernel
theorem dX7_buffered_45 : decode cX7_buffered 45 = .ok (.iconst 0, 1) := by decide +kernel
theorem dX7_buffered_46 : decode cX7_buffered 46 = .ok (.istore_n 3, 1) := by decide +kernel
theorem dX7_buffered_47 : decode cX7_buffered 47 = .ok (.iload_n 3, 1) := by decide +kernel
theorem dX7_buffered_48 : decode cX7_buffered 48 = .ok (.aload_n 0, 1) := by decide +kernel
theorem dX7_buffered_49 : decode cX7_buffered 49 = .ok (.getfield 93, 3) := by decide +kernel
theorem dX7_buffered_52 : decode cX7_buffered 52 = .ok (.if_icmp .ge 68, 3) := by decide +kernel
theorem dX7_buffered_55 : decode cX7_buffered 55 = .ok (.aload_n 0, 1) := by decide +kernel
theorem dX7_buffered_56 : decode cX7_buffered 56 = .ok (.iload_n 1, 1) := by decide +kernel
theorem dX7_buffered_57 : decode cX7_buffered 57 = .ok (.i2l, 1) := by decide +kernel
theorem dX7_buffered_58 : decode cX7_buffered 58 = .ok (.invokevirtual 89, 3) := by decide +kernel
theorem dX7_buffered_61 : decode cX7_buffered 61 = .ok (.istore 4, 2) := by decide +kernel
theorem dX7_buffered_63 : decode cX7_buffered 63 = .ok (.aload_n 0, 1) := by decide +kernel
theorem dX7_buffered_64 : decode cX7_buffered 64 = .ok (.getfield 42, 3) := by decide +kernel
theorem dX7_buffered_67 : decode cX7_buffered 67 = .ok (.iload_n 3, 1) := by decide +kernel
theorem dX7_buffered_68 : decode cX7_buffered 68 = .ok (.aload_n 0, 1) := by decide +kernel
theorem dX7_buffered_69 : decode cX7_buffered 69 = .ok (.getfield 45, 3) := by decide +kernel
theorem dX7_buffered_72 : decode cX7_buffered 72 = .ok (.iload 4, 2) := by decide +kernel
theorem dX7_buffered_74 : decode cX7_buffered 74 = .ok (.iaload, 1) := by decide +kernel
theorem dX7_buffered_75 : decode cX7_buffered 75 = .ok (.iastore, 1) := by decide +kernel
theorem dX7_buffered_76 : decode cX7_buffered 76 = .ok (.iload_n 2, 1) := by decide +kernel
theorem dX7_buffered_77 : decode cX7_buffered 77 = .ok (.aload_n 0, 1) := by decide +kernel
theorem dX7_buffered_78 : decode cX7_buffered 78 = .ok (.getfield 93, 3) := by decide +kernel
theorem dX7_buffered_81 : decode cX7_buffered 81 = .ok (.if_icmp .ge 17, 3) := by decide +kernel
theorem dX7_buffered_84 : decode cX7_buffered 84 = .ok (.aload_n 0, 1) := by decide +kernel
theorem dX7_buffered_85 : decode cX7_buffered 85 = .ok (.getfield 45, 3) := by decide +kernel
theorem dX7_buffered_88 : decode cX7_buffered 88 = .ok (.iload 4, 2) := by decide +kernel
theorem dX7_buffered_90 : decode cX7_buffered 90 = .ok (.iload_n 2, 1) := by decide +kernel
theorem dX7_buffered_91 : decode cX7_buffered 91 = .ok (.iastore, 1) := by decide +kernel
theorem dX7_buffered_92 : decode cX7_buffered 92 = .ok (.iinc 2 1, 3) := by decide +kernel
theorem dX7_buffered_95 : decode cX7_buffered 95 = .ok (.goto 19, 3) := by decide +kernel
theorem dX7_buffered_98 : decode cX7_buffered 98 = .ok (.iinc 1 (-1), 3) := by decide +kernel
theorem dX7_buffered_101 : decode cX7_buffered 101 = .ok (.aload_n 0, 1) := by decide +kernel
theorem dX7_buffered_102 : decode cX7_buffered 102 = .ok (.getfield 45, 3) := by decide +kernel
theorem dX7_buffered_105 : decode cX7_buffered 105 = .ok (.iload 4, 2) := by decide +kernel
theorem dX7_buffered_107 : decode cX7_buffered 107 = .ok (.aload_n 0, 1) := by decide +kernel
theorem dX7_buffered_108 : decode cX7_buffered 108 = .ok (.getfield 45, 3) := by decide +kernel
theorem dX7_buffered_111 : decode cX7_buffered 111 = .ok (.iload_n 1, 1) := by decide +kernel
theorem dX7_buffered_112 : decode cX7_buffered 112 = .ok (.iaload, 1) := by decide +kernel
theorem dX7_buffered_113 : decode cX7_buffered 113 = .ok (.iastore, 1) := by decide +kernel
theorem dX7_buffered_114 : decode cX7_buffered 114 = .ok (.iinc 3 1, 3) := by decide +kernel
theorem dX7_buffered_117 : decode cX7_buffered 117 = .ok (.goto (-70), 3) := by decide +kernel
theorem dX7_buffered_120 : decode cX7_buffered 120 = .ok (.return_, 1) := by decide +kernel
set_option maxRecDepth 20000 in
theorem ggX7_isAsked_X7_in : GoodIn wsX7_isAsked wsX7_in := goodIn_r _ [6] (by decide +kernel) (by decide +kernel)
set_option maxRecDepth 20000 in
theorem gX7_isAsked_X7_in : GoodIn wsX7_isAsked (va_wsS RX7 96 yX7_in wsX7_in) := goodIn_app (goodIn_of _ (by decide +kernel)) ggX7_isAsked_X7_in
theorem dX7_isAsked_0 : decode cX7_isAsked 0 = .ok (.iload_n 1, 1) := by decide +kernel
theorem dX7_isAsked_1 : decode cX7_isAsked 1 = .ok (.i2l, 1) := by decide +kernel
theorem dX7_isAsked_2 : decode cX7_isAsked 2 = .ok (.lconst 0, 1) := by decide +kernel
theorem dX7_isAsked_3 : decode cX7_isAsked 3 = .ok (.ldc2_w 158, 3) := by decide +kernel
theorem dX7_isAsked_6 : decode cX7_isAsked 6 = .ok (.invokestatic 96, 3) := by decide +kernel
theorem dX7_isAsked_9 : decode cX7_isAsked 9 = .ok (.ifCond .eq 19, 3) := by decide +kernel
theorem dX7_isAsked_12 : decode cX7_isAsked 12 = .ok (.iload_n 2, 1) := by decide +kernel
theorem dX7_isAsked_13 : decode cX7_isAsked 13 = .ok (.i2l, 1) := by decide +kernel
theorem dX7_isAsked_14 : decode cX7_isAsked 14 = .ok (.lconst 0, 1) := by decide +kernel
theorem dX7_isAsked_15 : decode cX7_isAsked 15 = .ok (.ldc2_w 102, 3) := by decide +kernel
theorem dX7_isAsked_18 : decode cX7_isAsked 18 = .ok (.invokestatic 96, 3) := by decide +kernel
theorem dX7_isAsked_21 : decode cX7_isAsked 21 = .ok (.ifCond .eq 7, 3) := by decide +kernel
theorem dX7_isAsked_24 : decode cX7_isAsked 24 = .ok (.iconst 1, 1) := by decide +kernel
theorem dX7_isAsked_25 : decode cX7_isAsked 25 = .ok (.goto 4, 3) := by decide +kernel
theorem dX7_isAsked_28 : decode cX7_isAsked 28 = .ok (.iconst 0, 1) := by decide +kernel
theorem dX7_isAsked_29 : decode cX7_isAsked 29 = .ok (.ireturn, 1) := by decide +kernel
theorem dX7_count_0 : decode cX7_count 0 = .ok (.aload_n 0, 1) := by decide +kernel
theorem dX7_count_1 : decode cX7_count 1 = .ok (.aload_n 0, 1) := by decide +kernel
theorem dX7_count_2 : decode cX7_count 2 = .ok (.getfield 32, 3) := by decide +kernel
theorem dX7_count_5 : decode cX7_count 5 = .ok (.ifCond .ne 7, 3) := by decide +kernel
theorem dX7_count_8 : decode cX7_count 8 = .ok (.iconst 1, 1) := by decide +kernel
theorem dX7_count_9 : decode cX7_count 9 = .ok (.goto 4, 3) := by decide +kernel
theorem dX7_count_12 : decode cX7_count 12 = .ok (.iconst 0, 1) := by decide +kernel
theorem dX7_count_13 : decode cX7_count 13 = .ok (.putfield 69, 3) := by decide +kernel
theorem dX7_count_16 : decode cX7_count 16 = .ok (.aload_n 0, 1) := by decide +kernel
theorem dX7_count_17 : decode cX7_count 17 = .ok (.getfield 32, 3) := by decide +kernel
theorem dX7_count_20 : decode cX7_count 20 = .ok (.ifCond .ne 7, 3) := by decide +kernel
theorem dX7_count_23 : decode cX7_count 23 = .ok (.iconst 0, 1) := by decide +kernel
theorem dX7_count_24 : decode cX7_count 24 = .ok (.goto 39, 3) := by decide +kernel
theorem dX7_count_27 : decode cX7_count 27 = .ok (.aload_n 0, 1) := by decide +kernel
theorem dX7_count_28 : decode cX7_count 28 = .ok (.getfield 120, 3) := by decide +kernel
theorem dX7_count_31 : decode cX7_count 31 = .ok (.iconst 1, 1) := by decide +kernel
theorem dX7_count_32 : decode cX7_count 32 = .ok (.if_icmp .ne 15, 3) := by decide +kernel
theorem dX7_count_35 : decode cX7_count 35 = .ok (.aload_n 0, 1) := by decide +kernel
theorem dX7_count_36 : decode cX7_count 36 = .ok (.getfield 93, 3) := by decide +kernel
theorem dX7_count_39 : decode cX7_count 39 = .ok (.aload_n 0, 1) := by decide +kernel
theorem dX7_count_40 : decode cX7_count 40 = .ok (.getfield 32, 3) := by decide +kernel
theorem dX7_count_43 : decode cX7_count 43 = .ok (.idiv, 1) := by decide +kernel
theorem dX7_count_44 : decode cX7_count 44 = .ok (.goto 19, 3) := by decide +kernel
theorem dX7_count_47 : decode cX7_count 47 = .ok (.aload_n 0, 1) := by decide +kernel
theorem dX7_count_48 : decode cX7_count 48 = .ok (.getfield 93, 3) := by decide +kernel
theorem dX7_count_51 : decode cX7_count 51 = .ok (.aload_n 0, 1) := by decide +kernel
theorem dX7_count_52 : decode cX7_count 52 = .ok (.getfield 32, 3) := by decide +kernel
theorem dX7_count_55 : decode cX7_count 55 = .ok (.iadd, 1) := by decide +kernel
theorem dX7_count_56 : decode cX7_count 56 = .ok (.iconst 1, 1) := by decide +kernel
theorem dX7_count_57 : decode cX7_count 57 = .ok (.isub, 1) := by decide +kernel
theorem dX7_count_58 : decode cX7_count 58 = .ok (.aload_n 0, 1) := by decide +kernel
theorem dX7_count_59 : decode cX7_count 59 = .ok (.getfield 32, 3) := by decide +kernel
theorem dX7_count_62 : decode cX7_count 62 = .ok (.idiv, 1) := by decide +kernel
theorem dX7_count_63 : decode cX7_count 63 = .ok (.ireturn, 1) := by decide +kernel
theorem dX7_manyOf_0 : decode cX7_manyOf 0 = .ok (.iload_n 1, 1) := by decide +kernel
theorem dX7_manyOf_1 : decode cX7_manyOf 1 = .ok (.i2l, 1) := by decide +kernel
theorem dX7_manyOf_2 : decode cX7_manyOf 2 = .ok (.aload_n 0, 1) := by decide +kernel
theorem dX7_manyOf_3 : decode cX7_manyOf 3 = .ok (.getfield 32, 3) := by decide +kernel
theorem dX7_manyOf_6 : decode cX7_manyOf 6 = .ok (.i2l, 1) := by decide +kernel
theorem dX7_manyOf_7 : decode cX7_manyOf 7 = .ok (.lmul, 1) := by decide +kernel
theorem dX7_manyOf_8 : decode cX7_manyOf 8 = .ok (.lstore_n 2, 1) := by decide +kernel
theorem dX7_manyOf_9 : decode cX7_manyOf 9 = .ok (.aload_n 0, 1) := by decide +kernel
theorem dX7_manyOf_10 : decode cX7_manyOf 10 = .ok (.getfield 93, 3) := by decide +kernel
theorem dX7_manyOf_13 : decode cX7_manyOf 13 = .ok (.i2l, 1) := by decide +kernel
theorem dX7_manyOf_14 : decode cX7_manyOf 14 = .ok (.lload_n 2, 1) := by decide +kernel
theorem dX7_manyOf_15 : decode cX7_manyOf 15 = .ok (.lsub, 1) := by decide +kernel
theorem dX7_manyOf_16 : decode cX7_manyOf 16 = .ok (.aload_n 0, 1) := by decide +kernel
theorem dX7_manyOf_17 : decode cX7_manyOf 17 = .ok (.getfield 32, 3) := by decide +kernel
theorem dX7_manyOf_20 : decode cX7_manyOf 20 = .ok (.i2l, 1) := by decide +kernel
theorem dX7_manyOf_21 : decode cX7_manyOf 21 = .ok (.lcmp, 1) := by decide +kernel
theorem dX7_manyOf_22 : decode cX7_manyOf 22 = .ok (.ifCond .ge 13, 3) := by decide +kernel
theorem dX7_manyOf_25 : decode cX7_manyOf 25 = .ok (.aload_n 0, 1) := by decide +kernel
theorem dX7_manyOf_26 : decode cX7_manyOf 26 = .ok (.getfield 93, 3) := by decide +kernel
theorem dX7_manyOf_29 : decode cX7_manyOf 29 = .ok (.i2l, 1) := by decide +kernel
theorem dX7_manyOf_30 : decode cX7_manyOf 30 = .ok (.lload_n 2, 1) := by decide +kernel
theorem dX7_manyOf_31 : decode cX7_manyOf 31 = .ok (.lsub, 1) := by decide +kernel
theorem dX7_manyOf_32 : decode cX7_manyOf 32 = .ok (.goto 8, 3) := by decide +kernel
theorem dX7_manyOf_35 : decode cX7_manyOf 35 = .ok (.aload_n 0, 1) := by decide +kernel
theorem dX7_manyOf_36 : decode cX7_manyOf 36 = .ok (.getfield 32, 3) := by decide +kernel
theorem dX7_manyOf_39 : decode cX7_manyOf 39 = .ok (.i2l, 1) := by decide +kernel
theorem dX7_manyOf_40 : decode cX7_manyOf 40 = .ok (.lstore 4, 2) := by decide +kernel
theorem dX7_manyOf_42 : decode cX7_manyOf 42 = .ok (.lload 4, 2) := by decide +kernel
theorem dX7_manyOf_44 : decode cX7_manyOf 44 = .ok (.lconst 0, 1) := by decide +kernel
theorem dX7_manyOf_45 : decode cX7_manyOf 45 = .ok (.lcmp, 1) := by decide +kernel
theorem dX7_manyOf_46 : decode cX7_manyOf 46 = .ok (.ifCond .lt 22, 3) := by decide +kernel
theorem dX7_manyOf_49 : decode cX7_manyOf 49 = .ok (.aload_n 0, 1) := by decide +kernel
theorem dX7_manyOf_50 : decode cX7_manyOf 50 = .ok (.getfield 120, 3) := by decide +kernel
theorem dX7_manyOf_53 : decode cX7_manyOf 53 = .ok (.iconst 1, 1) := by decide +kernel
theorem dX7_manyOf_54 : decode cX7_manyOf 54 = .ok (.if_icmp .ne 18, 3) := by decide +kernel
theorem dX7_manyOf_57 : decode cX7_manyOf 57 = .ok (.lload 4, 2) := by decide +kernel
theorem dX7_manyOf_59 : decode cX7_manyOf 59 = .ok (.aload_n 0, 1) := by decide +kernel
theorem dX7_manyOf_60 : decode cX7_manyOf 60 = .ok (.getfield 32, 3) := by decide +kernel
theorem dX7_manyOf_63 : decode cX7_manyOf 63 = .ok (.i2l, 1) := by decide +kernel
theorem dX7_manyOf_64 : decode cX7_manyOf 64 = .ok (.lcmp, 1) := by decide +kernel
theorem dX7_manyOf_65 : decode cX7_manyOf 65 = .ok (.ifCond .ge 7, 3) := by decide +kernel
theorem dX7_manyOf_68 : decode cX7_manyOf 68 = .ok (.iconst 0, 1) := by decide +kernel
theorem dX7_manyOf_69 : decode cX7_manyOf 69 = .ok (.goto 6, 3) := by decide +kernel
theorem dX7_manyOf_72 : decode cX7_manyOf 72 = .ok (.lload 4, 2) := by decide +kernel
theorem dX7_manyOf_74 : decode cX7_manyOf 74 = .ok (.l2i, 1) := by decide +kernel
theorem dX7_manyOf_75 : decode cX7_manyOf 75 = .ok (.ireturn, 1) := by decide +kernel
set_option maxRecDepth 20000 in
theorem ggX7_batch_X7_isAsked : GoodIn wsX7_batch wsX7_isAsked := goodIn_r _ [8, 9, 10, 11, 12, 7, 13] (by decide +kernel) (by decide +kernel)
set_option maxRecDepth 20000 in
theorem gX7_batch_X7_isAsked : GoodIn wsX7_batch (wsV RX7 160 RX7 yX7_isAsked wsX7_isAsked) := goodIn_app (goodIn_of _ (by decide +kernel)) ggX7_batch_X7_isAsked
set_option maxRecDepth 20000 in
theorem ggX7_batch_X7_orders : GoodIn wsX7_batch wsX7_orders := goodIn_r _ [17, 18, 3, 19, 20, 21, 7, 22, 23, 24, 25, 26, 27, 28, 29, 30, 31, 32, 33, 34, 35, 36, 37, 38, 39, 40, 41, 42, 43, 44, 45, 46, 47, 48, 49, 50, 51, 52, 53, 54, 55, 56, 57, 58, 59, 60, 61, 62, 63, 64, 65, 66, 67, 68, 69, 70, 71, 72, 73, 74, 75, 76, 77, 83, 84, 85, 86, 87, 88, 89, 90, 91, 92, 93, 94, 95, 96, 97, 98, 99, 100, 101, 102, 103, 104, 105, 106, 107, 108, 109, 110, 111, 112] (by decide +kernel) (by decide +kernel)
set_option maxRecDepth 20000 in
theorem gX7_batch_X7_orders : GoodIn wsX7_batch (wsV RX7 164 RX7 yX7_orders wsX7_orders) := goodIn_app (goodIn_of _ (by decide +kernel)) ggX7_batch_X7_orders
set_option maxRecDepth 20000 in
theorem ggX7_batch_X7_manyOf : GoodIn wsX7_batch wsX7_manyOf := goodIn_r _ [81, 2, 18, 82, 83, 84, 85, 86, 87, 88, 89, 90, 91, 92, 93, 94, 95, 96, 97, 98, 99, 100, 101, 102, 103, 104, 105, 106, 107, 108, 109, 110, 111, 112] (by decide +kernel) (by decide +kernel)
set_option maxRecDepth 20000 in
theorem gX7_batch_X7_manyOf : GoodIn wsX7_batch (wsV RX7 167 RX7 yX7_manyOf wsX7_manyOf) := goodIn_app (goodIn_of _ (by decide +kernel)) ggX7_batch_X7_manyOf
theorem dX7_batch_0 : decode cX7_batch 0 = .ok (.aload_n 0, 1) := by decide +kernel
theorem dX7_batch_1 : decode cX7_batch 1 = .ok (.iconst 0, 1) := by decide +kernel
theorem dX7_batch_2 : decode cX7_batch 2 = .ok (.putfield 69, 3) := by decide +kernel
theorem dX7_batch_5 : decode cX7_batch 5 = .ok (.aload_n 0, 1) := by decide +kernel
theorem dX7_batch_6 : decode cX7_batch 6 = .ok (.iload_n 1, 1) := by decide +kernel
theorem dX7_batch_7 : decode cX7_batch 7 = .ok (.iload_n 2, 1) := by decide +kernel
theorem dX7_batch_8 : decode cX7_batch 8 = .ok (.invokevirtual 160, 3) := by decide +kernel
theorem dX7_batch_11 : decode cX7_batch 11 = .ok (.ifCond .eq 12, 3) := by decide +kernel
theorem dX7_batch_14 : decode cX7_batch 14 = .ok (.iload_n 3, 1) := by decide +kernel
theorem dX7_batch_15 : decode cX7_batch 15 = .ok (.ifCond .lt 8, 3) := by decide +kernel
theorem dX7_batch_18 : decode cX7_batch 18 = .ok (.iload 4, 2) := by decide +kernel
theorem dX7_batch_20 : decode cX7_batch 20 = .ok (.ifCond .ge 5, 3) := by decide +kernel
theorem dX7_batch_23 : decode cX7_batch 23 = .ok (.iconst (-1), 1) := by decide +kernel
theorem dX7_batch_24 : decode cX7_batch 24 = .ok (.ireturn, 1) := by decide +kernel
theorem dX7_batch_25 : decode cX7_batch 25 = .ok (.aload_n 0, 1) := by decide +kernel
theorem dX7_batch_26 : decode cX7_batch 26 = .ok (.getfield 32, 3) := by decide +kernel
theorem dX7_batch_29 : decode cX7_batch 29 = .ok (.ifCond .eq 12, 3) := by decide +kernel
theorem dX7_batch_32 : decode cX7_batch 32 = .ok (.aload_n 0, 1) := by decide +kernel
theorem dX7_batch_33 : decode cX7_batch 33 = .ok (.iload_n 1, 1) := by decide +kernel
theorem dX7_batch_34 : decode cX7_batch 34 = .ok (.iload_n 2, 1) := by decide +kernel
theorem dX7_batch_35 : decode cX7_batch 35 = .ok (.invokevirtual 164, 3) := by decide +kernel
theorem dX7_batch_38 : decode cX7_batch 38 = .ok (.ifCond .ne 6, 3) := by decide +kernel
theorem dX7_batch_41 : decode cX7_batch 41 = .ok (.bipush (-16), 2) := by decide +kernel
theorem dX7_batch_43 : decode cX7_batch 43 = .ok (.ireturn, 1) := by decide +kernel
theorem dX7_batch_44 : decode cX7_batch 44 = .ok (.iload 4, 2) := by decide +kernel
theorem dX7_batch_46 : decode cX7_batch 46 = .ok (.aload_n 0, 1) := by decide +kernel
theorem dX7_batch_47 : decode cX7_batch 47 = .ok (.iload_n 3, 1) := by decide +kernel
theorem dX7_batch_48 : decode cX7_batch 48 = .ok (.invokevirtual 167, 3) := by decide +kernel
theorem dX7_batch_51 : decode cX7_batch 51 = .ok (.if_icmp .ge 20, 3) := by decide +kernel
theorem dX7_batch_54 : decode cX7_batch 54 = .ok (.aload_n 0, 1) := by decide +kernel
theorem dX7_batch_55 : decode cX7_batch 55 = .ok (.getfield 42, 3) := by decide +kernel
theorem dX7_batch_58 : decode cX7_batch 58 = .ok (.iload_n 3, 1) := by decide +kernel
theorem dX7_batch_59 : decode cX7_batch 59 = .ok (.aload_n 0, 1) := by decide +kernel
theorem dX7_batch_60 : decode cX7_batch 60 = .ok (.getfield 32, 3) := by decide +kernel
theorem dX7_batch_63 : decode cX7_batch 63 = .ok (.imul, 1) := by decide +kernel
theorem dX7_batch_64 : decode cX7_batch 64 = .ok (.iload 4, 2) := by decide +kernel
theorem dX7_batch_66 : decode cX7_batch 66 = .ok (.iadd, 1) := by decide +kernel
theorem dX7_batch_67 : decode cX7_batch 67 = .ok (.iaload, 1) := by decide +kernel
theorem dX7_batch_68 : decode cX7_batch 68 = .ok (.goto 5, 3) := by decide +kernel
theorem dX7_batch_71 : decode cX7_batch 71 = .ok (.bipush (-3), 2) := by decide +kernel
theorem dX7_batch_73 : decode cX7_batch 73 = .ok (.ireturn, 1) := by decide +kernel
set_option maxRecDepth 20000 in
theorem ggX7_share_X7_isAsked : GoodIn wsX7_share wsX7_isAsked := goodIn_r _ [9, 10, 11, 12, 13, 8, 14] (by decide +kernel) (by decide +kernel)
set_option maxRecDepth 20000 in
theorem gX7_share_X7_isAsked : GoodIn wsX7_share (wsV RX7 160 RX7 yX7_isAsked wsX7_isAsked) := goodIn_app (goodIn_of _ (by decide +kernel)) ggX7_share_X7_isAsked
set_option maxRecDepth 20000 in
theorem ggX7_share_X7_in : GoodIn wsX7_share wsX7_in := goodIn_r _ [14] (by decide +kernel) (by decide +kernel)
set_option maxRecDepth 20000 in
theorem gX7_share_X7_in : GoodIn wsX7_share (va_wsS RX7 96 yX7_in wsX7_in) := goodIn_app (goodIn_of _ (by decide +kernel)) ggX7_share_X7_in
set_option maxRecDepth 20000 in
theorem ggX7_share_X7_orders : GoodIn wsX7_share wsX7_orders := goodIn_r _ [18, 19, 4, 20, 21, 22, 8, 23, 24, 25, 26, 27, 28, 29, 30, 31, 32, 33, 34, 35, 36, 37, 38, 39, 40, 41, 42, 43, 44, 45, 46, 47, 48, 49, 50, 51, 52, 53, 54, 55, 56, 57, 58, 59, 60, 61, 62, 63, 64, 65, 66, 67, 68, 69, 70, 71, 72, 73, 74, 75, 76, 77, 78, 84, 85, 86, 87, 88, 89, 90, 91, 92, 93, 94, 95, 96, 97, 98, 99, 100, 101, 102, 103, 104, 105, 106, 107, 108, 109, 110, 111, 112, 113] (by decide +kernel) (by decide +kernel)
set_option maxRecDepth 20000 in
theorem gX7_share_X7_orders : GoodIn wsX7_share (wsV RX7 164 RX7 yX7_orders wsX7_orders) := goodIn_app (goodIn_of _ (by decide +kernel)) ggX7_share_X7_orders
set_option maxRecDepth 20000 in
theorem ggX7_share_X7_manyOf : GoodIn wsX7_share wsX7_manyOf := goodIn_r _ [82, 3, 19, 83, 84, 85, 86, 87, 88, 89, 90, 91, 92, 93, 94, 95, 96, 97, 98, 99, 100, 101, 102, 103, 104, 105, 106, 107, 108, 109, 110, 111, 112, 113] (by decide +kernel) (by decide +kernel)
set_option maxRecDepth 20000 in
theorem gX7_share_X7_manyOf : GoodIn wsX7_share (wsV RX7 167 RX7 yX7_manyOf wsX7_manyOf) := goodIn_app (goodIn_of _ (by decide +kernel)) ggX7_share_X7_manyOf
theorem dX7_share_0 : decode cX7_share 0 = .ok (.aload_n 0, 1) := by decide +kernel
theorem dX7_share_1 : decode cX7_share 1 = .ok (.iconst 0, 1) := by decide +kernel
theorem dX7_share_2 : decode cX7_share 2 = .ok (.putfield 69, 3) := by decide +kernel
theorem dX7_share_5 : decode cX7_share 5 = .ok (.aload_n 0, 1) := by decide +kernel
theorem dX7_share_6 : decode cX7_share 6 = .ok (.iload_n 1, 1) := by decide +kernel
theorem dX7_share_7 : decode cX7_share 7 = .ok (.iload_n 2, 1) := by decide +kernel
theorem dX7_share_8 : decode cX7_share 8 = .ok (.invokevirtual 160, 3) := by decide +kernel
theorem dX7_share_11 : decode cX7_share 11 = .ok (.ifCond .eq 40, 3) := by decide +kernel
theorem dX7_share_14 : decode cX7_share 14 = .ok (.iload_n 3, 1) := by decide +kernel
theorem dX7_share_15 : decode cX7_share 15 = .ok (.ifCond .lt 36, 3) := by decide +kernel
theorem dX7_share_18 : decode cX7_share 18 = .ok (.iload 6, 2) := by decide +kernel
theorem dX7_share_20 : decode cX7_share 20 = .ok (.ifCond .lt 31, 3) := by decide +kernel
theorem dX7_share_23 : decode cX7_share 23 = .ok (.iload 4, 2) := by decide +kernel
theorem dX7_share_25 : decode cX7_share 25 = .ok (.i2l, 1) := by decide +kernel
theorem dX7_share_26 : decode cX7_share 26 = .ok (.lconst 1, 1) := by decide +kernel
theorem dX7_share_27 : decode cX7_share 27 = .ok (.ldc2_w 171, 3) := by decide +kernel
theorem dX7_share_30 : decode cX7_share 30 = .ok (.invokestatic 96, 3) := by decide +kernel
theorem dX7_share_33 : decode cX7_share 33 = .ok (.ifCond .eq 18, 3) := by decide +kernel
theorem dX7_share_36 : decode cX7_share 36 = .ok (.iload 5, 2) := by decide +kernel
theorem dX7_share_38 : decode cX7_share 38 = .ok (.i2l, 1) := by decide +kernel
theorem dX7_share_39 : decode cX7_share 39 = .ok (.lconst 0, 1) := by decide +kernel
theorem dX7_share_40 : decode cX7_share 40 = .ok (.iload 4, 2) := by decide +kernel
theorem dX7_share_42 : decode cX7_share 42 = .ok (.iconst 1, 1) := by decide +kernel
theorem dX7_share_43 : decode cX7_share 43 = .ok (.isub, 1) := by decide +kernel
theorem dX7_share_44 : decode cX7_share 44 = .ok (.i2l, 1) := by decide +kernel
theorem dX7_share_45 : decode cX7_share 45 = .ok (.invokestatic 96, 3) := by decide +kernel
theorem dX7_share_48 : decode cX7_share 48 = .ok (.ifCond .ne 5, 3) := by decide +kernel
theorem dX7_share_51 : decode cX7_share 51 = .ok (.iconst (-1), 1) := by decide +kernel
theorem dX7_share_52 : decode cX7_share 52 = .ok (.ireturn, 1) := by decide +kernel
theorem dX7_share_53 : decode cX7_share 53 = .ok (.aload_n 0, 1) := by decide +kernel
theorem dX7_share_54 : decode cX7_share 54 = .ok (.getfield 32, 3) := by decide +kernel
theorem dX7_share_57 : decode cX7_share 57 = .ok (.ifCond .eq 12, 3) := by decide +kernel
theorem dX7_share_60 : decode cX7_share 60 = .ok (.aload_n 0, 1) := by decide +kernel
theorem dX7_share_61 : decode cX7_share 61 = .ok (.iload_n 1, 1) := by decide +kernel
theorem dX7_share_62 : decode cX7_share 62 = .ok (.iload_n 2, 1) := by decide +kernel
theorem dX7_share_63 : decode cX7_share 63 = .ok (.invokevirtual 164, 3) := by decide +kernel
theorem dX7_share_66 : decode cX7_share 66 = .ok (.ifCond .ne 6, 3) := by decide +kernel
theorem dX7_share_69 : decode cX7_share 69 = .ok (.bipush (-16), 2) := by decide +kernel
theorem dX7_share_71 : decode cX7_share 71 = .ok (.ireturn, 1) := by decide +kernel
theorem dX7_share_72 : decode cX7_share 72 = .ok (.iload 5, 2) := by decide +kernel
theorem dX7_share_74 : decode cX7_share 74 = .ok (.i2l, 1) := by decide +kernel
theorem dX7_share_75 : decode cX7_share 75 = .ok (.iload 6, 2) := by decide +kernel
theorem dX7_share_77 : decode cX7_share 77 = .ok (.i2l, 1) := by decide +kernel
theorem dX7_share_78 : decode cX7_share 78 = .ok (.iload 4, 2) := by decide +kernel
theorem dX7_share_80 : decode cX7_share 80 = .ok (.i2l, 1) := by decide +kernel
theorem dX7_share_81 : decode cX7_share 81 = .ok (.lmul, 1) := by decide +kernel
theorem dX7_share_82 : decode cX7_share 82 = .ok (.ladd, 1) := by decide +kernel
theorem dX7_share_83 : decode cX7_share 83 = .ok (.lstore 7, 2) := by decide +kernel
theorem dX7_share_85 : decode cX7_share 85 = .ok (.lload 7, 2) := by decide +kernel
theorem dX7_share_87 : decode cX7_share 87 = .ok (.aload_n 0, 1) := by decide +kernel
theorem dX7_share_88 : decode cX7_share 88 = .ok (.iload_n 3, 1) := by decide +kernel
theorem dX7_share_89 : decode cX7_share 89 = .ok (.invokevirtual 167, 3) := by decide +kernel
theorem dX7_share_92 : decode cX7_share 92 = .ok (.i2l, 1) := by decide +kernel
theorem dX7_share_93 : decode cX7_share 93 = .ok (.lcmp, 1) := by decide +kernel
theorem dX7_share_94 : decode cX7_share 94 = .ok (.ifCond .ge 21, 3) := by decide +kernel
theorem dX7_share_97 : decode cX7_share 97 = .ok (.aload_n 0, 1) := by decide +kernel
theorem dX7_share_98 : decode cX7_share 98 = .ok (.getfield 42, 3) := by decide +kernel
theorem dX7_share_101 : decode cX7_share 101 = .ok (.iload_n 3, 1) := by decide +kernel
theorem dX7_share_102 : decode cX7_share 102 = .ok (.aload_n 0, 1) := by decide +kernel
theorem dX7_share_103 : decode cX7_share 103 = .ok (.getfield 32, 3) := by decide +kernel
theorem dX7_share_106 : decode cX7_share 106 = .ok (.imul, 1) := by decide +kernel
theorem dX7_share_107 : decode cX7_share 107 = .ok (.lload 7, 2) := by decide +kernel
theorem dX7_share_109 : decode cX7_share 109 = .ok (.l2i, 1) := by decide +kernel
theorem dX7_share_110 : decode cX7_share 110 = .ok (.iadd, 1) := by decide +kernel
theorem dX7_share_111 : decode cX7_share 111 = .ok (.iaload, 1) := by decide +kernel
theorem dX7_share_112 : decode cX7_share 112 = .ok (.goto 5, 3) := by decide +kernel
theorem dX7_share_115 : decode cX7_share 115 = .ok (.bipush (-3), 2) := by decide +kernel
theorem dX7_share_117 : decode cX7_share 117 = .ok (.ireturn, 1) := by decide +kernel
set_option maxRecDepth 20000 in
theorem ggX7_once_X7_isAsked : GoodIn wsX7_once wsX7_isAsked := goodIn_r _ [9, 10, 11, 12, 13, 8, 14] (by decide +kernel) (by decide +kernel)
set_option maxRecDepth 20000 in
theorem gX7_once_X7_isAsked : GoodIn wsX7_once (wsV RX7 160 RX7 yX7_isAsked wsX7_isAsked) := goodIn_app (goodIn_of _ (by decide +kernel)) ggX7_once_X7_isAsked
set_option maxRecDepth 20000 in
theorem ggX7_once_X7_orders : GoodIn wsX7_once wsX7_orders := goodIn_r _ [18, 2, 4, 19, 20, 21, 8, 22, 23, 24, 25, 26, 27, 28, 29, 30, 31, 32, 33, 34, 35, 36, 37, 38, 39, 40, 41, 42, 43, 44, 45, 46, 47, 48, 49, 50, 51, 52, 53, 54, 55, 56, 57, 58, 59, 60, 61, 62, 63, 64, 65, 66, 3, 67, 68, 69, 70, 71, 72, 73, 74, 75, 76, 77, 78, 79, 80, 81, 82, 83, 84, 85, 86, 87, 88, 89, 90, 91, 92, 93, 94, 95, 96, 97, 98, 99, 100, 101, 102, 103, 104, 105, 106] (by decide +kernel) (by decide +kernel)
set_option maxRecDepth 20000 in
theorem gX7_once_X7_orders : GoodIn wsX7_once (wsV RX7 164 RX7 yX7_orders wsX7_orders) := goodIn_app (goodIn_of _ (by decide +kernel)) ggX7_once_X7_orders
theorem dX7_once_0 : decode cX7_once 0 = .ok (.aload_n 0, 1) := by decide +kernel
theorem dX7_once_1 : decode cX7_once 1 = .ok (.iconst 0, 1) := by decide +kernel
theorem dX7_once_2 : decode cX7_once 2 = .ok (.putfield 69, 3) := by decide +kernel
theorem dX7_once_5 : decode cX7_once 5 = .ok (.aload_n 0, 1) := by decide +kernel
theorem dX7_once_6 : decode cX7_once 6 = .ok (.iload_n 1, 1) := by decide +kernel
theorem dX7_once_7 : decode cX7_once 7 = .ok (.iload_n 2, 1) := by decide +kernel
theorem dX7_once_8 : decode cX7_once 8 = .ok (.invokevirtual 160, 3) := by decide +kernel
theorem dX7_once_11 : decode cX7_once 11 = .ok (.ifCond .ne 5, 3) := by decide +kernel
theorem dX7_once_14 : decode cX7_once 14 = .ok (.iconst (-1), 1) := by decide +kernel
theorem dX7_once_15 : decode cX7_once 15 = .ok (.ireturn, 1) := by decide +kernel
theorem dX7_once_16 : decode cX7_once 16 = .ok (.aload_n 0, 1) := by decide +kernel
theorem dX7_once_17 : decode cX7_once 17 = .ok (.iload_n 1, 1) := by decide +kernel
theorem dX7_once_18 : decode cX7_once 18 = .ok (.iload_n 2, 1) := by decide +kernel
theorem dX7_once_19 : decode cX7_once 19 = .ok (.invokevirtual 164, 3) := by decide +kernel
theorem dX7_once_22 : decode cX7_once 22 = .ok (.ifCond .ne 6, 3) := by decide +kernel
theorem dX7_once_25 : decode cX7_once 25 = .ok (.bipush (-16), 2) := by decide +kernel
theorem dX7_once_27 : decode cX7_once 27 = .ok (.ireturn, 1) := by decide +kernel
theorem dX7_once_28 : decode cX7_once 28 = .ok (.iconst 0, 1) := by decide +kernel
theorem dX7_once_29 : decode cX7_once 29 = .ok (.istore_n 3, 1) := by decide +kernel
theorem dX7_once_30 : decode cX7_once 30 = .ok (.iload_n 3, 1) := by decide +kernel
theorem dX7_once_31 : decode cX7_once 31 = .ok (.aload_n 0, 1) := by decide +kernel
theorem dX7_once_32 : decode cX7_once 32 = .ok (.getfield 93, 3) := by decide +kernel
theorem dX7_once_35 : decode cX7_once 35 = .ok (.if_icmp .ge 16, 3) := by decide +kernel
theorem dX7_once_38 : decode cX7_once 38 = .ok (.aload_n 0, 1) := by decide +kernel
theorem dX7_once_39 : decode cX7_once 39 = .ok (.getfield 45, 3) := by decide +kernel
theorem dX7_once_42 : decode cX7_once 42 = .ok (.iload_n 3, 1) := by decide +kernel
theorem dX7_once_43 : decode cX7_once 43 = .ok (.iconst 0, 1) := by decide +kernel
theorem dX7_once_44 : decode cX7_once 44 = .ok (.iastore, 1) := by decide +kernel
theorem dX7_once_45 : decode cX7_once 45 = .ok (.iinc 3 1, 3) := by decide +kernel
theorem dX7_once_48 : decode cX7_once 48 = .ok (.goto (-18), 3) := by decide +kernel
theorem dX7_once_51 : decode cX7_once 51 = .ok (.iconst 0, 1) := by decide +kernel
theorem dX7_once_52 : decode cX7_once 52 = .ok (.istore_n 3, 1) := by decide +kernel
theorem dX7_once_53 : decode cX7_once 53 = .ok (.iload_n 3, 1) := by decide +kernel
theorem dX7_once_54 : decode cX7_once 54 = .ok (.aload_n 0, 1) := by decide +kernel
theorem dX7_once_55 : decode cX7_once 55 = .ok (.getfield 93, 3) := by decide +kernel
theorem dX7_once_58 : decode cX7_once 58 = .ok (.if_icmp .ge 24, 3) := by decide +kernel
theorem dX7_once_61 : decode cX7_once 61 = .ok (.aload_n 0, 1) := by decide +kernel
theorem dX7_once_62 : decode cX7_once 62 = .ok (.getfield 45, 3) := by decide +kernel
theorem dX7_once_65 : decode cX7_once 65 = .ok (.aload_n 0, 1) := by decide +kernel
theorem dX7_once_66 : decode cX7_once 66 = .ok (.getfield 42, 3) := by decide +kernel
theorem dX7_once_69 : decode cX7_once 69 = .ok (.iload_n 3, 1) := by decide +kernel
theorem dX7_once_70 : decode cX7_once 70 = .ok (.iaload, 1) := by decide +kernel
theorem dX7_once_71 : decode cX7_once 71 = .ok (.dup2, 1) := by decide +kernel
theorem dX7_once_72 : decode cX7_once 72 = .ok (.iaload, 1) := by decide +kernel
theorem dX7_once_73 : decode cX7_once 73 = .ok (.iconst 1, 1) := by decide +kernel
theorem dX7_once_74 : decode cX7_once 74 = .ok (.iadd, 1) := by decide +kernel
theorem dX7_once_75 : decode cX7_once 75 = .ok (.iastore, 1) := by decide +kernel
theorem dX7_once_76 : decode cX7_once 76 = .ok (.iinc 3 1, 3) := by decide +kernel
theorem dX7_once_79 : decode cX7_once 79 = .ok (.goto (-26), 3) := by decide +kernel
theorem dX7_once_82 : decode cX7_once 82 = .ok (.iconst 0, 1) := by decide +kernel
theorem dX7_once_83 : decode cX7_once 83 = .ok (.istore_n 3, 1) := by decide +kernel
theorem dX7_once_84 : decode cX7_once 84 = .ok (.iload_n 3, 1) := by decide +kernel
theorem dX7_once_85 : decode cX7_once 85 = .ok (.aload_n 0, 1) := by decide +kernel
theorem dX7_once_86 : decode cX7_once 86 = .ok (.getfield 93, 3) := by decide +kernel
theorem dX7_once_89 : decode cX7_once 89 = .ok (.if_icmp .ge 21, 3) := by decide +kernel
theorem dX7_once_92 : decode cX7_once 92 = .ok (.aload_n 0, 1) := by decide +kernel
theorem dX7_once_93 : decode cX7_once 93 = .ok (.getfield 45, 3) := by decide +kernel
theorem dX7_once_96 : decode cX7_once 96 = .ok (.iload_n 3, 1) := by decide +kernel
theorem dX7_once_97 : decode cX7_once 97 = .ok (.iaload, 1) := by decide +kernel
theorem dX7_once_98 : decode cX7_once 98 = .ok (.iconst 1, 1) := by decide +kernel
theorem dX7_once_99 : decode cX7_once 99 = .ok (.if_icmp .eq 5, 3) := by decide +kernel
theorem dX7_once_102 : decode cX7_once 102 = .ok (.iconst 0, 1) := by decide +kernel
theorem dX7_once_103 : decode cX7_once 103 = .ok (.ireturn, 1) := by decide +kernel
theorem dX7_once_104 : decode cX7_once 104 = .ok (.iinc 3 1, 3) := by decide +kernel
theorem dX7_once_107 : decode cX7_once 107 = .ok (.goto (-23), 3) := by decide +kernel
theorem dX7_once_110 : decode cX7_once 110 = .ok (.iconst 1, 1) := by decide +kernel
theorem dX7_once_111 : decode cX7_once 111 = .ok (.ireturn, 1) := by decide +kernel
set_option maxRecDepth 20000 in
theorem ggX7_resume_X7_isAsked : GoodIn wsX7_resume wsX7_isAsked := goodIn_r _ [10, 11, 12, 13, 14, 9, 15] (by decide +kernel) (by decide +kernel)
set_option maxRecDepth 20000 in
theorem gX7_resume_X7_isAsked : GoodIn wsX7_resume (wsV RX7 160 RX7 yX7_isAsked wsX7_isAsked) := goodIn_app (goodIn_of _ (by decide +kernel)) ggX7_resume_X7_isAsked
set_option maxRecDepth 20000 in
theorem ggX7_resume_X7_in : GoodIn wsX7_resume wsX7_in := goodIn_r _ [15] (by decide +kernel) (by decide +kernel)
set_option maxRecDepth 20000 in
theorem gX7_resume_X7_in : GoodIn wsX7_resume (va_wsS RX7 96 yX7_in wsX7_in) := goodIn_app (goodIn_of _ (by decide +kernel)) ggX7_resume_X7_in
theorem dX7_resume_0 : decode cX7_resume 0 = .ok (.aload_n 0, 1) := by decide +kernel
theorem dX7_resume_1 : decode cX7_resume 1 = .ok (.iconst 0, 1) := by decide +kernel
theorem dX7_resume_2 : decode cX7_resume 2 = .ok (.putfield 69, 3) := by decide +kernel
theorem dX7_resume_5 : decode cX7_resume 5 = .ok (.aload_n 0, 1) := by decide +kernel
theorem dX7_resume_6 : decode cX7_resume 6 = .ok (.iload_n 1, 1) := by decide +kernel
theorem dX7_resume_7 : decode cX7_resume 7 = .ok (.iload_n 2, 1) := by decide +kernel
theorem dX7_resume_8 : decode cX7_resume 8 = .ok (.invokevirtual 160, 3) := by decide +kernel
theorem dX7_resume_11 : decode cX7_resume 11 = .ok (.ifCond .eq 17, 3) := by decide +kernel
theorem dX7_resume_14 : decode cX7_resume 14 = .ok (.iload_n 3, 1) := by decide +kernel
theorem dX7_resume_15 : decode cX7_resume 15 = .ok (.i2l, 1) := by decide +kernel
theorem dX7_resume_16 : decode cX7_resume 16 = .ok (.lconst 0, 1) := by decide +kernel
theorem dX7_resume_17 : decode cX7_resume 17 = .ok (.aload_n 0, 1) := by decide +kernel
theorem dX7_resume_18 : decode cX7_resume 18 = .ok (.getfield 93, 3) := by decide +kernel
theorem dX7_resume_21 : decode cX7_resume 21 = .ok (.i2l, 1) := by decide +kernel
theorem dX7_resume_22 : decode cX7_resume 22 = .ok (.invokestatic 96, 3) := by decide +kernel
theorem dX7_resume_25 : decode cX7_resume 25 = .ok (.ifCond .ne 5, 3) := by decide +kernel
theorem dX7_resume_28 : decode cX7_resume 28 = .ok (.iconst (-1), 1) := by decide +kernel
theorem dX7_resume_29 : decode cX7_resume 29 = .ok (.ireturn, 1) := by decide +kernel
theorem dX7_resume_30 : decode cX7_resume 30 = .ok (.aload_n 0, 1) := by decide +kernel
theorem dX7_resume_31 : decode cX7_resume 31 = .ok (.iload_n 1, 1) := by decide +kernel
theorem dX7_resume_32 : decode cX7_resume 32 = .ok (.putfield 173, 3) := by decide +kernel
theorem dX7_resume_35 : decode cX7_resume 35 = .ok (.aload_n 0, 1) := by decide +kernel
theorem dX7_resume_36 : decode cX7_resume 36 = .ok (.iload_n 2, 1) := by decide +kernel
theorem dX7_resume_37 : decode cX7_resume 37 = .ok (.putfield 176, 3) := by decide +kernel
theorem dX7_resume_40 : decode cX7_resume 40 = .ok (.aload_n 0, 1) := by decide +kernel
theorem dX7_resume_41 : decode cX7_resume 41 = .ok (.iload_n 3, 1) := by decide +kernel
theorem dX7_resume_42 : decode cX7_resume 42 = .ok (.putfield 179, 3) := by decide +kernel
theorem dX7_resume_45 : decode cX7_resume 45 = .ok (.iconst 1, 1) := by decide +kernel
theorem dX7_resume_46 : decode cX7_resume 46 = .ok (.ireturn, 1) := by decide +kernel
set_option maxRecDepth 20000 in
theorem ggX7_next_X7_orders : GoodIn wsX7_next wsX7_orders := goodIn_r _ [11, 2, 6, 12, 13, 14, 10, 15, 16, 17, 18, 19, 20, 21, 22, 23, 24, 25, 26, 27, 28, 29, 30, 31, 32, 33, 34, 35, 36, 37, 38, 39, 40, 41, 42, 43, 44, 45, 46, 47, 48, 49, 50, 51, 52, 53, 54, 55, 56, 57, 58, 59, 60, 61, 62, 63, 64, 65, 66, 67, 68, 69, 70, 71, 72, 73, 74, 75, 76, 77, 78, 79, 80, 81, 82, 83, 84, 85, 86, 87, 88, 89, 90, 91, 92, 93, 94, 95, 96, 97, 98, 99, 100] (by decide +kernel) (by decide +kernel)
set_option maxRecDepth 20000 in
theorem gX7_next_X7_orders : GoodIn wsX7_next (wsV RX7 164 RX7 yX7_orders wsX7_orders) := goodIn_app (goodIn_of _ (by decide +kernel)) ggX7_next_X7_orders
theorem dX7_next_0 : decode cX7_next 0 = .ok (.aload_n 0, 1) := by decide +kernel
theorem dX7_next_1 : decode cX7_next 1 = .ok (.iconst 0, 1) := by decide +kernel
theorem dX7_next_2 : decode cX7_next 2 = .ok (.putfield 69, 3) := by decide +kernel
theorem dX7_next_5 : decode cX7_next 5 = .ok (.aload_n 0, 1) := by decide +kernel
theorem dX7_next_6 : decode cX7_next 6 = .ok (.getfield 93, 3) := by decide +kernel
theorem dX7_next_9 : decode cX7_next 9 = .ok (.ifCond .ne 6, 3) := by decide +kernel
theorem dX7_next_12 : decode cX7_next 12 = .ok (.bipush (-3), 2) := by decide +kernel
theorem dX7_next_14 : decode cX7_next 14 = .ok (.ireturn, 1) := by decide +kernel
theorem dX7_next_15 : decode cX7_next 15 = .ok (.aload_n 0, 1) := by decide +kernel
theorem dX7_next_16 : decode cX7_next 16 = .ok (.getfield 179, 3) := by decide +kernel
theorem dX7_next_19 : decode cX7_next 19 = .ok (.aload_n 0, 1) := by decide +kernel
theorem dX7_next_20 : decode cX7_next 20 = .ok (.getfield 93, 3) := by decide +kernel
theorem dX7_next_23 : decode cX7_next 23 = .ok (.if_icmp .lt 7, 3) := by decide +kernel
theorem dX7_next_26 : decode cX7_next 26 = .ok (.iconst 1, 1) := by decide +kernel
theorem dX7_next_27 : decode cX7_next 27 = .ok (.goto 4, 3) := by decide +kernel
theorem dX7_next_30 : decode cX7_next 30 = .ok (.iconst 0, 1) := by decide +kernel
theorem dX7_next_31 : decode cX7_next 31 = .ok (.istore_n 1, 1) := by decide +kernel
theorem dX7_next_32 : decode cX7_next 32 = .ok (.iload_n 1, 1) := by decide +kernel
theorem dX7_next_33 : decode cX7_next 33 = .ok (.ifCond .eq 16, 3) := by decide +kernel
theorem dX7_next_36 : decode cX7_next 36 = .ok (.aload_n 0, 1) := by decide +kernel
theorem dX7_next_37 : decode cX7_next 37 = .ok (.getfield 176, 3) := by decide +kernel
theorem dX7_next_40 : decode cX7_next 40 = .ok (.iconst 1, 1) := by decide +kernel
theorem dX7_next_41 : decode cX7_next 41 = .ok (.iadd, 1) := by decide +kernel
theorem dX7_next_42 : decode cX7_next 42 = .ok (.sipush 1001, 3) := by decide +kernel
theorem dX7_next_45 : decode cX7_next 45 = .ok (.irem, 1) := by decide +kernel
theorem dX7_next_46 : decode cX7_next 46 = .ok (.goto 7, 3) := by decide +kernel
theorem dX7_next_49 : decode cX7_next 49 = .ok (.aload_n 0, 1) := by decide +kernel
theorem dX7_next_50 : decode cX7_next 50 = .ok (.getfield 176, 3) := by decide +kernel
theorem dX7_next_53 : decode cX7_next 53 = .ok (.istore_n 2, 1) := by decide +kernel
theorem dX7_next_54 : decode cX7_next 54 = .ok (.iload_n 1, 1) := by decide +kernel
theorem dX7_next_55 : decode cX7_next 55 = .ok (.ifCond .eq 7, 3) := by decide +kernel
theorem dX7_next_58 : decode cX7_next 58 = .ok (.iconst 0, 1) := by decide +kernel
theorem dX7_next_59 : decode cX7_next 59 = .ok (.goto 7, 3) := by decide +kernel
theorem dX7_next_62 : decode cX7_next 62 = .ok (.aload_n 0, 1) := by decide +kernel
theorem dX7_next_63 : decode cX7_next 63 = .ok (.getfield 179, 3) := by decide +kernel
theorem dX7_next_66 : decode cX7_next 66 = .ok (.istore_n 3, 1) := by decide +kernel
theorem dX7_next_67 : decode cX7_next 67 = .ok (.aload_n 0, 1) := by decide +kernel
theorem dX7_next_68 : decode cX7_next 68 = .ok (.aload_n 0, 1) := by decide +kernel
theorem dX7_next_69 : decode cX7_next 69 = .ok (.getfield 173, 3) := by decide +kernel
theorem dX7_next_72 : decode cX7_next 72 = .ok (.iload_n 2, 1) := by decide +kernel
theorem dX7_next_73 : decode cX7_next 73 = .ok (.invokevirtual 164, 3) := by decide +kernel
theorem dX7_next_76 : decode cX7_next 76 = .ok (.ifCond .ne 6, 3) := by decide +kernel
theorem dX7_next_79 : decode cX7_next 79 = .ok (.bipush (-16), 2) := by decide +kernel
theorem dX7_next_81 : decode cX7_next 81 = .ok (.ireturn, 1) := by decide +kernel
theorem dX7_next_82 : decode cX7_next 82 = .ok (.aload_n 0, 1) := by decide +kernel
theorem dX7_next_83 : decode cX7_next 83 = .ok (.iload_n 2, 1) := by decide +kernel
theorem dX7_next_84 : decode cX7_next 84 = .ok (.putfield 176, 3) := by decide +kernel
theorem dX7_next_87 : decode cX7_next 87 = .ok (.aload_n 0, 1) := by decide +kernel
theorem dX7_next_88 : decode cX7_next 88 = .ok (.iload_n 3, 1) := by decide +kernel
theorem dX7_next_89 : decode cX7_next 89 = .ok (.iconst 1, 1) := by decide +kernel
theorem dX7_next_90 : decode cX7_next 90 = .ok (.iadd, 1) := by decide +kernel
theorem dX7_next_91 : decode cX7_next 91 = .ok (.putfield 179, 3) := by decide +kernel
theorem dX7_next_94 : decode cX7_next 94 = .ok (.aload_n 0, 1) := by decide +kernel
theorem dX7_next_95 : decode cX7_next 95 = .ok (.getfield 42, 3) := by decide +kernel
theorem dX7_next_98 : decode cX7_next 98 = .ok (.iload_n 3, 1) := by decide +kernel
theorem dX7_next_99 : decode cX7_next 99 = .ok (.iaload, 1) := by decide +kernel
theorem dX7_next_100 : decode cX7_next 100 = .ok (.ireturn, 1) := by decide +kernel
theorem dX7_at_0 : decode cX7_at 0 = .ok (.aload_n 0, 1) := by decide +kernel
theorem dX7_at_1 : decode cX7_at 1 = .ok (.iconst 0, 1) := by decide +kernel
theorem dX7_at_2 : decode cX7_at 2 = .ok (.putfield 69, 3) := by decide +kernel
theorem dX7_at_5 : decode cX7_at 5 = .ok (.iload_n 1, 1) := by decide +kernel
theorem dX7_at_6 : decode cX7_at 6 = .ok (.ifCond .ne 10, 3) := by decide +kernel
theorem dX7_at_9 : decode cX7_at 9 = .ok (.aload_n 0, 1) := by decide +kernel
theorem dX7_at_10 : decode cX7_at 10 = .ok (.getfield 173, 3) := by decide +kernel
theorem dX7_at_13 : decode cX7_at 13 = .ok (.goto 28, 3) := by decide +kernel
theorem dX7_at_16 : decode cX7_at 16 = .ok (.iload_n 1, 1) := by decide +kernel
theorem dX7_at_17 : decode cX7_at 17 = .ok (.iconst 1, 1) := by decide +kernel
theorem dX7_at_18 : decode cX7_at 18 = .ok (.if_icmp .ne 10, 3) := by decide +kernel
theorem dX7_at_21 : decode cX7_at 21 = .ok (.aload_n 0, 1) := by decide +kernel
theorem dX7_at_22 : decode cX7_at 22 = .ok (.getfield 176, 3) := by decide +kernel
theorem dX7_at_25 : decode cX7_at 25 = .ok (.goto 16, 3) := by decide +kernel
theorem dX7_at_28 : decode cX7_at 28 = .ok (.iload_n 1, 1) := by decide +kernel
theorem dX7_at_29 : decode cX7_at 29 = .ok (.iconst 2, 1) := by decide +kernel
theorem dX7_at_30 : decode cX7_at 30 = .ok (.if_icmp .ne 10, 3) := by decide +kernel
theorem dX7_at_33 : decode cX7_at 33 = .ok (.aload_n 0, 1) := by decide +kernel
theorem dX7_at_34 : decode cX7_at 34 = .ok (.getfield 179, 3) := by decide +kernel
theorem dX7_at_37 : decode cX7_at 37 = .ok (.goto 4, 3) := by decide +kernel
theorem dX7_at_40 : decode cX7_at 40 = .ok (.iconst (-1), 1) := by decide +kernel
theorem dX7_at_41 : decode cX7_at 41 = .ok (.ireturn, 1) := by decide +kernel
