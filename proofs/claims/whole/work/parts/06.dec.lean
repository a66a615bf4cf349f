theorem dX7_failure_0 : decode cX7_failure 0 = .ok (.aload_n 0, 1) := by decide +kernel
theorem dX7_failure_1 : decode cX7_failure 1 = .ok (.getfield 7, 3) := by decide +kernel
theorem dX7_failure_4 : decode cX7_failure 4 = .ok (.iload_n 2, 1) := by decide +kernel
theorem dX7_failure_5 : decode cX7_failure 5 = .ok (.iaload, 1) := by decide +kernel
theorem dX7_failure_6 : decode cX7_failure 6 = .ok (.iconst 2, 1) := by decide +kernel
theorem dX7_failure_7 : decode cX7_failure 7 = .ok (.if_icmp .ne 5, 3) := by decide +kernel
theorem dX7_failure_10 : decode cX7_failure 10 = .ok (.iconst 1, 1) := by decide +kernel
theorem dX7_failure_11 : decode cX7_failure 11 = .ok (.ireturn, 1) := by decide +kernel
theorem dX7_failure_12 : decode cX7_failure 12 = .ok (.aload_n 0, 1) := by decide +kernel
theorem dX7_failure_13 : decode cX7_failure 13 = .ok (.getfield 7, 3) := by decide +kernel
theorem dX7_failure_16 : decode cX7_failure 16 = .ok (.iload_n 2, 1) := by decide +kernel
theorem dX7_failure_17 : decode cX7_failure 17 = .ok (.iaload, 1) := by decide +kernel
theorem dX7_failure_18 : decode cX7_failure 18 = .ok (.ifCond .ne 7, 3) := by decide +kernel
theorem dX7_failure_21 : decode cX7_failure 21 = .ok (.iconst 1, 1) := by decide +kernel
theorem dX7_failure_22 : decode cX7_failure 22 = .ok (.goto 4, 3) := by decide +kernel
theorem dX7_failure_25 : decode cX7_failure 25 = .ok (.iconst 0, 1) := by decide +kernel
theorem dX7_failure_26 : decode cX7_failure 26 = .ok (.iload_n 1, 1) := by decide +kernel
theorem dX7_failure_27 : decode cX7_failure 27 = .ok (.iconst 2, 1) := by decide +kernel
theorem dX7_failure_28 : decode cX7_failure 28 = .ok (.if_icmp .le 7, 3) := by decide +kernel
theorem dX7_failure_31 : decode cX7_failure 31 = .ok (.iconst 1, 1) := by decide +kernel
theorem dX7_failure_32 : decode cX7_failure 32 = .ok (.goto 4, 3) := by decide +kernel
theorem dX7_failure_35 : decode cX7_failure 35 = .ok (.iconst 0, 1) := by decide +kernel
theorem dX7_failure_36 : decode cX7_failure 36 = .ok (.if_icmp .eq 5, 3) := by decide +kernel
theorem dX7_failure_39 : decode cX7_failure 39 = .ok (.iconst 2, 1) := by decide +kernel
theorem dX7_failure_40 : decode cX7_failure 40 = .ok (.ireturn, 1) := by decide +kernel
theorem dX7_failure_41 : decode cX7_failure 41 = .ok (.iload_n 1, 1) := by decide +kernel
theorem dX7_failure_42 : decode cX7_failure 42 = .ok (.iconst 1, 1) := by decide +kernel
theorem dX7_failure_43 : decode cX7_failure 43 = .ok (.if_icmp .ne 23, 3) := by decide +kernel
theorem dX7_failure_46 : decode cX7_failure 46 = .ok (.iload_n 3, 1) := by decide +kernel
theorem dX7_failure_47 : decode cX7_failure 47 = .ok (.aload_n 0, 1) := by decide +kernel
theorem dX7_failure_48 : decode cX7_failure 48 = .ok (.getfield 22, 3) := by decide +kernel
theorem dX7_failure_51 : decode cX7_failure 51 = .ok (.iload_n 2, 1) := by decide +kernel
theorem dX7_failure_52 : decode cX7_failure 52 = .ok (.iaload, 1) := by decide +kernel
theorem dX7_failure_53 : decode cX7_failure 53 = .ok (.if_icmp .gt 31, 3) := by decide +kernel
theorem dX7_failure_56 : decode cX7_failure 56 = .ok (.iload_n 3, 1) := by decide +kernel
theorem dX7_failure_57 : decode cX7_failure 57 = .ok (.aload_n 0, 1) := by decide +kernel
theorem dX7_failure_58 : decode cX7_failure 58 = .ok (.getfield 25, 3) := by decide +kernel
theorem dX7_failure_61 : decode cX7_failure 61 = .ok (.iload_n 2, 1) := by decide +kernel
theorem dX7_failure_62 : decode cX7_failure 62 = .ok (.iaload, 1) := by decide +kernel
theorem dX7_failure_63 : decode cX7_failure 63 = .ok (.if_icmp .gt 21, 3) := by decide +kernel
theorem dX7_failure_66 : decode cX7_failure 66 = .ok (.iload_n 1, 1) := by decide +kernel
theorem dX7_failure_67 : decode cX7_failure 67 = .ok (.iconst 4, 1) := by decide +kernel
theorem dX7_failure_68 : decode cX7_failure 68 = .ok (.if_icmp .ne 18, 3) := by decide +kernel
theorem dX7_failure_71 : decode cX7_failure 71 = .ok (.aload_n 0, 1) := by decide +kernel
theorem dX7_failure_72 : decode cX7_failure 72 = .ok (.getfield 19, 3) := by decide +kernel
theorem dX7_failure_75 : decode cX7_failure 75 = .ok (.iload_n 2, 1) := by decide +kernel
theorem dX7_failure_76 : decode cX7_failure 76 = .ok (.iaload, 1) := by decide +kernel
theorem dX7_failure_77 : decode cX7_failure 77 = .ok (.ifCond .ne 9, 3) := by decide +kernel
theorem dX7_failure_80 : decode cX7_failure 80 = .ok (.iload_n 3, 1) := by decide +kernel
theorem dX7_failure_81 : decode cX7_failure 81 = .ok (.ifCond .le 5, 3) := by decide +kernel
theorem dX7_failure_84 : decode cX7_failure 84 = .ok (.iconst 3, 1) := by decide +kernel
theorem dX7_failure_85 : decode cX7_failure 85 = .ok (.ireturn, 1) := by decide +kernel
theorem dX7_failure_86 : decode cX7_failure 86 = .ok (.iload_n 1, 1) := by decide +kernel
theorem dX7_failure_87 : decode cX7_failure 87 = .ok (.iconst 1, 1) := by decide +kernel
theorem dX7_failure_88 : decode cX7_failure 88 = .ok (.if_icmp .ne 9, 3) := by decide +kernel
theorem dX7_failure_91 : decode cX7_failure 91 = .ok (.iload_n 3, 1) := by decide +kernel
theorem dX7_failure_92 : decode cX7_failure 92 = .ok (.ifCond .ge 5, 3) := by decide +kernel
theorem dX7_failure_95 : decode cX7_failure 95 = .ok (.iconst 5, 1) := by decide +kernel
theorem dX7_failure_96 : decode cX7_failure 96 = .ok (.ireturn, 1) := by decide +kernel
theorem dX7_failure_97 : decode cX7_failure 97 = .ok (.iload_n 1, 1) := by decide +kernel
theorem dX7_failure_98 : decode cX7_failure 98 = .ok (.iconst 2, 1) := by decide +kernel
theorem dX7_failure_99 : decode cX7_failure 99 = .ok (.if_icmp .ne 7, 3) := by decide +kernel
theorem dX7_failure_102 : decode cX7_failure 102 = .ok (.iload_n 3, 1) := by decide +kernel
theorem dX7_failure_103 : decode cX7_failure 103 = .ok (.ifCond .eq 22, 3) := by decide +kernel
theorem dX7_failure_106 : decode cX7_failure 106 = .ok (.iload_n 1, 1) := by decide +kernel
theorem dX7_failure_107 : decode cX7_failure 107 = .ok (.iconst 4, 1) := by decide +kernel
theorem dX7_failure_108 : decode cX7_failure 108 = .ok (.if_icmp .ne 22, 3) := by decide +kernel
theorem dX7_failure_111 : decode cX7_failure 111 = .ok (.aload_n 0, 1) := by decide +kernel
theorem dX7_failure_112 : decode cX7_failure 112 = .ok (.getfield 19, 3) := by decide +kernel
theorem dX7_failure_115 : decode cX7_failure 115 = .ok (.iload_n 2, 1) := by decide +kernel
theorem dX7_failure_116 : decode cX7_failure 116 = .ok (.iaload, 1) := by decide +kernel
theorem dX7_failure_117 : decode cX7_failure 117 = .ok (.iconst 1, 1) := by decide +kernel
theorem dX7_failure_118 : decode cX7_failure 118 = .ok (.if_icmp .ne 12, 3) := by decide +kernel
theorem dX7_failure_121 : decode cX7_failure 121 = .ok (.iload_n 3, 1) := by decide +kernel
theorem dX7_failure_122 : decode cX7_failure 122 = .ok (.ifCond .le 8, 3) := by decide +kernel
theorem dX7_failure_125 : decode cX7_failure 125 = .ok (.bipush 6, 2) := by decide +kernel
theorem dX7_failure_127 : decode cX7_failure 127 = .ok (.goto 4, 3) := by decide +kernel
theorem dX7_failure_130 : decode cX7_failure 130 = .ok (.iconst 0, 1) := by decide +kernel
theorem dX7_failure_131 : decode cX7_failure 131 = .ok (.ireturn, 1) := by decide +kernel
set_option maxRecDepth 20000 in
theorem ggX7_act_X7_isRow : GoodIn wsX7_act wsX7_isRow := goodIn_r _ [22, 23, 24, 25, 21, 26, 60, 61, 62, 63, 64, 65, 66, 67, 68, 69, 70, 71, 72, 73, 74, 75, 76, 77, 78, 79, 80, 81, 82, 83, 84, 85, 86, 87, 88, 89] (by decide +kernel) (by decide +kernel)
set_option maxRecDepth 20000 in
theorem gX7_act_X7_isRow : GoodIn wsX7_act (wsV RX7 110 RX7 yX7_isRow wsX7_isRow) := goodIn_app (goodIn_of _ (by decide +kernel)) ggX7_act_X7_isRow
set_option maxRecDepth 20000 in
theorem ggX7_act_X7_in : GoodIn wsX7_act wsX7_in := goodIn_r _ [26] (by decide +kernel) (by decide +kernel)
set_option maxRecDepth 20000 in
theorem gX7_act_X7_in : GoodIn wsX7_act (va_wsS RX7 96 yX7_in wsX7_in) := goodIn_app (goodIn_of _ (by decide +kernel)) ggX7_act_X7_in
set_option maxRecDepth 20000 in
theorem ggX7_act_X7_failure : GoodIn wsX7_act wsX7_failure := goodIn_r _ [30, 8, 12, 14, 10, 60, 61, 62, 63, 64, 65, 66, 67, 68, 69, 70, 71, 72, 73, 74, 75, 76, 77, 78, 79, 80, 81, 82, 83, 84, 85, 86, 87, 88, 89] (by decide +kernel) (by decide +kernel)
set_option maxRecDepth 20000 in
theorem gX7_act_X7_failure : GoodIn wsX7_act (wsV RX7 188 RX7 yX7_failure wsX7_failure) := goodIn_app (goodIn_of _ (by decide +kernel)) ggX7_act_X7_failure
set_option maxRecDepth 20000 in
theorem ggX7_act_X7_begin : GoodIn wsX7_act wsX7_begin := goodIn_r _ [34, 35, 36, 60, 61, 62, 63, 64, 65, 66, 67, 68, 69, 70, 71, 72, 73, 74, 75, 76, 77, 78, 79, 80, 81, 82, 83, 84, 85, 86, 87, 88, 89] (by decide +kernel) (by decide +kernel)
set_option maxRecDepth 20000 in
theorem gX7_act_X7_begin : GoodIn wsX7_act (wsV RX7 123 RX7 yX7_begin wsX7_begin) := goodIn_app (goodIn_of _ (by decide +kernel)) ggX7_act_X7_begin
set_option maxRecDepth 20000 in
theorem ggX7_act_X7_with : GoodIn wsX7_act wsX7_with := goodIn_r _ [40, 36, 41, 42, 43, 21, 44, 45, 46, 60, 61, 62, 63, 64, 65, 66, 67, 68, 69, 70, 71, 72, 73, 74, 75, 76, 77, 78, 79, 80, 81, 82, 83, 84, 85, 86, 87, 88, 89] (by decide +kernel) (by decide +kernel)
set_option maxRecDepth 20000 in
theorem gX7_act_X7_with : GoodIn wsX7_act (wsV RX7 126 RX7 yX7_with wsX7_with) := goodIn_app (goodIn_of _ (by decide +kernel)) ggX7_act_X7_with
set_option maxRecDepth 20000 in
theorem ggX7_act_X7_draw : GoodIn wsX7_act wsX7_draw := goodIn_r _ [50, 36, 41, 42, 43, 21, 44, 45, 46, 60, 61, 62, 63, 64, 65, 66, 67, 68, 69, 70, 71, 72, 73, 74, 75, 76, 77, 78, 79, 80, 81, 82, 83, 84, 85, 86, 87, 88, 89] (by decide +kernel) (by decide +kernel)
set_option maxRecDepth 20000 in
theorem gX7_act_X7_draw : GoodIn wsX7_act (wsV RX7 89 RX7 yX7_draw wsX7_draw) := goodIn_app (goodIn_of _ (by decide +kernel)) ggX7_act_X7_draw
set_option maxRecDepth 20000 in
theorem ggX7_act_X7_turn : GoodIn wsX7_act wsX7_turn := goodIn_r _ [54, 11, 55, 16, 15, 13, 60, 61, 62, 63, 64, 65, 66, 67, 68, 69, 70, 71, 72, 73, 74, 75, 76, 77, 78, 79, 80, 81, 82, 83, 84, 85, 86, 87, 88, 89] (by decide +kernel) (by decide +kernel)
set_option maxRecDepth 20000 in
theorem gX7_act_X7_turn : GoodIn wsX7_act (wsV RX7 203 RX7 yX7_turn wsX7_turn) := goodIn_app (goodIn_of _ (by decide +kernel)) ggX7_act_X7_turn
set_option maxRecDepth 20000 in
theorem ggX7_act_X7_crop : GoodIn wsX7_act wsX7_crop := goodIn_r _ [59, 13, 15, 16, 11, 47, 48, 49, 21, 50, 36, 41, 42, 43, 44, 45, 46, 60, 61, 62, 63, 64, 65, 66, 67, 68, 69, 70, 71, 72, 73, 74, 75, 76, 77, 78, 79, 80, 81, 82, 83, 84, 85, 86, 87, 88, 89] (by decide +kernel) (by decide +kernel)
set_option maxRecDepth 20000 in
theorem gX7_act_X7_crop : GoodIn wsX7_act (wsV RX7 206 RX7 yX7_crop wsX7_crop) := goodIn_app (goodIn_of _ (by decide +kernel)) ggX7_act_X7_crop
theorem dX7_act_0 : decode cX7_act 0 = .ok (.aload_n 0, 1) := by decide +kernel
theorem dX7_act_1 : decode cX7_act 1 = .ok (.iconst 0, 1) := by decide +kernel
theorem dX7_act_2 : decode cX7_act 2 = .ok (.putfield 69, 3) := by decide +kernel
theorem dX7_act_5 : decode cX7_act 5 = .ok (.aload_n 0, 1) := by decide +kernel
theorem dX7_act_6 : decode cX7_act 6 = .ok (.iload_n 2, 1) := by decide +kernel
theorem dX7_act_7 : decode cX7_act 7 = .ok (.invokevirtual 110, 3) := by decide +kernel
theorem dX7_act_10 : decode cX7_act 10 = .ok (.ifCond .eq 93, 3) := by decide +kernel
theorem dX7_act_13 : decode cX7_act 13 = .ok (.iload_n 1, 1) := by decide +kernel
theorem dX7_act_14 : decode cX7_act 14 = .ok (.i2l, 1) := by decide +kernel
theorem dX7_act_15 : decode cX7_act 15 = .ok (.lconst 0, 1) := by decide +kernel
theorem dX7_act_16 : decode cX7_act 16 = .ok (.ldc2_w 158, 3) := by decide +kernel
theorem dX7_act_19 : decode cX7_act 19 = .ok (.invokestatic 96, 3) := by decide +kernel
theorem dX7_act_22 : decode cX7_act 22 = .ok (.ifCond .eq 81, 3) := by decide +kernel
theorem dX7_act_25 : decode cX7_act 25 = .ok (.iload_n 3, 1) := by decide +kernel
theorem dX7_act_26 : decode cX7_act 26 = .ok (.i2l, 1) := by decide +kernel
theorem dX7_act_27 : decode cX7_act 27 = .ok (.lconst 0, 1) := by decide +kernel
theorem dX7_act_28 : decode cX7_act 28 = .ok (.ldc2_w 102, 3) := by decide +kernel
theorem dX7_act_31 : decode cX7_act 31 = .ok (.invokestatic 96, 3) := by decide +kernel
theorem dX7_act_34 : decode cX7_act 34 = .ok (.ifCond .eq 69, 3) := by decide +kernel
theorem dX7_act_37 : decode cX7_act 37 = .ok (.iload_n 1, 1) := by decide +kernel
theorem dX7_act_38 : decode cX7_act 38 = .ok (.iconst 2, 1) := by decide +kernel
theorem dX7_act_39 : decode cX7_act 39 = .ok (.if_icmp .ne 16, 3) := by decide +kernel
theorem dX7_act_42 : decode cX7_act 42 = .ok (.iload 4, 2) := by decide +kernel
theorem dX7_act_44 : decode cX7_act 44 = .ok (.i2l, 1) := by decide +kernel
theorem dX7_act_45 : decode cX7_act 45 = .ok (.lconst 0, 1) := by decide +kernel
theorem dX7_act_46 : decode cX7_act 46 = .ok (.ldc2_w 182, 3) := by decide +kernel
theorem dX7_act_49 : decode cX7_act 49 = .ok (.invokestatic 96, 3) := by decide +kernel
theorem dX7_act_52 : decode cX7_act 52 = .ok (.ifCond .eq 51, 3) := by decide +kernel
theorem dX7_act_55 : decode cX7_act 55 = .ok (.iload_n 1, 1) := by decide +kernel
theorem dX7_act_56 : decode cX7_act 56 = .ok (.iconst 3, 1) := by decide +kernel
theorem dX7_act_57 : decode cX7_act 57 = .ok (.if_icmp .ne 16, 3) := by decide +kernel
theorem dX7_act_60 : decode cX7_act 60 = .ok (.iload 4, 2) := by decide +kernel
theorem dX7_act_62 : decode cX7_act 62 = .ok (.i2l, 1) := by decide +kernel
theorem dX7_act_63 : decode cX7_act 63 = .ok (.lconst 0, 1) := by decide +kernel
theorem dX7_act_64 : decode cX7_act 64 = .ok (.ldc2_w 184, 3) := by decide +kernel
theorem dX7_act_67 : decode cX7_act 67 = .ok (.invokestatic 96, 3) := by decide +kernel
theorem dX7_act_70 : decode cX7_act 70 = .ok (.ifCond .eq 33, 3) := by decide +kernel
theorem dX7_act_73 : decode cX7_act 73 = .ok (.iload_n 1, 1) := by decide +kernel
theorem dX7_act_74 : decode cX7_act 74 = .ok (.iconst 4, 1) := by decide +kernel
theorem dX7_act_75 : decode cX7_act 75 = .ok (.if_icmp .ne 16, 3) := by decide +kernel
theorem dX7_act_78 : decode cX7_act 78 = .ok (.iload 4, 2) := by decide +kernel
theorem dX7_act_80 : decode cX7_act 80 = .ok (.i2l, 1) := by decide +kernel
theorem dX7_act_81 : decode cX7_act 81 = .ok (.lconst 0, 1) := by decide +kernel
theorem dX7_act_82 : decode cX7_act 82 = .ok (.ldc2_w 186, 3) := by decide +kernel
theorem dX7_act_85 : decode cX7_act 85 = .ok (.invokestatic 96, 3) := by decide +kernel
theorem dX7_act_88 : decode cX7_act 88 = .ok (.ifCond .eq 15, 3) := by decide +kernel
theorem dX7_act_91 : decode cX7_act 91 = .ok (.iload_n 1, 1) := by decide +kernel
theorem dX7_act_92 : decode cX7_act 92 = .ok (.iconst 1, 1) := by decide +kernel
theorem dX7_act_93 : decode cX7_act 93 = .ok (.if_icmp .ne 12, 3) := by decide +kernel
theorem dX7_act_96 : decode cX7_act 96 = .ok (.iload 4, 2) := by decide +kernel
theorem dX7_act_98 : decode cX7_act 98 = .ok (.bipush 40, 2) := by decide +kernel
theorem dX7_act_100 : decode cX7_act 100 = .ok (.if_icmp .le 5, 3) := by decide +kernel
theorem dX7_act_103 : decode cX7_act 103 = .ok (.iconst (-1), 1) := by decide +kernel
theorem dX7_act_104 : decode cX7_act 104 = .ok (.ireturn, 1) := by decide +kernel
theorem dX7_act_105 : decode cX7_act 105 = .ok (.aload_n 0, 1) := by decide +kernel
theorem dX7_act_106 : decode cX7_act 106 = .ok (.iload_n 1, 1) := by decide +kernel
theorem dX7_act_107 : decode cX7_act 107 = .ok (.iload_n 2, 1) := by decide +kernel
theorem dX7_act_108 : decode cX7_act 108 = .ok (.iload 4, 2) := by decide +kernel
theorem dX7_act_110 : decode cX7_act 110 = .ok (.invokevirtual 188, 3) := by decide +kernel
theorem dX7_act_113 : decode cX7_act 113 = .ok (.istore 5, 2) := by decide +kernel
theorem dX7_act_115 : decode cX7_act 115 = .ok (.iload 5, 2) := by decide +kernel
theorem dX7_act_117 : decode cX7_act 117 = .ok (.ifCond .le 9, 3) := by decide +kernel
theorem dX7_act_120 : decode cX7_act 120 = .ok (.bipush (-10), 2) := by decide +kernel
theorem dX7_act_122 : decode cX7_act 122 = .ok (.iload 5, 2) := by decide +kernel
theorem dX7_act_124 : decode cX7_act 124 = .ok (.isub, 1) := by decide +kernel
theorem dX7_act_125 : decode cX7_act 125 = .ok (.ireturn, 1) := by decide +kernel
theorem dX7_act_126 : decode cX7_act 126 = .ok (.aload_n 0, 1) := by decide +kernel
theorem dX7_act_127 : decode cX7_act 127 = .ok (.invokevirtual 123, 3) := by decide +kernel
theorem dX7_act_130 : decode cX7_act 130 = .ok (.aload_n 0, 1) := by decide +kernel
theorem dX7_act_131 : decode cX7_act 131 = .ok (.ldc2_w 192, 3) := by decide +kernel
theorem dX7_act_134 : decode cX7_act 134 = .ok (.invokevirtual 126, 3) := by decide +kernel
theorem dX7_act_137 : decode cX7_act 137 = .ok (.aload_n 0, 1) := by decide +kernel
theorem dX7_act_138 : decode cX7_act 138 = .ok (.iload_n 2, 1) := by decide +kernel
theorem dX7_act_139 : decode cX7_act 139 = .ok (.i2l, 1) := by decide +kernel
theorem dX7_act_140 : decode cX7_act 140 = .ok (.invokevirtual 126, 3) := by decide +kernel
theorem dX7_act_143 : decode cX7_act 143 = .ok (.aload_n 0, 1) := by decide +kernel
theorem dX7_act_144 : decode cX7_act 144 = .ok (.iload_n 3, 1) := by decide +kernel
theorem dX7_act_145 : decode cX7_act 145 = .ok (.i2l, 1) := by decide +kernel
theorem dX7_act_146 : decode cX7_act 146 = .ok (.invokevirtual 126, 3) := by decide +kernel
theorem dX7_act_149 : decode cX7_act 149 = .ok (.aload_n 0, 1) := by decide +kernel
theorem dX7_act_150 : decode cX7_act 150 = .ok (.iload_n 1, 1) := by decide +kernel
theorem dX7_act_151 : decode cX7_act 151 = .ok (.i2l, 1) := by decide +kernel
theorem dX7_act_152 : decode cX7_act 152 = .ok (.invokevirtual 126, 3) := by decide +kernel
theorem dX7_act_155 : decode cX7_act 155 = .ok (.aload_n 0, 1) := by decide +kernel
theorem dX7_act_156 : decode cX7_act 156 = .ok (.aload_n 0, 1) := by decide +kernel
theorem dX7_act_157 : decode cX7_act 157 = .ok (.getfield 7, 3) := by decide +kernel
theorem dX7_act_160 : decode cX7_act 160 = .ok (.iload_n 2, 1) := by decide +kernel
theorem dX7_act_161 : decode cX7_act 161 = .ok (.iaload, 1) := by decide +kernel
theorem dX7_act_162 : decode cX7_act 162 = .ok (.putfield 60, 3) := by decide +kernel
theorem dX7_act_165 : decode cX7_act 165 = .ok (.aload_n 0, 1) := by decide +kernel
theorem dX7_act_166 : decode cX7_act 166 = .ok (.aload_n 0, 1) := by decide +kernel
theorem dX7_act_167 : decode cX7_act 167 = .ok (.getfield 19, 3) := by decide +kernel
theorem dX7_act_170 : decode cX7_act 170 = .ok (.iload_n 2, 1) := by decide +kernel
theorem dX7_act_171 : decode cX7_act 171 = .ok (.iaload, 1) := by decide +kernel
theorem dX7_act_172 : decode cX7_act 172 = .ok (.putfield 194, 3) := by decide +kernel
theorem dX7_act_175 : decode cX7_act 175 = .ok (.aload_n 0, 1) := by decide +kernel
theorem dX7_act_176 : decode cX7_act 176 = .ok (.aload_n 0, 1) := by decide +kernel
theorem dX7_act_177 : decode cX7_act 177 = .ok (.getfield 22, 3) := by decide +kernel
theorem dX7_act_180 : decode cX7_act 180 = .ok (.iload_n 2, 1) := by decide +kernel
theorem dX7_act_181 : decode cX7_act 181 = .ok (.iaload, 1) := by decide +kernel
theorem dX7_act_182 : decode cX7_act 182 = .ok (.putfield 197, 3) := by decide +kernel
theorem dX7_act_185 : decode cX7_act 185 = .ok (.aload_n 0, 1) := by decide +kernel
theorem dX7_act_186 : decode cX7_act 186 = .ok (.aload_n 0, 1) := by decide +kernel
theorem dX7_act_187 : decode cX7_act 187 = .ok (.getfield 25, 3) := by decide +kernel
theorem dX7_act_190 : decode cX7_act 190 = .ok (.iload_n 2, 1) := by decide +kernel
theorem dX7_act_191 : decode cX7_act 191 = .ok (.iaload, 1) := by decide +kernel
theorem dX7_act_192 : decode cX7_act 192 = .ok (.putfield 200, 3) := by decide +kernel
theorem dX7_act_195 : decode cX7_act 195 = .ok (.iconst 0, 1) := by decide +kernel
theorem dX7_act_196 : decode cX7_act 196 = .ok (.istore 6, 2) := by decide +kernel
theorem dX7_act_198 : decode cX7_act 198 = .ok (.iload 6, 2) := by decide +kernel
theorem dX7_act_200 : decode cX7_act 200 = .ok (.aload_n 0, 1) := by decide +kernel
theorem dX7_act_201 : decode cX7_act 201 = .ok (.getfield 194, 3) := by decide +kernel
theorem dX7_act_204 : decode cX7_act 204 = .ok (.if_icmp .ge 29, 3) := by decide +kernel
theorem dX7_act_207 : decode cX7_act 207 = .ok (.aload_n 0, 1) := by decide +kernel
theorem dX7_act_208 : decode cX7_act 208 = .ok (.getfield 63, 3) := by decide +kernel
theorem dX7_act_211 : decode cX7_act 211 = .ok (.iload 6, 2) := by decide +kernel
theorem dX7_act_213 : decode cX7_act 213 = .ok (.aload_n 0, 1) := by decide +kernel
theorem dX7_act_214 : decode cX7_act 214 = .ok (.getfield 29, 3) := by decide +kernel
theorem dX7_act_217 : decode cX7_act 217 = .ok (.sipush 1600, 3) := by decide +kernel
theorem dX7_act_220 : decode cX7_act 220 = .ok (.iload_n 2, 1) := by decide +kernel
theorem dX7_act_221 : decode cX7_act 221 = .ok (.imul, 1) := by decide +kernel
theorem dX7_act_222 : decode cX7_act 222 = .ok (.iload 6, 2) := by decide +kernel
theorem dX7_act_224 : decode cX7_act 224 = .ok (.iadd, 1) := by decide +kernel
theorem dX7_act_225 : decode cX7_act 225 = .ok (.iaload, 1) := by decide +kernel
theorem dX7_act_226 : decode cX7_act 226 = .ok (.iastore, 1) := by decide +kernel
theorem dX7_act_227 : decode cX7_act 227 = .ok (.iinc 6 1, 3) := by decide +kernel
theorem dX7_act_230 : decode cX7_act 230 = .ok (.goto (-32), 3) := by decide +kernel
theorem dX7_act_233 : decode cX7_act 233 = .ok (.iload_n 1, 1) := by decide +kernel
theorem dX7_act_234 : decode cX7_act 234 = .ok (.tableswitch 168 0 3 #[30, 62, 71, 109], 30) := by decide +kernel
theorem dX7_act_264 : decode cX7_act 264 = .ok (.aload_n 0, 1) := by decide +kernel
theorem dX7_act_265 : decode cX7_act 265 = .ok (.ldc2_w 158, 3) := by decide +kernel
theorem dX7_act_268 : decode cX7_act 268 = .ok (.invokevirtual 89, 3) := by decide +kernel
theorem dX7_act_271 : decode cX7_act 271 = .ok (.istore 6, 2) := by decide +kernel
theorem dX7_act_273 : decode cX7_act 273 = .ok (.iconst 0, 1) := by decide +kernel
theorem dX7_act_274 : decode cX7_act 274 = .ok (.istore 7, 2) := by decide +kernel
theorem dX7_act_276 : decode cX7_act 276 = .ok (.iload 7, 2) := by decide +kernel
theorem dX7_act_278 : decode cX7_act 278 = .ok (.iload 6, 2) := by decide +kernel
theorem dX7_act_280 : decode cX7_act 280 = .ok (.if_icmp .ge 13, 3) := by decide +kernel
theorem dX7_act_283 : decode cX7_act 283 = .ok (.aload_n 0, 1) := by decide +kernel
theorem dX7_act_284 : decode cX7_act 284 = .ok (.invokevirtual 203, 3) := by decide +kernel
theorem dX7_act_287 : decode cX7_act 287 = .ok (.iinc 7 1, 3) := by decide +kernel
theorem dX7_act_290 : decode cX7_act 290 = .ok (.goto (-14), 3) := by decide +kernel
theorem dX7_act_293 : decode cX7_act 293 = .ok (.goto 174, 3) := by decide +kernel
theorem dX7_act_296 : decode cX7_act 296 = .ok (.aload_n 0, 1) := by decide +kernel
theorem dX7_act_297 : decode cX7_act 297 = .ok (.iload 4, 2) := by decide +kernel
theorem dX7_act_299 : decode cX7_act 299 = .ok (.invokevirtual 206, 3) := by decide +kernel
theorem dX7_act_302 : decode cX7_act 302 = .ok (.goto 165, 3) := by decide +kernel
theorem dX7_act_305 : decode cX7_act 305 = .ok (.iconst 0, 1) := by decide +kernel
theorem dX7_act_306 : decode cX7_act 306 = .ok (.istore 6, 2) := by decide +kernel
theorem dX7_act_308 : decode cX7_act 308 = .ok (.iload 6, 2) := by decide +kernel
theorem dX7_act_310 : decode cX7_act 310 = .ok (.aload_n 0, 1) := by decide +kernel
theorem dX7_act_311 : decode cX7_act 311 = .ok (.getfield 194, 3) := by decide +kernel
theorem dX7_act_314 : decode cX7_act 314 = .ok (.if_icmp .ge 26, 3) := by decide +kernel
theorem dX7_act_317 : decode cX7_act 317 = .ok (.aload_n 0, 1) := by decide +kernel
theorem dX7_act_318 : decode cX7_act 318 = .ok (.getfield 63, 3) := by decide +kernel
theorem dX7_act_321 : decode cX7_act 321 = .ok (.iload 6, 2) := by decide +kernel
theorem dX7_act_323 : decode cX7_act 323 = .ok (.dup2, 1) := by decide +kernel
theorem dX7_act_324 : decode cX7_act 324 = .ok (.iaload, 1) := by decide +kernel
theorem dX7_act_325 : decode cX7_act 325 = .ok (.aload_n 0, 1) := by decide +kernel
theorem dX7_act_326 : decode cX7_act 326 = .ok (.iload 4, 2) := by decide +kernel
theorem dX7_act_328 : decode cX7_act 328 = .ok (.i2l, 1) := by decide +kernel
theorem dX7_act_329 : decode cX7_act 329 = .ok (.invokevirtual 89, 3) := by decide +kernel
theorem dX7_act_332 : decode cX7_act 332 = .ok (.ixor, 1) := by decide +kernel
theorem dX7_act_333 : decode cX7_act 333 = .ok (.iastore, 1) := by decide +kernel
theorem dX7_act_334 : decode cX7_act 334 = .ok (.iinc 6 1, 3) := by decide +kernel
theorem dX7_act_337 : decode cX7_act 337 = .ok (.goto (-29), 3) := by decide +kernel
theorem dX7_act_340 : decode cX7_act 340 = .ok (.goto 127, 3) := by decide +kernel
theorem dX7_act_343 : decode cX7_act 343 = .ok (.iconst 0, 1) := by decide +kernel
theorem dX7_act_344 : decode cX7_act 344 = .ok (.istore 6, 2) := by decide +kernel
theorem dX7_act_346 : decode cX7_act 346 = .ok (.iconst 0, 1) := by decide +kernel
theorem dX7_act_347 : decode cX7_act 347 = .ok (.istore 7, 2) := by decide +kernel
theorem dX7_act_349 : decode cX7_act 349 = .ok (.iload 7, 2) := by decide +kernel
theorem dX7_act_351 : decode cX7_act 351 = .ok (.aload_n 0, 1) := by decide +kernel
theorem dX7_act_352 : decode cX7_act 352 = .ok (.getfield 194, 3) := by decide +kernel
theorem dX7_act_355 : decode cX7_act 355 = .ok (.if_icmp .ge 38, 3) := by decide +kernel
theorem dX7_act_358 : decode cX7_act 358 = .ok (.aload_n 0, 1) := by decide +kernel
theorem dX7_act_359 : decode cX7_act 359 = .ok (.ldc2_w 184, 3) := by decide +kernel
theorem dX7_act_362 : decode cX7_act 362 = .ok (.invokevirtual 89, 3) := by decide +kernel
theorem dX7_act_365 : decode cX7_act 365 = .ok (.iload 4, 2) := by decide +kernel
theorem dX7_act_367 : decode cX7_act 367 = .ok (.if_icmp .lt 20, 3) := by decide +kernel
theorem dX7_act_370 : decode cX7_act 370 = .ok (.aload_n 0, 1) := by decide +kernel
theorem dX7_act_371 : decode cX7_act 371 = .ok (.getfield 63, 3) := by decide +kernel
theorem dX7_act_374 : decode cX7_act 374 = .ok (.iload 6, 2) := by decide +kernel
theorem dX7_act_376 : decode cX7_act 376 = .ok (.aload_n 0, 1) := by decide +kernel
theorem dX7_act_377 : decode cX7_act 377 = .ok (.getfield 63, 3) := by decide +kernel
theorem dX7_act_380 : decode cX7_act 380 = .ok (.iload 7, 2) := by decide +kernel
theorem dX7_act_382 : decode cX7_act 382 = .ok (.iaload, 1) := by decide +kernel
theorem dX7_act_383 : decode cX7_act 383 = .ok (.iastore, 1) := by decide +kernel
theorem dX7_act_384 : decode cX7_act 384 = .ok (.iinc 6 1, 3) := by decide +kernel
theorem dX7_act_387 : decode cX7_act 387 = .ok (.iinc 7 1, 3) := by decide +kernel
theorem dX7_act_390 : decode cX7_act 390 = .ok (.goto (-41), 3) := by decide +kernel
theorem dX7_act_393 : decode cX7_act 393 = .ok (.aload_n 0, 1) := by decide +kernel
theorem dX7_act_394 : decode cX7_act 394 = .ok (.iload 6, 2) := by decide +kernel
theorem dX7_act_396 : decode cX7_act 396 = .ok (.putfield 194, 3) := by decide +kernel
theorem dX7_act_399 : decode cX7_act 399 = .ok (.goto 68, 3) := by decide +kernel
theorem dX7_act_402 : decode cX7_act 402 = .ok (.iconst 0, 1) := by decide +kernel
theorem dX7_act_403 : decode cX7_act 403 = .ok (.istore 6, 2) := by decide +kernel
theorem dX7_act_405 : decode cX7_act 405 = .ok (.iload 6, 2) := by decide +kernel
theorem dX7_act_407 : decode cX7_act 407 = .ok (.iload 4, 2) := by decide +kernel
theorem dX7_act_409 : decode cX7_act 409 = .ok (.if_icmp .ge 58, 3) := by decide +kernel
theorem dX7_act_412 : decode cX7_act 412 = .ok (.aload_n 0, 1) := by decide +kernel
theorem dX7_act_413 : decode cX7_act 413 = .ok (.aload_n 0, 1) := by decide +kernel
theorem dX7_act_414 : decode cX7_act 414 = .ok (.getfield 194, 3) := by decide +kernel
theorem dX7_act_417 : decode cX7_act 417 = .ok (.iconst 1, 1) := by decide +kernel
theorem dX7_act_418 : decode cX7_act 418 = .ok (.isub, 1) := by decide +kernel
theorem dX7_act_419 : decode cX7_act 419 = .ok (.i2l, 1) := by decide +kernel
theorem dX7_act_420 : decode cX7_act 420 = .ok (.invokevirtual 89, 3) := by decide +kernel
theorem dX7_act_423 : decode cX7_act 423 = .ok (.istore 7, 2) := by decide +kernel
theorem dX7_act_425 : decode cX7_act 425 = .ok (.aload_n 0, 1) := by decide +kernel
theorem dX7_act_426 : decode cX7_act 426 = .ok (.getfield 63, 3) := by decide +kernel
theorem dX7_act_429 : decode cX7_act 429 = .ok (.iload 7, 2) := by decide +kernel
theorem dX7_act_431 : decode cX7_act 431 = .ok (.iaload, 1) := by decide +kernel
theorem dX7_act_432 : decode cX7_act 432 = .ok (.istore 8, 2) := by decide +kernel
theorem dX7_act_434 : decode cX7_act 434 = .ok (.aload_n 0, 1) := by decide +kernel
theorem dX7_act_435 : decode cX7_act 435 = .ok (.getfield 63, 3) := by decide +kernel
theorem dX7_act_438 : decode cX7_act 438 = .ok (.iload 7, 2) := by decide +kernel
theorem dX7_act_440 : decode cX7_act 440 = .ok (.aload_n 0, 1) := by decide +kernel
theorem dX7_act_441 : decode cX7_act 441 = .ok (.getfield 63, 3) := by decide +kernel
theorem dX7_act_444 : decode cX7_act 444 = .ok (.iload 7, 2) := by decide +kernel
theorem dX7_act_446 : decode cX7_act 446 = .ok (.iconst 1, 1) := by decide +kernel
theorem dX7_act_447 : decode cX7_act 447 = .ok (.iadd, 1) := by decide +kernel
theorem dX7_act_448 : decode cX7_act 448 = .ok (.iaload, 1) := by decide +kernel
theorem dX7_act_449 : decode cX7_act 449 = .ok (.iastore, 1) := by decide +kernel
theorem dX7_act_450 : decode cX7_act 450 = .ok (.aload_n 0, 1) := by decide +kernel
theorem dX7_act_451 : decode cX7_act 451 = .ok (.getfield 63, 3) := by decide +kernel
theorem dX7_act_454 : decode cX7_act 454 = .ok (.iload 7, 2) := by decide +kernel
theorem dX7_act_456 : decode cX7_act 456 = .ok (.iconst 1, 1) := by decide +kernel
theorem dX7_act_457 : decode cX7_act 457 = .ok (.iadd, 1) := by decide +kernel
theorem dX7_act_458 : decode cX7_act 458 = .ok (.iload 8, 2) := by decide +kernel
theorem dX7_act_460 : decode cX7_act 460 = .ok (.iastore, 1) := by decide +kernel
theorem dX7_act_461 : decode cX7_act 461 = .ok (.iinc 6 1, 3) := by decide +kernel
theorem dX7_act_464 : decode cX7_act 464 = .ok (.goto (-59), 3) := by decide +kernel
theorem dX7_act_467 : decode cX7_act 467 = .ok (.aload_n 0, 1) := by decide +kernel
theorem dX7_act_468 : decode cX7_act 468 = .ok (.getfield 194, 3) := by decide +kernel
theorem dX7_act_471 : decode cX7_act 471 = .ok (.ireturn, 1) := by decide +kernel
theorem dX7_turn_0 : decode cX7_turn 0 = .ok (.iconst 0, 1) := by decide +kernel
theorem dX7_turn_1 : decode cX7_turn 1 = .ok (.istore_n 1, 1) := by decide +kernel
theorem dX7_turn_2 : decode cX7_turn 2 = .ok (.iload_n 1, 1) := by decide +kernel
theorem dX7_turn_3 : decode cX7_turn 3 = .ok (.aload_n 0, 1) := by decide +kernel
theorem dX7_turn_4 : decode cX7_turn 4 = .ok (.getfield 194, 3) := by decide +kernel
theorem dX7_turn_7 : decode cX7_turn 7 = .ok (.if_icmp .ge 21, 3) := by decide +kernel
theorem dX7_turn_10 : decode cX7_turn 10 = .ok (.aload_n 0, 1) := by decide +kernel
theorem dX7_turn_11 : decode cX7_turn 11 = .ok (.getfield 66, 3) := by decide +kernel
theorem dX7_turn_14 : decode cX7_turn 14 = .ok (.iload_n 1, 1) := by decide +kernel
theorem dX7_turn_15 : decode cX7_turn 15 = .ok (.aload_n 0, 1) := by decide +kernel
theorem dX7_turn_16 : decode cX7_turn 16 = .ok (.getfield 63, 3) := by decide +kernel
theorem dX7_turn_19 : decode cX7_turn 19 = .ok (.iload_n 1, 1) := by decide +kernel
theorem dX7_turn_20 : decode cX7_turn 20 = .ok (.iaload, 1) := by decide +kernel
theorem dX7_turn_21 : decode cX7_turn 21 = .ok (.iastore, 1) := by decide +kernel
theorem dX7_turn_22 : decode cX7_turn 22 = .ok (.iinc 1 1, 3) := by decide +kernel
theorem dX7_turn_25 : decode cX7_turn 25 = .ok (.goto (-23), 3) := by decide +kernel
theorem dX7_turn_28 : decode cX7_turn 28 = .ok (.iconst 0, 1) := by decide +kernel
theorem dX7_turn_29 : decode cX7_turn 29 = .ok (.istore_n 1, 1) := by decide +kernel
theorem dX7_turn_30 : decode cX7_turn 30 = .ok (.iload_n 1, 1) := by decide +kernel
theorem dX7_turn_31 : decode cX7_turn 31 = .ok (.aload_n 0, 1) := by decide +kernel
theorem dX7_turn_32 : decode cX7_turn 32 = .ok (.getfield 200, 3) := by decide +kernel
theorem dX7_turn_35 : decode cX7_turn 35 = .ok (.if_icmp .ge 58, 3) := by decide +kernel
theorem dX7_turn_38 : decode cX7_turn 38 = .ok (.iconst 0, 1) := by decide +kernel
theorem dX7_turn_39 : decode cX7_turn 39 = .ok (.istore_n 2, 1) := by decide +kernel
theorem dX7_turn_40 : decode cX7_turn 40 = .ok (.iload_n 2, 1) := by decide +kernel
theorem dX7_turn_41 : decode cX7_turn 41 = .ok (.aload_n 0, 1) := by decide +kernel
theorem dX7_turn_42 : decode cX7_turn 42 = .ok (.getfield 197, 3) := by decide +kernel
theorem dX7_turn_45 : decode cX7_turn 45 = .ok (.if_icmp .ge 42, 3) := by decide +kernel
theorem dX7_turn_48 : decode cX7_turn 48 = .ok (.aload_n 0, 1) := by decide +kernel
theorem dX7_turn_49 : decode cX7_turn 49 = .ok (.getfield 63, 3) := by decide +kernel
theorem dX7_turn_52 : decode cX7_turn 52 = .ok (.iload_n 1, 1) := by decide +kernel
theorem dX7_turn_53 : decode cX7_turn 53 = .ok (.aload_n 0, 1) := by decide +kernel
theorem dX7_turn_54 : decode cX7_turn 54 = .ok (.getfield 197, 3) := by decide +kernel
theorem dX7_turn_57 : decode cX7_turn 57 = .ok (.imul, 1) := by decide +kernel
theorem dX7_turn_58 : decode cX7_turn 58 = .ok (.iload_n 2, 1) := by decide +kernel
theorem dX7_turn_59 : decode cX7_turn 59 = .ok (.iadd, 1) := by decide +kernel
theorem dX7_turn_60 : decode cX7_turn 60 = .ok (.aload_n 0, 1) := by decide +kernel
theorem dX7_turn_61 : decode cX7_turn 61 = .ok (.getfield 66, 3) := by decide +kernel
theorem dX7_turn_64 : decode cX7_turn 64 = .ok (.aload_n 0, 1) := by decide +kernel
theorem dX7_turn_65 : decode cX7_turn 65 = .ok (.getfield 197, 3) := by decide +kernel
theorem dX7_turn_68 : decode cX7_turn 68 = .ok (.iconst 1, 1) := by decide +kernel
theorem dX7_turn_69 : decode cX7_turn 69 = .ok (.isub, 1) := by decide +kernel
theorem dX7_turn_70 : decode cX7_turn 70 = .ok (.iload_n 2, 1) := by decide +kernel
theorem dX7_turn_71 : decode cX7_turn 71 = .ok (.isub, 1) := by decide +kernel
theorem dX7_turn_72 : decode cX7_turn 72 = .ok (.aload_n 0, 1) := by decide +kernel
theorem dX7_turn_73 : decode cX7_turn 73 = .ok (.getfield 200, 3) := by decide +kernel
theorem dX7_turn_76 : decode cX7_turn 76 = .ok (.imul, 1) := by decide +kernel
theorem dX7_turn_77 : decode cX7_turn 77 = .ok (.iload_n 1, 1) := by decide +kernel
theorem dX7_turn_78 : decode cX7_turn 78 = .ok (.iadd, 1) := by decide +kernel
theorem dX7_turn_79 : decode cX7_turn 79 = .ok (.iaload, 1) := by decide +kernel
theorem dX7_turn_80 : decode cX7_turn 80 = .ok (.iastore, 1) := by decide +kernel
theorem dX7_turn_81 : decode cX7_turn 81 = .ok (.iinc 2 1, 3) := by decide +kernel
theorem dX7_turn_84 : decode cX7_turn 84 = .ok (.goto (-44), 3) := by decide +kernel
theorem dX7_turn_87 : decode cX7_turn 87 = .ok (.iinc 1 1, 3) := by decide +kernel
theorem dX7_turn_90 : decode cX7_turn 90 = .ok (.goto (-60), 3) := by decide +kernel
theorem dX7_turn_93 : decode cX7_turn 93 = .ok (.aload_n 0, 1) := by decide +kernel
theorem dX7_turn_94 : decode cX7_turn 94 = .ok (.getfield 197, 3) := by decide +kernel
theorem dX7_turn_97 : decode cX7_turn 97 = .ok (.istore_n 1, 1) := by decide +kernel
theorem dX7_turn_98 : decode cX7_turn 98 = .ok (.aload_n 0, 1) := by decide +kernel
theorem dX7_turn_99 : decode cX7_turn 99 = .ok (.aload_n 0, 1) := by decide +kernel
theorem dX7_turn_100 : decode cX7_turn 100 = .ok (.getfield 200, 3) := by decide +kernel
theorem dX7_turn_103 : decode cX7_turn 103 = .ok (.putfield 197, 3) := by decide +kernel
theorem dX7_turn_106 : decode cX7_turn 106 = .ok (.aload_n 0, 1) := by decide +kernel
theorem dX7_turn_107 : decode cX7_turn 107 = .ok (.iload_n 1, 1) := by decide +kernel
theorem dX7_turn_108 : decode cX7_turn 108 = .ok (.putfield 200, 3) := by decide +kernel
theorem dX7_turn_111 : decode cX7_turn 111 = .ok (.return_, 1) := by decide +kernel
set_option maxRecDepth 20000 in
theorem ggX7_crop_X7_draw : GoodIn wsX7_crop wsX7_draw := goodIn_r _ [9, 10, 11, 12, 13, 8, 14, 15, 16, 17, 18, 19, 20, 21, 22, 23, 24, 25, 26, 27, 28, 29, 30, 31, 32, 33, 34, 35, 36, 37, 38, 39, 40, 41, 42, 43, 44, 45, 46] (by decide +kernel) (by decide +kernel)
set_option maxRecDepth 20000 in
theorem gX7_crop_X7_draw : GoodIn wsX7_crop (wsV RX7 89 RX7 yX7_draw wsX7_draw) := goodIn_app (goodIn_of _ (by decide +kernel)) ggX7_crop_X7_draw
theorem dX7_crop_0 : decode cX7_crop 0 = .ok (.aload_n 0, 1) := by decide +kernel
theorem dX7_crop_1 : decode cX7_crop 1 = .ok (.aload_n 0, 1) := by decide +kernel
theorem dX7_crop_2 : decode cX7_crop 2 = .ok (.getfield 197, 3) := by decide +kernel
theorem dX7_crop_5 : decode cX7_crop 5 = .ok (.iload_n 1, 1) := by decide +kernel
theorem dX7_crop_6 : decode cX7_crop 6 = .ok (.isub, 1) := by decide +kernel
theorem dX7_crop_7 : decode cX7_crop 7 = .ok (.iconst 1, 1) := by decide +kernel
theorem dX7_crop_8 : decode cX7_crop 8 = .ok (.iadd, 1) := by decide +kernel
theorem dX7_crop_9 : decode cX7_crop 9 = .ok (.i2l, 1) := by decide +kernel
theorem dX7_crop_10 : decode cX7_crop 10 = .ok (.invokevirtual 89, 3) := by decide +kernel
theorem dX7_crop_13 : decode cX7_crop 13 = .ok (.istore_n 2, 1) := by decide +kernel
theorem dX7_crop_14 : decode cX7_crop 14 = .ok (.aload_n 0, 1) := by decide +kernel
theorem dX7_crop_15 : decode cX7_crop 15 = .ok (.aload_n 0, 1) := by decide +kernel
theorem dX7_crop_16 : decode cX7_crop 16 = .ok (.getfield 200, 3) := by decide +kernel
theorem dX7_crop_19 : decode cX7_crop 19 = .ok (.iload_n 1, 1) := by decide +kernel
theorem dX7_crop_20 : decode cX7_crop 20 = .ok (.isub, 1) := by decide +kernel
theorem dX7_crop_21 : decode cX7_crop 21 = .ok (.iconst 1, 1) := by decide +kernel
theorem dX7_crop_22 : decode cX7_crop 22 = .ok (.iadd, 1) := by decide +kernel
theorem dX7_crop_23 : decode cX7_crop 23 = .ok (.i2l, 1) := by decide +kernel
theorem dX7_crop_24 : decode cX7_crop 24 = .ok (.invokevirtual 89, 3) := by decide +kernel
theorem dX7_crop_27 : decode cX7_crop 27 = .ok (.istore_n 3, 1) := by decide +kernel
theorem dX7_crop_28 : decode cX7_crop 28 = .ok (.iconst 0, 1) := by decide +kernel
theorem dX7_crop_29 : decode cX7_crop 29 = .ok (.istore 4, 2) := by decide +kernel
theorem dX7_crop_31 : decode cX7_crop 31 = .ok (.iload 4, 2) := by decide +kernel
theorem dX7_crop_33 : decode cX7_crop 33 = .ok (.iload_n 1, 1) := by decide +kernel
theorem dX7_crop_34 : decode cX7_crop 34 = .ok (.if_icmp .ge 55, 3) := by decide +kernel
theorem dX7_crop_37 : decode cX7_crop 37 = .ok (.iconst 0, 1) := by decide +kernel
theorem dX7_crop_38 : decode cX7_crop 38 = .ok (.istore 5, 2) := by decide +kernel
theorem dX7_crop_40 : decode cX7_crop 40 = .ok (.iload 5, 2) := by decide +kernel
theorem dX7_crop_42 : decode cX7_crop 42 = .ok (.iload_n 1, 1) := by decide +kernel
theorem dX7_crop_43 : decode cX7_crop 43 = .ok (.if_icmp .ge 40, 3) := by decide +kernel
theorem dX7_crop_46 : decode cX7_crop 46 = .ok (.aload_n 0, 1) := by decide +kernel
theorem dX7_crop_47 : decode cX7_crop 47 = .ok (.getfield 63, 3) := by decide +kernel
theorem dX7_crop_50 : decode cX7_crop 50 = .ok (.iload 4, 2) := by decide +kernel
theorem dX7_crop_52 : decode cX7_crop 52 = .ok (.iload_n 1, 1) := by decide +kernel
theorem dX7_crop_53 : decode cX7_crop 53 = .ok (.imul, 1) := by decide +kernel
theorem dX7_crop_54 : decode cX7_crop 54 = .ok (.iload 5, 2) := by decide +kernel
theorem dX7_crop_56 : decode cX7_crop 56 = .ok (.iadd, 1) := by decide +kernel
theorem dX7_crop_57 : decode cX7_crop 57 = .ok (.aload_n 0, 1) := by decide +kernel
theorem dX7_crop_58 : decode cX7_crop 58 = .ok (.getfield 63, 3) := by decide +kernel
theorem dX7_crop_61 : decode cX7_crop 61 = .ok (.iload_n 2, 1) := by decide +kernel
theorem dX7_crop_62 : decode cX7_crop 62 = .ok (.iload 4, 2) := by decide +kernel
theorem dX7_crop_64 : decode cX7_crop 64 = .ok (.iadd, 1) := by decide +kernel
theorem dX7_crop_65 : decode cX7_crop 65 = .ok (.aload_n 0, 1) := by decide +kernel
theorem dX7_crop_66 : decode cX7_crop 66 = .ok (.getfield 200, 3) := by decide +kernel
theorem dX7_crop_69 : decode cX7_crop 69 = .ok (.imul, 1) := by decide +kernel
theorem dX7_crop_70 : decode cX7_crop 70 = .ok (.iload_n 3, 1) := by decide +kernel
theorem dX7_crop_71 : decode cX7_crop 71 = .ok (.iadd, 1) := by decide +kernel
theorem dX7_crop_72 : decode cX7_crop 72 = .ok (.iload 5, 2) := by decide +kernel
theorem dX7_crop_74 : decode cX7_crop 74 = .ok (.iadd, 1) := by decide +kernel
theorem dX7_crop_75 : decode cX7_crop 75 = .ok (.iaload, 1) := by decide +kernel
theorem dX7_crop_76 : decode cX7_crop 76 = .ok (.iastore, 1) := by decide +kernel
theorem dX7_crop_77 : decode cX7_crop 77 = .ok (.iinc 5 1, 3) := by decide +kernel
theorem dX7_crop_80 : decode cX7_crop 80 = .ok (.goto (-40), 3) := by decide +kernel
theorem dX7_crop_83 : decode cX7_crop 83 = .ok (.iinc 4 1, 3) := by decide +kernel
theorem dX7_crop_86 : decode cX7_crop 86 = .ok (.goto (-55), 3) := by decide +kernel
theorem dX7_crop_89 : decode cX7_crop 89 = .ok (.aload_n 0, 1) := by decide +kernel
theorem dX7_crop_90 : decode cX7_crop 90 = .ok (.iload_n 1, 1) := by decide +kernel
theorem dX7_crop_91 : decode cX7_crop 91 = .ok (.putfield 197, 3) := by decide +kernel
theorem dX7_crop_94 : decode cX7_crop 94 = .ok (.aload_n 0, 1) := by decide +kernel
theorem dX7_crop_95 : decode cX7_crop 95 = .ok (.iload_n 1, 1) := by decide +kernel
theorem dX7_crop_96 : decode cX7_crop 96 = .ok (.putfield 200, 3) := by decide +kernel
theorem dX7_crop_99 : decode cX7_crop 99 = .ok (.aload_n 0, 1) := by decide +kernel
theorem dX7_crop_100 : decode cX7_crop 100 = .ok (.iload_n 1, 1) := by decide +kernel
theorem dX7_crop_101 : decode cX7_crop 101 = .ok (.iload_n 1, 1) := by decide +kernel
theorem dX7_crop_102 : decode cX7_crop 102 = .ok (.imul, 1) := by decide +kernel
theorem dX7_crop_103 : decode cX7_crop 103 = .ok (.putfield 194, 3) := by decide +kernel
theorem dX7_crop_106 : decode cX7_crop 106 = .ok (.return_, 1) := by decide +kernel
set_option maxRecDepth 20000 in
theorem ggX7_out_X7_in : GoodIn wsX7_out wsX7_in := goodIn_r _ [10] (by decide +kernel) (by decide +kernel)
set_option maxRecDepth 20000 in
theorem gX7_out_X7_in : GoodIn wsX7_out (va_wsS RX7 96 yX7_in wsX7_in) := goodIn_app (goodIn_of _ (by decide +kernel)) ggX7_out_X7_in
theorem dX7_out_0 : decode cX7_out 0 = .ok (.aload_n 0, 1) := by decide +kernel
theorem dX7_out_1 : decode cX7_out 1 = .ok (.iconst 0, 1) := by decide +kernel
theorem dX7_out_2 : decode cX7_out 2 = .ok (.putfield 69, 3) := by decide +kernel
theorem dX7_out_5 : decode cX7_out 5 = .ok (.aload_n 0, 1) := by decide +kernel
theorem dX7_out_6 : decode cX7_out 6 = .ok (.getfield 60, 3) := by decide +kernel
theorem dX7_out_9 : decode cX7_out 9 = .ok (.iconst 2, 1) := by decide +kernel
theorem dX7_out_10 : decode cX7_out 10 = .ok (.if_icmp .ne 6, 3) := by decide +kernel
theorem dX7_out_13 : decode cX7_out 13 = .ok (.bipush (-11), 2) := by decide +kernel
theorem dX7_out_15 : decode cX7_out 15 = .ok (.ireturn, 1) := by decide +kernel
theorem dX7_out_16 : decode cX7_out 16 = .ok (.iload_n 1, 1) := by decide +kernel
theorem dX7_out_17 : decode cX7_out 17 = .ok (.tableswitch 42 (-3) (-1) #[37, 32, 27], 27) := by decide +kernel
theorem dX7_out_44 : decode cX7_out 44 = .ok (.aload_n 0, 1) := by decide +kernel
theorem dX7_out_45 : decode cX7_out 45 = .ok (.getfield 194, 3) := by decide +kernel
theorem dX7_out_48 : decode cX7_out 48 = .ok (.ireturn, 1) := by decide +kernel
theorem dX7_out_49 : decode cX7_out 49 = .ok (.aload_n 0, 1) := by decide +kernel
theorem dX7_out_50 : decode cX7_out 50 = .ok (.getfield 197, 3) := by decide +kernel
theorem dX7_out_53 : decode cX7_out 53 = .ok (.ireturn, 1) := by decide +kernel
theorem dX7_out_54 : decode cX7_out 54 = .ok (.aload_n 0, 1) := by decide +kernel
theorem dX7_out_55 : decode cX7_out 55 = .ok (.getfield 200, 3) := by decide +kernel
theorem dX7_out_58 : decode cX7_out 58 = .ok (.ireturn, 1) := by decide +kernel
theorem dX7_out_59 : decode cX7_out 59 = .ok (.iload_n 1, 1) := by decide +kernel
theorem dX7_out_60 : decode cX7_out 60 = .ok (.i2l, 1) := by decide +kernel
theorem dX7_out_61 : decode cX7_out 61 = .ok (.lconst 0, 1) := by decide +kernel
theorem dX7_out_62 : decode cX7_out 62 = .ok (.aload_n 0, 1) := by decide +kernel
theorem dX7_out_63 : decode cX7_out 63 = .ok (.getfield 194, 3) := by decide +kernel
theorem dX7_out_66 : decode cX7_out 66 = .ok (.iconst 1, 1) := by decide +kernel
theorem dX7_out_67 : decode cX7_out 67 = .ok (.isub, 1) := by decide +kernel
theorem dX7_out_68 : decode cX7_out 68 = .ok (.i2l, 1) := by decide +kernel
theorem dX7_out_69 : decode cX7_out 69 = .ok (.invokestatic 96, 3) := by decide +kernel
theorem dX7_out_72 : decode cX7_out 72 = .ok (.ifCond .eq 12, 3) := by decide +kernel
theorem dX7_out_75 : decode cX7_out 75 = .ok (.aload_n 0, 1) := by decide +kernel
theorem dX7_out_76 : decode cX7_out 76 = .ok (.getfield 63, 3) := by decide +kernel
theorem dX7_out_79 : decode cX7_out 79 = .ok (.iload_n 1, 1) := by decide +kernel
theorem dX7_out_80 : decode cX7_out 80 = .ok (.iaload, 1) := by decide +kernel
theorem dX7_out_81 : decode cX7_out 81 = .ok (.goto 5, 3) := by decide +kernel
theorem dX7_out_84 : decode cX7_out 84 = .ok (.bipush (-13), 2) := by decide +kernel
theorem dX7_out_86 : decode cX7_out 86 = .ok (.ireturn, 1) := by decide +kernel
set_option maxRecDepth 20000 in
theorem ggX7_like_X7_isRow : GoodIn wsX7_like wsX7_isRow := goodIn_r _ [16, 17, 18, 19, 15, 20, 21, 22, 23, 24, 25, 26, 27, 28, 29, 30, 31, 32, 33, 34, 35, 36, 37, 38, 39, 40, 41, 42, 43, 44, 45, 46, 47, 48, 49, 50] (by decide +kernel) (by decide +kernel)
set_option maxRecDepth 20000 in
theorem gX7_like_X7_isRow : GoodIn wsX7_like (wsV RX7 110 RX7 yX7_isRow wsX7_isRow) := goodIn_app (goodIn_of _ (by decide +kernel)) ggX7_like_X7_isRow
theorem dX7_like_0 : decode cX7_like 0 = .ok (.aload_n 0, 1) := by decide +kernel
theorem dX7_like_1 : decode cX7_like 1 = .ok (.iconst 0, 1) := by decide +kernel
theorem dX7_like_2 : decode cX7_like 2 = .ok (.putfield 69, 3) := by decide +kernel
theorem dX7_like_5 : decode cX7_like 5 = .ok (.aload_n 0, 1) := by decide +kernel
theorem dX7_like_6 : decode cX7_like 6 = .ok (.iload_n 1, 1) := by decide +kernel
theorem dX7_like_7 : decode cX7_like 7 = .ok (.invokevirtual 110, 3) := by decide +kernel
theorem dX7_like_10 : decode cX7_like 10 = .ok (.ifCond .ne 5, 3) := by decide +kernel
theorem dX7_like_13 : decode cX7_like 13 = .ok (.iconst (-1), 1) := by decide +kernel
theorem dX7_like_14 : decode cX7_like 14 = .ok (.ireturn, 1) := by decide +kernel
theorem dX7_like_15 : decode cX7_like 15 = .ok (.aload_n 0, 1) := by decide +kernel
theorem dX7_like_16 : decode cX7_like 16 = .ok (.getfield 60, 3) := by decide +kernel
theorem dX7_like_19 : decode cX7_like 19 = .ok (.aload_n 0, 1) := by decide +kernel
theorem dX7_like_20 : decode cX7_like 20 = .ok (.getfield 7, 3) := by decide +kernel
theorem dX7_like_23 : decode cX7_like 23 = .ok (.iload_n 1, 1) := by decide +kernel
theorem dX7_like_24 : decode cX7_like 24 = .ok (.iaload, 1) := by decide +kernel
theorem dX7_like_25 : decode cX7_like 25 = .ok (.if_icmp .ne 50, 3) := by decide +kernel
theorem dX7_like_28 : decode cX7_like 28 = .ok (.aload_n 0, 1) := by decide +kernel
theorem dX7_like_29 : decode cX7_like 29 = .ok (.getfield 60, 3) := by decide +kernel
theorem dX7_like_32 : decode cX7_like 32 = .ok (.iconst 2, 1) := by decide +kernel
theorem dX7_like_33 : decode cX7_like 33 = .ok (.if_icmp .eq 44, 3) := by decide +kernel
theorem dX7_like_36 : decode cX7_like 36 = .ok (.aload_n 0, 1) := by decide +kernel
theorem dX7_like_37 : decode cX7_like 37 = .ok (.getfield 194, 3) := by decide +kernel
theorem dX7_like_40 : decode cX7_like 40 = .ok (.aload_n 0, 1) := by decide +kernel
theorem dX7_like_41 : decode cX7_like 41 = .ok (.getfield 19, 3) := by decide +kernel
theorem dX7_like_44 : decode cX7_like 44 = .ok (.iload_n 1, 1) := by decide +kernel
theorem dX7_like_45 : decode cX7_like 45 = .ok (.iaload, 1) := by decide +kernel
theorem dX7_like_46 : decode cX7_like 46 = .ok (.if_icmp .ne 29, 3) := by decide +kernel
theorem dX7_like_49 : decode cX7_like 49 = .ok (.aload_n 0, 1) := by decide +kernel
theorem dX7_like_50 : decode cX7_like 50 = .ok (.getfield 197, 3) := by decide +kernel
theorem dX7_like_53 : decode cX7_like 53 = .ok (.aload_n 0, 1) := by decide +kernel
theorem dX7_like_54 : decode cX7_like 54 = .ok (.getfield 22, 3) := by decide +kernel
theorem dX7_like_57 : decode cX7_like 57 = .ok (.iload_n 1, 1) := by decide +kernel
theorem dX7_like_58 : decode cX7_like 58 = .ok (.iaload, 1) := by decide +kernel
theorem dX7_like_59 : decode cX7_like 59 = .ok (.if_icmp .ne 16, 3) := by decide +kernel
theorem dX7_like_62 : decode cX7_like 62 = .ok (.aload_n 0, 1) := by decide +kernel
theorem dX7_like_63 : decode cX7_like 63 = .ok (.getfield 200, 3) := by decide +kernel
theorem dX7_like_66 : decode cX7_like 66 = .ok (.aload_n 0, 1) := by decide +kernel
theorem dX7_like_67 : decode cX7_like 67 = .ok (.getfield 25, 3) := by decide +kernel
theorem dX7_like_70 : decode cX7_like 70 = .ok (.iload_n 1, 1) := by decide +kernel
theorem dX7_like_71 : decode cX7_like 71 = .ok (.iaload, 1) := by decide +kernel
theorem dX7_like_72 : decode cX7_like 72 = .ok (.if_icmp .eq 5, 3) := by decide +kernel
theorem dX7_like_75 : decode cX7_like 75 = .ok (.iconst 0, 1) := by decide +kernel
theorem dX7_like_76 : decode cX7_like 76 = .ok (.ireturn, 1) := by decide +kernel
theorem dX7_like_77 : decode cX7_like 77 = .ok (.iconst 0, 1) := by decide +kernel
theorem dX7_like_78 : decode cX7_like 78 = .ok (.istore_n 2, 1) := by decide +kernel
theorem dX7_like_79 : decode cX7_like 79 = .ok (.iload_n 2, 1) := by decide +kernel
theorem dX7_like_80 : decode cX7_like 80 = .ok (.aload_n 0, 1) := by decide +kernel
theorem dX7_like_81 : decode cX7_like 81 = .ok (.getfield 19, 3) := by decide +kernel
theorem dX7_like_84 : decode cX7_like 84 = .ok (.iload_n 1, 1) := by decide +kernel
theorem dX7_like_85 : decode cX7_like 85 = .ok (.iaload, 1) := by decide +kernel
theorem dX7_like_86 : decode cX7_like 86 = .ok (.if_icmp .ge 32, 3) := by decide +kernel
theorem dX7_like_89 : decode cX7_like 89 = .ok (.aload_n 0, 1) := by decide +kernel
theorem dX7_like_90 : decode cX7_like 90 = .ok (.getfield 63, 3) := by decide +kernel
theorem dX7_like_93 : decode cX7_like 93 = .ok (.iload_n 2, 1) := by decide +kernel
theorem dX7_like_94 : decode cX7_like 94 = .ok (.iaload, 1) := by decide +kernel
theorem dX7_like_95 : decode cX7_like 95 = .ok (.aload_n 0, 1) := by decide +kernel
theorem dX7_like_96 : decode cX7_like 96 = .ok (.getfield 29, 3) := by decide +kernel
theorem dX7_like_99 : decode cX7_like 99 = .ok (.sipush 1600, 3) := by decide +kernel
theorem dX7_like_102 : decode cX7_like 102 = .ok (.iload_n 1, 1) := by decide +kernel
theorem dX7_like_103 : decode cX7_like 103 = .ok (.imul, 1) := by decide +kernel
theorem dX7_like_104 : decode cX7_like 104 = .ok (.iload_n 2, 1) := by decide +kernel
theorem dX7_like_105 : decode cX7_like 105 = .ok (.iadd, 1) := by decide +kernel
theorem dX7_like_106 : decode cX7_like 106 = .ok (.iaload, 1) := by decide +kernel
theorem dX7_like_107 : decode cX7_like 107 = .ok (.if_icmp .eq 5, 3) := by decide +kernel
theorem dX7_like_110 : decode cX7_like 110 = .ok (.iconst 0, 1) := by decide +kernel
theorem dX7_like_111 : decode cX7_like 111 = .ok (.ireturn, 1) := by decide +kernel
theorem dX7_like_112 : decode cX7_like 112 = .ok (.iinc 2 1, 3) := by decide +kernel
theorem dX7_like_115 : decode cX7_like 115 = .ok (.goto (-36), 3) := by decide +kernel
theorem dX7_like_118 : decode cX7_like 118 = .ok (.iconst 1, 1) := by decide +kernel
theorem dX7_like_119 : decode cX7_like 119 = .ok (.ireturn, 1) := by decide +kernel
theorem dJ9_max_7cf53_0 : decode cJ9_max_7cf53 0 = .ok (.iload_n 0, 1) := by decide +kernel
theorem dJ9_max_7cf53_1 : decode cJ9_max_7cf53 1 = .ok (.iload_n 1, 1) := by decide +kernel
theorem dJ9_max_7cf53_2 : decode cJ9_max_7cf53 2 = .ok (.if_icmp .lt 7, 3) := by decide +kernel
theorem dJ9_max_7cf53_5 : decode cJ9_max_7cf53 5 = .ok (.iload_n 0, 1) := by decide +kernel
theorem dJ9_max_7cf53_6 : decode cJ9_max_7cf53 6 = .ok (.goto 4, 3) := by decide +kernel
theorem dJ9_max_7cf53_9 : decode cJ9_max_7cf53 9 = .ok (.iload_n 1, 1) := by decide +kernel
theorem dJ9_max_7cf53_10 : decode cJ9_max_7cf53 10 = .ok (.ireturn, 1) := by decide +kernel
theorem dJ9_min_7cf53_0 : decode cJ9_min_7cf53 0 = .ok (.iload_n 0, 1) := by decide +kernel
theorem dJ9_min_7cf53_1 : decode cJ9_min_7cf53 1 = .ok (.iload_n 1, 1) := by decide +kernel
theorem dJ9_min_7cf53_2 : decode cJ9_min_7cf53 2 = .ok (.if_icmp .gt 7, 3) := by decide +kernel
theorem dJ9_min_7cf53_5 : decode cJ9_min_7cf53 5 = .ok (.iload_n 0, 1) := by decide +kernel
theorem dJ9_min_7cf53_6 : decode cJ9_min_7cf53 6 = .ok (.goto 4, 3) := by decide +kernel
theorem dJ9_min_7cf53_9 : decode cJ9_min_7cf53 9 = .ok (.iload_n 1, 1) := by decide +kernel
theorem dJ9_min_7cf53_10 : decode cJ9_min_7cf53 10 = .ok (.ireturn, 1) := by decide +kernel
abbrev vwCl : List vw_C := [(RX1, TX1, 5), (RX2, TX2, 1), (RX3, TX3, 10), (RX4, TX4, 4), (RX5, TX5, 5), (RX6, TX6, 8), (RX7, TX7, 30)]
