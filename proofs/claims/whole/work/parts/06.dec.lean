theorem dX7_failure_0 : decode cX7_failure 0 = .ok (.aload_n 0, 1) := by decide +kernel
theorem dX7_failure_1 : decode cX7_failure 1 = .ok (.getfield 7, 3) := by decide +kernel
theorem dX7_failure_4 : decode cX7_failure 4 = .ok (.iload_n 2, 1) := by decide +kernel
theorem dX7_failure_5 : decode cX7_failure 5 = .ok (.iaload, 1) := by decide +kernel
theorem dX7_failure_6 : decode cX7_failure 6 = .ok (.iconst 2, 1) := by decide +kernel
theorem dX7_failure_7 : decode cX7_failure 7 = .ok (.if_icmp .ne 5, 3) := by decide +kernel
theorem dX7_failure_10 : decode cX7_failure 10 = .ok (.iconst 1, 1) := by decide +kernel
theorem dX7_failure_11 : decode cX7_failure 11 = .ok (.ireturn, 1) := by decide +kernel
theorem dX7_failure_12 : decode cX7_failure 12 = .ok (.aload_n 0, 1) := by decide +kernel
theorem dX7_failure_13 : decode cX7_failure 13 = .ok (.getfield 7, 3) := by decide +kernel
theorem dX7_failure_16 : decode cX7_failure 16 = .ok (.iload_n 2, 1) := by decide +kernel
theorem dX7_failure_17 : decode cX7_failure 17 = .ok (.iaload, 1) := by decide +kernel
theorem dX7_failure_18 : decode cX7_failure 18 = .ok (.ifCond .ne 7, 3) := by decide +kernel
theorem dX7_failure_21 : decode cX7_failure 21 = .ok (.iconst 1, 1) := by decide +kernel
theorem dX7_failure_22 : decode cX7_failure 22 = .ok (.goto 4, 3) := by decide +kernel
theorem dX7_failure_25 : decode cX7_failure 25 = .ok (.iconst 0, 1) := by decide +kernel
theorem dX7_failure_26 : decode cX7_failure 26 = .ok (.iload_n 1, 1) := by decide +kernel
theorem dX7_failure_27 : decode cX7_failure 27 = .ok (.iconst 2, 1) := by decide +kernel
theorem dX7_failure_28 : decode cX7_failure 28 = .ok (.if_icmp .le 7, 3) := by decide +kernel
theorem dX7_failure_31 : decode cX7_failure 31 = .ok (.iconst 1, 1) := by decide +kernel
theorem dX7_failure_32 : decode cX7_failure 32 = .ok (.goto 4, 3) := by decide +kernel
theorem dX7_failure_35 : decode cX7_failure 35 = .ok (.iconst 0, 1) := by decide +kernel
theorem dX7_failure_36 : decode cX7_failure 36 = .ok (.if_icmp .eq 5, 3) := by decide +kernel
theorem dX7_failure_39 : decode cX7_failure 39 = .ok (.iconst 2, 1) := by decide +kernel
theorem dX7_failure_40 : decode cX7_failure 40 = .ok (.ireturn, 1) := by decide +kernel
theorem dX7_failure_41 : decode cX7_failure 41 = .ok (.iload_n 1, 1) := by decide +kernel
theorem dX7_failure_42 : decode cX7_failure 42 = .ok (.iconst 1, 1) := by decide +kernel
theorem dX7_failure_43 : decode cX7_failure 43 = .ok (.if_icmp .ne 23, 3) := by decide +kernel
theorem dX7_failure_46 : decode cX7_failure 46 = .ok (.iload_n 3, 1) := by decide +kernel
theorem dX7_failure_47 : decode cX7_failure 47 = .ok (.aload_n 0, 1) := by decide +kernel
theorem dX7_failure_48 : decode cX7_failure 48 = .ok (.getfield 22, 3) := by decide +kernel
theorem dX7_failure_51 : decode cX7_failure 51 = .ok (.iload_n 2, 1) := by decide +kernel
theorem dX7_failure_52 : decode cX7_failure 52 = .ok (.iaload, 1) := by decide +kernel
theorem dX7_failure_53 : decode cX7_failure 53 = .ok (.if_icmp .gt 31, 3) := by decide +kernel
theorem dX7_failure_56 : decode cX7_failure 56 = .ok (.iload_n 3, 1) := by decide +kernel
theorem dX7_failure_57 : decode cX7_failure 57 = .ok (.aload_n 0, 1) := by decide +kernel
theorem dX7_failure_58 : decode cX7_failure 58 = .ok (.getfield 25, 3) := by decide +kernel
theorem dX7_failure_61 : decode cX7_failure 61 = .ok (.iload_n 2, 1) := by decide +kernel
theorem dX7_failure_62 : decode cX7_failure 62 = .ok (.iaload, 1) := by decide +kernel
theorem dX7_failure_63 : decode cX7_failure 63 = .ok (.if_icmp .gt 21, 3) := by decide +kernel
theorem dX7_failure_66 : decode cX7_failure 66 = .ok (.iload_n 1, 1) := by decide +kernel
theorem dX7_failure_67 : decode cX7_failure 67 = .ok (.iconst 4, 1) := by decide +kernel
theorem dX7_failure_68 : decode cX7_failure 68 = .ok (.if_icmp .ne 18, 3) := by decide +kernel
theorem dX7_failure_71 : decode cX7_failure 71 = .ok (.aload_n 0, 1) := by decide +kernel
theorem dX7_failure_72 : decode cX7_failure 72 = .ok (.getfield 19, 3) := by decide +kernel
theorem dX7_failure_75 : decode cX7_failure 75 = .ok (.iload_n 2, 1) := by decide +kernel
theorem dX7_failure_76 : decode cX7_failure 76 = .ok (.iaload, 1) := by decide +kernel
theorem dX7_failure_77 : decode cX7_failure 77 = .ok (.ifCond .ne 9, 3) := by decide +kernel
theorem dX7_failure_80 : decode cX7_failure 80 = .ok (.iload_n 3, 1) := by decide +kernel
theorem dX7_failure_81 : decode cX7_failure 81 = .ok (.ifCond .le 5, 3) := by decide +kernel
theorem dX7_failure_84 : decode cX7_failure 84 = .ok (.iconst 3, 1) := by decide +kernel
theorem dX7_failure_85 : decode cX7_failure 85 = .ok (.ireturn, 1) := by decide +kernel
theorem dX7_failure_86 : decode cX7_failure 86 = .ok (.iload_n 1, 1) := by decide +kernel
theorem dX7_failure_87 : decode cX7_failure 87 = .ok (.iconst 1, 1) := by decide +kernel
theorem dX7_failure_88 : decode cX7_failure 88 = .ok (.if_icmp .ne 9, 3) := by decide +kernel
theorem dX7_failure_91 : decode cX7_failure 91 = .ok (.iload_n 3, 1) := by decide +kernel
theorem dX7_failure_92 : decode cX7_failure 92 = .ok (.ifCond .ge 5, 3) := by decide +kernel
theorem dX7_failure_95 : decode cX7_failure 95 = .ok (.iconst 5, 1) := by decide +kernel
theorem dX7_failure_96 : decode cX7_failure 96 = .ok (.ireturn, 1) := by decide +kernel
theorem dX7_failure_97 : decode cX7_failure 97 = .ok (.iload_n 1, 1) := by decide +kernel
theorem dX7_failure_98 : decode cX7_failure 98 = .ok (.iconst 2, 1) := by decide +kernel
theorem dX7_failure_99 : decode cX7_failure 99 = .ok (.if_icmp .ne 7, 3) := by decide +kernel
theorem dX7_failure_102 : decode cX7_failure 102 = .ok (.iload_n 3, 1) := by decide +kernel
theorem dX7_failure_103 : decode cX7_failure 103 = .ok (.ifCond .eq 22, 3) := by decide +kernel
theorem dX7_failure_106 : decode cX7_failure 106 = .ok (.iload_n 1, 1) := by decide +kernel
theorem dX7_failure_107 : decode cX7_failure 107 = .ok (.iconst 4, 1) := by decide +kernel
theorem dX7_failure_108 : decode cX7_failure 108 = .ok (.if_icmp .ne 22, 3) := by decide +kernel
theorem dX7_failure_111 : decode cX7_failure 111 = .ok (.aload_n 0, 1) := by decide +kernel
theorem dX7_failure_112 : decode cX7_failure 112 = .ok (.getfield 19, 3) := by decide +kernel
theorem dX7_failure_115 : decode cX7_failure 115 = .ok (.iload_n 2, 1) := by decide +kernel
theorem dX7_failure_116 : decode cX7_failure 116 = .ok (.iaload, 1) := by decide +kernel
theorem dX7_failure_117 : decode cX7_failure 117 = .ok (.iconst 1, 1) := by decide +kernel
theorem dX7_failure_118 : decode cX7_failure 118 = .ok (.if_icmp .ne 12, 3) := by decide +kernel
theorem dX7_failure_121 : decode cX7_failure 121 = .ok (.iload_n 3, 1) := by decide +kernel
theorem dX7_failure_122 : decode cX7_failure 122 = .ok (.ifCond .le 8, 3) := by decide +kernel
theorem dX7_failure_125 : decode cX7_failure 125 = .ok (.bipush 6, 2) := by decide +kernel
theorem dX7_failure_127 : decode cX7_failure 127 = .ok (.goto 4, 3) := by decide +kernel
theorem dX7_failure_130 : decode cX7_failure 130 = .ok (.iconst 0, 1) := by decide +kernel
theorem dX7_failure_131 : decode cX7_failure 131 = .ok (.ireturn, 1) := by decide +kernel
set_option maxRecDepth 20000 in
theorem ggX7_act_X7_isRow : GoodIn wsX7_act wsX7_isRow := goodIn_r _ [22, 23, 24, 25, 21, 26, 60, 61, 62, 63, 64, 65, 66, 67, 68, 69, 70, 71, 72, 73, 74, 75, 76, 77, 78, 79, 80, 81, 82, 83, 84, 85, 86, 87, 88, 89] (by decide +kernel) (by decide +kernel)
set_option maxRecDepth 20000 in
theorem gX7_act_X7_isRow : GoodIn wsX7_act (wsV RX7 110 RX7 yX7_isRow wsX7_isRow) := goodIn_app (goodIn_of _ (by decide +kernel)) ggX7_act_X7_isRow
set_option maxRecDepth 20000 in
theorem ggX7_act_X7_in : GoodIn wsX7_act wsX7_in := goodIn_r _ [26] (by decide +kernel) (by decide +kernel)
set_option maxRecDepth 20000 in
theorem gX7_act_X7_in : GoodIn wsX7_act (va_wsS RX7 96 yX7_in wsX7_in) := goodIn_app (goodIn_of _ (by decide +kernel)) ggX7_act_X7_in
set_option maxRecDepth 20000 in
theorem ggX7_act_X7_failure : GoodIn wsX7_act wsX7_failure := goodIn_r _ [30, 8, 12, 14, 10, 60, 61, 62, 63, 64, 65, 66, 67, 68, 69, 70, 71, 72, 73, 74, 75, 76, 77, 78, 79, 80, 81, 82, 83, 84, 85, 86, 87, 88, 89] (by decide +kernel) (by decide +kernel)
set_option maxRecDepth 20000 in
theorem gX7_act_X7_failure : GoodIn wsX7_act (wsV RX7 188 RX7 yX7_failure wsX7_failure) := goodIn_app (goodIn_of _ (by decide +kernel)) ggX7_act_X7_failure
set_option maxRecDepth 20000 in
theorem ggX7_act_X7_begin : GoodIn wsX7_act wsX7_begin := goodIn_r _ [34, 35, 36, 60, 61, 62, 63, 64, 65, 66, 67, 68, 69, 70, 71, 72, 73, 74, 75, 76, 77, 78, 79, 80, 81, 82, 83, 84, 85, 86, 87, 88, 89] (by decide +kernel) (by decide +kernel)
set_option maxRecDepth 20000 in
theorem gX7_act_X7_begin : GoodIn wsX7_act (wsV RX7 123 RX7 yX7_begin wsX7_begin) := goodIn_app (goodIn_of _ (by decide +kernel)) ggX7_act_X7_begin
set_option maxRecDepth 20000 in
theorem ggX7_act_X7_with : GoodIn wsX7_act wsX7_with := goodIn_r _ [40, 36, 41, 42, 43, 21, 44, 45, 46, 60, 61, 62, 63, 64, 65, 66, 67, 68, 69, 70, 71, 72, 73, 74, 75, 76, 77, 78, 79, 80, 81, 82, 83, 84, 85, 86, 87, 88, 89] (by decide +kernel) (by decide +kernel)
set_option maxRecDepth 20000 in
theorem gX7_act_X7_with : GoodIn wsX7_act (wsV RX7 126 RX7 yX7_with wsX7_with) := goodIn_app (goodIn_of _ (by decide +kernel)) ggX7_act_X7_with
set_option maxRecDepth 20000 in
theorem ggX7_act_X7_draw : GoodIn wsX7_act wsX7_draw := goodIn_r _ [50, 36, 41, 42, 43, 21, 44, 45, 46, 60, 61, 62, 63, 64, 65, 66, 67, 68, 69, 70, 71, 72, 73, 74, 75, 76, 77, 78, 79, 80, 81, 82, 83, 84, 85, 86, 87, 88, 89] (by decide +kernel) (by decide +kernel)
set_option maxRecDepth 20000 in
theorem gX7_act_X7_draw : GoodIn wsX7_act (wsV RX7 89 RX7 yX7_draw wsX7_draw) := goodIn_app (goodIn_of _ (by decide +kernel)) ggX7_act_X7_draw
set_option maxRecDepth 20000 in
theorem ggX7_act_X7_turn : GoodIn wsX7_act wsX7_turn := goodIn_r _ [54, 11, 55, 16, 15, 13, 60, 61, 62, 63, 64, 65, 66, 67, 68, 69, 70, 71, 72, 73, 74, 75, 76, 77, 78, 79, 80, 81, 82, 83, 84, 85, 86, 87, 88, 89] (by decide +kernel) (by decide +kernel)
set_option maxRecDepth 20000 in
theorem gX7_act_X7_turn : GoodIn wsX7_act (wsV RX7 203 RX7 yX7_turn wsX7_turn) := goodIn_app (goodIn_of _ (by decide +kernel)) ggX7_act_X7_turn
set_option maxRecDepth 20000 in
theorem ggX7_act_X7_crop : GoodIn wsX7_act wsX7_crop := goodIn_r _ [59, 13, 15, 16, 11, 47, 48, 49, 21, 50, 36, 41, 42, 43, 44, 45, 46, 60, 61, 62, 63, 64, 65, 66, 67, 68, 69, 70, 71, 72, 73, 74, 75, 76, 77, 78, 79, 80, 81, 82, 83, 84, 85, 86, 87, 88, 89] (by decide +kernel) (by decide +kernel)
set_option maxRecDepth 20000 in
theorem gX7_act_X7_crop : GoodIn wsX7_act (wsV RX7 206 RX7 yX7_crop wsX7_crop) := goodIn_app (goodIn_of _ (by decide +kernel)) ggX7_act_X7_crop
theorem dX7_act_0 : decode cX7_act 0 = .ok (.aload_n 0, 1) := by decide +kernel
theorem dX7_act_1 : decode cX7_act 1 = .ok (.iconst 0, 1) := by decide +kernel
theorem dX7_act_2 : decode cX7_act 2 = .ok (.putfield 69, 3) := by decide +kernel
theorem dX7_act_5 : decode cX7_act 5 = .ok (.aload_n 0, 1) := by decide +kernel
theorem dX7_act_6 : decode cX7_act 6 = .ok (.iload_n 2, 1) := by decide +kernel
theorem dX7_act_7 : decode cX7_act 7 = .ok (.invokevirtual 110, 3) := by decide +kernel
theorem dX7_act_10 : decode cX7_act 10 = .ok (.ifCond .eq 93, 3) := by decide +kernel
theorem dX7_act_13 : decode cX7_act 13 = .ok (.iload_n 1, 1) := by decide +kernel
theorem dX7_act_14 : decode cX7_act 14 = .ok (.i2l, 1) := by decide +kernel
theorem dX7_act_15 : decode cX7_act 15 = .ok (.lconst 0, 1) := by decide +kernel
theorem dX7_act_16 : decode cX7_act 16 = .ok (.ldc2_w 158, 3) := by decide +kernel
theorem dX7_act_19 : decode cX7_act 19 = .ok (.invokestatic 96, 3) := by decide +kernel
theorem dX7_act_22 : decode cX7_act 22 = .ok (.ifCond .eq 81, 3) := by decide +kernel
theorem dX7_act_25 : decode cX7_act 25 = .ok (.iload_n 3, 1) := by decide +kernel
theorem dX7_act_26 : decode cX7_act 26 = .ok (.i2l, 1) := by decide +kernel
theorem dX7_act_27 : decode cX7_act 27 = .ok (.lconst 0, 1) := by decide +kernel
theorem dX7_act_28 : decode cX7_act 28 = .ok (.ldc2_w 102, 3) := by decide +kernel
theorem dX7_act_31 : decode cX7_act 31 = .ok (.invokestatic 96, 3) := by decide +kernel
theorem dX7_act_34 : decode cX7_act 34 = .ok (.ifCond .eq 69, 3) := by decide +kernel
theorem dX7_act_37 : decode cX7_act 37 = .ok (.iload_n 1, 1) := by decide +kernel
theorem dX7_act_38 : decode cX7_act 38 = .ok (.iconst 2, 1) := by decide +kernel
theorem dX7_act_39 : decode cX7_act 39 = .ok (.if_icmp .ne 16, 3) := by decide +kernel
theorem dX7_act_42 : decode cX7_act 42 = .ok (.iload 4, 2) := by decide +kernel
theorem dX7_act_44 : decode cX7_act 44 = .ok (.i2l, 1) := by decide +kernel
theorem dX7_act_45 : decode cX7_act 45 = .ok (.lconst 0, 1) := by decide +kernel
theorem dX7_act_46 : decode cX7_act 46 = .ok (.ldc2_w 182, 3) := by decide +kernel
theorem dX7_act_49 : decode cX7_act 49 = .ok (.invokestatic 96, 3) := by decide +kernel
theorem dX7_act_52 : decode cX7_act 52 = .ok (.ifCond .eq 51, 3) := by decide +kernel
theorem dX7_act_55 : decode cX7_act 55 = .ok (.iload_n 1, 1) := by decide +kernel
theorem dX7_act_56 : decode cX7_act 56 = .ok (.iconst 3, 1) := by decide +kernel
theorem dX7_act_57 : decode cX7_act 57 = .ok (.if_icmp .ne 16, 3) := by decide +kernel
theorem dX7_act_60 : decode cX7_act 60 = .ok (.iload 4, 2) := by decide +kernel
theorem dX7_act_62 : decode cX7_act 62 = .ok (.i2l, 1) := by decide +kernel
theorem dX7_act_63 : decode cX7_act 63 = .ok (.lconst 0, 1) := by decide +kernel
theorem dX7_act_64 : decode cX7_act 64 = .ok (.ldc2_w 184, 3) := by decide +kernel
theorem dX7_act_67 : decode cX7_act 67 = .ok (.invokestatic 96, 3) := by decide +kernel
theorem dX7_act_70 : decode cX7_act 70 = .ok (.ifCond .eq 33, 3) := by decide +kernel
theorem dX7_act_73 : decode cX7_act 73 = .ok (.iload_n 1, 1) := by decide +kernel
theorem dX7_act_74 : decode cX7_act 74 = .ok (.iconst 4, 1) := by decide +kernel
theorem dX7_act_75 : decode cX7_act 75 = .ok (.if_icmp .ne 16, 3) := by decide +kernel
theorem dX7_act_78 : decode cX7_act 78 = .ok (.iload 4, 2) := by decide +kernel
theorem dX7_act_80 : decode cX7_act 80 = .ok (.i2l, 1) := by decide +kernel
theorem dX7_act_81 : decode cX7_act 81 = .ok (.lconst 0, 1) := by decide +kernel
theorem dX7_act_82 : decode cX7_act 82 = .ok (.ldc2_w 186, 3) := by decide +kernel
theorem dX7_act_85 : decode cX7_act 85 = .ok (.invokestatic 96, 3) := by decide +kernel
theorem dX7_act_88 : decode cX7_act 88 = .ok (.ifCond .eq 15, 3) := by decide +kernel
theorem dX7_act_91 : decode cX7_act 91 = .ok (.iload_n 1, 1) := by decide +kernel
theorem dX7_act_92 : decode cX7_act 92 = .ok (.iconst 1, 1) := by decide +kernel
theorem dX7_act_93 : decode cX7_act 93 = .ok (.if_icmp .ne 12, 3) := by decide +kernel
theorem dX7_act_96 : decode cX7_act 96 = .ok (.iload 4, 2) := by decide +kernel
theorem dX7_act_98 : decode cX7_act 98 = .ok (.bipush 40, 2) := by decide +kernel
theorem dX7_act_100 : decode cX7_act 100 = .ok (.if_icmp .le 5, 3) := by decide +kernel
theorem dX7_act_103 : decode cX7_act 103 = .ok (.iconst (-1), 1) := by decide +kernel
theorem dX7_act_104 : decode cX7_act 104 = .ok (.ireturn, 1) := by decide +kernel
theorem dX7_act_105 : decode cX7_act 105 = .ok (.aload_n 0, 1) := by decide +kernel
theorem dX7_act_106 : decode cX7_act 106 = .ok (.iload_n 1, 1) := by decide +kernel
theorem dX7_act_107 : decode cX7_act 107 = .ok (.iload_n 2, 1) := by decide +kernel
theorem dX7_act_108 : decode cX7_act 108 = .ok (.iload 4, 2) := by decide +kernel
theorem dX7_act_110 : decode cX7_act 110 = .ok (.invokevirtual 188, 3) := by decide +kernel
theorem dX7_act_113 : decode cX7_act 113 = .ok (.istore 5, 2) := by decide +kernel
theorem dX7_act_115 : decode cX7_act 115 = .ok (.iload 5, 2) := by decide +kernel
theorem dX7_act_117 : decode cX7_act 117 = .ok (.ifCond .le 9, 3) := by decide +kernel
theorem dX7_act_120 : decode cX7_act 120 = .ok (.bipush (-10), 2) := by decide +kernel
theorem dX7_act_122 : decode cX7_act 122 = .ok (.iload 5, 2) := by decide +kernel
theorem dX7_act_124 : decode cX7_act 124 = .ok (.isub, 1) := by decide +kernel
theorem dX7_act_125 : decode cX7_act 125 = .ok (.ireturn, 1) := by decide +kernel
theorem dX7_act_126 : decode cX7_act 126 = .ok (.aload_n 0, 1) := by decide +kernel
theorem dX7_act_127 : decode cX7_act 127 = .ok (.invokevirtual 123, 3) := by decide +kernel
theorem dX7_act_130 : decode cX7_act 130 = .ok (.aload_n 0, 1) := by decide +kernel
theorem dX7_act_131 : decode cX7_act 131 = .ok (.ldc2_w 192, 3) := by decide +kernel
theorem dX7_act_134 : decode cX7_act 134 = .ok (.invokevirtual 126, 3) := by decide +kernel
theorem dX7_act_137 : decode cX7_act 137 = .ok (.aload_n 0, 1) := by decide +kernel
theorem dX7_act_138 : decode cX7_act 138 = .ok (.iload_n 2, 1) := by decide +kernel
theorem dX7_act_139 : decode cX7_act 139 = .ok (.i2l, 1) := by decide +kernel
theorem dX7_act_140 : decode cX7_act 140 = .ok (.invokevirtual 126, 3) := by decide +kernel
theorem dX7_act_143 : decode cX7_act 143 = .ok (.aload_n 0, 1) := by decide +kernel
theorem dX7_act_144 : decode cX7_act 144 = .ok (.iload_n 3, 1) := by decide +kernel
theorem dX7_act_145 : decode cX7_act 145 = .ok (.i2l, 1) := by decide +kernel
theorem dX7_act_146 : decode cX7_act 146 = .ok (.invokevirtual 126, 3) := by decide +kernel
theorem dX7_act_149 : decode cX7_act 149 = .ok (.aload_n 0, 1) := by decide +kernel
theorem dX7_act_150 : decode cX7_act 150 = .ok (.iload_n 1, 1) := by decide +kernel
theorem dX7_act_151 : decode cX7_act 151 = .ok (.i2l, 1) := by decide +kernel
theorem dX7_act_152 : decode cX7_act 152 = .ok (.invokevirtual 126, 3) := by decide +kernel
theorem dX7_act_155 : decode cX7_act 155 = .ok (.aload_n 0, 1) := by decide +kernel
theorem dX7_act_156 : decode cX7_act 156 = .ok (.aload_n 0, 1) := by decide +kernel
theorem dX7_act_157 : decode cX7_act 157 = .ok (.getfield 7, 3) := by decide +kernel
theorem dX7_act_160 : decode cX7_act 160 = .ok (.iload_n 2, 1) := by decide +kernel
theorem dX7_act_161 : decode cX7_act 161 = .ok (.iaload, 1) := by decide +kernel
theorem dX7_act_162 : decode cX7_act 162 = .ok (.putfield 60, 3) := by decide +kernel
theorem dX7_act_165 : decode cX7_act 165 = .ok (.aload_n 0, 1) := by decide +kernel
theorem dX7_act_166 : decode cX7_act 166 = .ok (.aload_n 0, 1) := by decide +kernel
theorem dX7_act_167 : decode cX7_act 167 = .ok (.getfield 19, 3) := by decide +kernel
theorem dX7_act_170 : decode cX7_act 170 = .ok (.iload_n 2, 1) := by decide +kernel
theorem dX7_act_171 : decode cX7_act 171 = .ok (.iaload, 1) := by decide +kernel
theorem dX7_act_172 : decode cX7_act 172 = .ok (.putfield 194, 3) := by decide +kernel
theorem dX7_act_175 : decode cX7_act 175 = .ok (.aload_n 0, 1) := by decide +kernel
theorem dX7_act_176 : decode cX7_act 176 = .ok (.aload_n 0, 1) := by decide +kernel
theorem dX7_act_177 : decode cX7_act 177 = .ok (.getfield 22, 3) := by decide +kernel
theorem dX7_act_180 : decode cX7_act 180 = .ok (.iload_n 2, 1) := by decide +kernel
theorem dX7_act_181 : decode cX7_act 181 = .ok (.iaload, 1) := by decide +kernel
theorem dX7_act_182 : decode cX7_act 182 = .ok (.putfield 197, 3) := by decide +kernel
theorem dX7_act_185 : decode cX7_act 185 = .ok (.aload_n 0, 1) := by decide +kernel
theorem dX7_act_186 : decode cX7_act 186 = .ok (.aload_n 0, 1) := by decide +kernel
theorem dX7_act_187 : decode cX7_act 187 = .ok (.getfield 25, 3) := by decide +kernel
theorem dX7_act_190 : decode cX7_act 190 = .ok (.iload_n 2, 1) := by decide +kernel
theorem dX7_act_191 : decode cX7_act 191 = .ok (.iaload, 1) := by decide +kernel
theorem dX7_act_192 : decode cX7_act 192 = .ok (.putfield 200, 3) := by decide +kernel
theorem dX7_act_195 : decode cX7_act 195 = .ok (.iconst 0, 1) := by decide +kernel
theorem dX7_act_196 : decode cX7_act 196 = .ok (.istore 6, 2) := by decide +kernel
theorem dX7_act_198 : decode cX7_act 198 = .ok (.iload 6, 2) := by decide +kernel
theorem dX7_act_200 : decode cX7_act 200 = .ok (.aload_n 0, 1) := by decide +kernel
theorem dX7_act_201 : decode cX7_act 201 = .ok (.getfield 194, 3) := by decide +kernel
theorem dX7_act_204 : decode cX7_act 204 = .ok (.if_icmp .ge 29, 3) := by decide +kernel
theorem dX7_act_207 : decode cX7_act 207 = .ok (.aload_n 0, 1) := by decide +kernel
theorem dX7_act_208 : decode cX7_act 208 = .ok (.getfield 63, 3) := by decide +kernel
theorem dX7_act_211 : decode cX7_act 211 = .ok (.iload 6, 2) := by decide +kernel
theorem dX7_act_213 : decode cX7_act 213 = .ok (.aload_n 0, 1) := by decide +kernel
theorem dX7_act_214 : decode cX7_act 214 = .ok (.getfield 29, 3) := by decide +kernel
theorem dX7_act_217 : decode cX7_act 217 = .ok (.sipush 1600, 3) := by decide +kernel
theorem dX7_act_220 : decode cX7_act 220 = .ok (.iload_n 2, 1) := by decide +kernel
theorem dX7_act_221 : decode cX7_act 221 = .ok (.imul, 1) := by decide +kernel
theorem dX7_act_222 : decode cX7_act 222 = .ok (.iload 6, 2) := by decide +kernel
theorem dX7_act_224 : decode cX7_act 224 = .ok (.iadd, 1) := by decide +kernel
theorem dX7_act_225 : decode cX7_act 225 = .ok (.iaload, 1) := by decide +kernel
theorem dX7_act_226 : decode cX7_act 226 = .ok (.iastore, 1) := by decide +kernel
theorem dX7_act_227 : decode cX7_act 227 = .ok (.iinc 6 1, 3) := by decide +kernel
theorem dX7_act_230 : decode cX7_act 230 = .ok (.goto (-32), 3) := by decide +kernel
theorem dX7_act_233 : decode cX7_act 233 = .ok (.iload_n 1, 1) := by decide +kernel
theorem dX7_act_234 : decode cX7_act 234 = .ok (.tableswitch 168 0 3 #[30, 62, 71, 109], 30) := by decide +kernel
theorem dX7_act_264 : decode cX7_act 264 = .ok (.aload_n 0, 1) := by decide +kernel
theorem dX7_act_265 : decode cX7_act 265 = .ok (.ldc2_w 158, 3) := by decide +kernel
theorem dX7_act_268 : decode cX7_act 268 = .ok (.invokevirtual 89, 3) := by decide +kernel
theorem dX7_act_271 : decode cX7_act 271 = .ok (.istore 6, 2) := by decide +kernel
theorem dX7_act_273 : decode cX7_act 273 = .ok (.iconst 0, 1) := by decide +kernel
theorem dX7_act_274 : decode cX7_act 274 = .ok (.istore 7, 2) := by decide +kernel
theorem dX7_act_276 : decode cX7_act 276 = .ok (.iload 7, 2) := by decide +kernel
theorem dX7_act_278 : decode cX7_act 278 = .ok (.iload 6, 2) := by decide +kernel
theorem dX7_act_280 : decode cX7_act 280 = .ok (.if_icmp .ge 13, 3) := by decide +kernel
theorem dX7_act_283 : decode cX7_act 283 = .ok (.aload_n 0, 1) := by decide +kernel
theorem dX7_act_284 : decode cX7_act 284 = .ok (.invokevirtual 203, 3) := by decide +kernel
theorem dX7_act_287 : decode cX7_act 287 = .ok (.iinc 7 1, 3) := by decide +kernel
theorem dX7_act_290 : decode cX7_act 290 = .ok (.goto (-14), 3) := by decide +kernel
theorem dX7_act_293 : decode cX7_act 293 = .ok (.goto 174, 3) := by decide +kernel
theorem dX7_act_296 : decode cX7_act 296 = .ok (.aload_n 0, 1) := by decide +kernel
theorem dX7_act_297 : decode cX7_act 297 = .ok (.iload 4, 2) := by decide +kernel
theorem dX7_act_299 : decode cX7_act 299 = .ok (.invokevirtual 206, 3) := by decide +kernel
theorem dX7_act_302 : decode cX7_act 302 = .ok (.goto 165, 3) := by decide +kernel
theorem dX7_act_305 : decode cX7_act 305 = .ok (.iconst 0, 1) := by decide +kernel
theorem dX7_act_306 : decode cX7_act 306 = .ok (.istore 6, 2) := by decide +kernel
theorem dX7_act_308 : decode cX7_act 308 = .ok (.iload 6, 2) := by decide +kernel
theorem dX7_act_310 : decode cX7_act 310 = .ok (.aload_n 0, 1) := by decide +kernel
theorem dX7_act_311 : decode cX7_act 311 = .ok (.getfield 194, 3) := by decide +kernel
theorem dX7_act_314 : decode cX7_act 314 = .ok (.if_icmp .ge 26, 3) := by decide +kernel
theorem dX7_act_317 : decode cX7_act 317 = .ok (.aload_n 0, 1) := by decide +kernel
theorem dX7_act_318 : decode cX7_act 318 = .ok (.getfield 63, 3) := by decide +kernel
theorem dX7_act_321 : decode cX7_act 321 = .ok (.iload 6, 2) := by decide +kernel
theorem dX7_act_323 : decode cX7_act 323 = .ok (.dup2, 1) := by decide +kernel
theorem dX7_act_324 : decode cX7_act 324 = .ok (.iaload, 1) := by decide +kernel
theorem dX7_act_325 : decode cX7_act 325 = .ok (.aload_n 0, 1) := by decide +kernel
theorem dX7_act_326 : decode cX7_act 326 = .ok (.iload 4, 2) := by decide +kernel
theorem dX7_act_328 : decode cX7_act 328 = .ok (.i2l, 1) := by decide +kernel
theorem dX7_act_329 : decode cX7_act 329 = .ok (.invokevirtual 89, 3) := by decide +kernel
theorem dX7_act_332 : decode cX7_act 332 = .ok (.ixor, 1) := by decide +kernel
theorem dX7_act_333 : decode cX7_act 333 = .ok (.iastore, 1) := by decide +kernel
theorem dX7_act_334 : decode cX7_act 334 = .ok (.iinc 6 1, 3) := by decide +kernel
theorem dX7_act_337 : decode cX7_act 337 = .ok (.goto (-29), 3) := by decide +kernel
theorem dX7_act_340 : decode cX7_act 340 = .ok (.goto 127, 3) := by decide +kernel
theorem dX7_act_343 : decode cX7_act 343 = .ok (.iconst 0, 1) := by decide +kernel
theorem dX7_act_344 : decode cX7_act 344 = .ok (.istore 6, 2) := by decide +kernel
theorem dX7_act_346 : decode cX7_act 346 = .ok (.iconst 0, 1) := by decide +kernel
theorem dX7_act_347 : decode cX7_act 347 = .ok (.istore 7, 2) := by decide +kernel
theorem dX7_act_349 : decode cX7_act 349 = .ok (.iload 7, 2) := by decide +kernel
theorem dX7_act_351 : decode cX7_act 351 = .ok (.aload_n 0, 1) := by decide +kernel
theorem dX7_act_352 : decode cX7_act 352 = .ok (.getfield 194, 3) := by decide +kernel
theorem dX7_act_355 : decode cX7_act 355 = .ok (.if_icmp .ge 38, 3) := by decide +kernel
theorem dX7_act_358 : decode cX7_act 358 = .ok (.aload_n 0, 1) := by decide +kernel
theorem dX7_act_359 : decode cX7_act 359 = .ok (.ldc2_w 184, 3) := by decide +kernel
theorem dX7_act_362 : decode cX7_act 362 = .ok (.invokevirtual 89, 3) := by decide +kernel
theorem dX7_act_365 : decode cX7_act 365 = .ok (.iload 4, 2) := by decide +kernel
theorem dX7_act_367 : decode cX7_act 367 = .ok (.if_icmp .lt 20, 3) := by decide +kernel
theorem dX7_act_370 : decode cX7_act 370 = .ok (.aload_n 0, 1) := by decide +kernel
theorem dX7_act_371 : decode cX7_act 371 = .ok (.getfield 63, 3) := by decide +kernel
theorem dX7_act_374 : decode cX7_act 374 = .ok (.iload 6, 2) := by decide +kernel
theorem dX7_act_376 : decode cX7_act 376 = .ok (.aload_n 0, 1) := by decide +kernel
theorem dX7_act_377 : decode cX7_act 377 = .ok (.getfield 63, 3) := by decide +kernel
theorem dX7_act_380 : decode cX7_act 380 = .ok (.iload 7, 2) := by decide +kernel
theorem dX7_act_382 : decode cX7_act 382 = .ok (.iaload, 1) := by decide +kernel
theorem dX7_act_383 : decode cX7_act 383 = .ok (.iastore, 1) := by decide +kernel
theorem dX7_act_384 : decode cX7_act 384 = .ok (.iinc 6 1, 3) := by decide +kernel
theorem dX7_act_387 : decode cX7_act 387 = .ok (.iinc 7 1, 3) := by decide +kernel
theorem dX7_act_390 : decode cX7_act 390 = .ok (.goto (-41), 3) := by decide +kernel
theorem dX7_act_393 : decode cX7_act 393 = .ok (.aload_n 0, 1) := by decide +kernel
theorem dX7_act_394 : decode cX7_act 394 = .ok (.iload 6, 2) := by decide +kernel
theorem dX7_act_396 : decode cX7_act 396 = .ok (.putfield 194, 3) := by decide +kernel
theorem dX7_act_399 : decode cX7_act 399 = .ok (.goto 68, 3) := by decide +kernel
theorem dX7_act_402 : decode cX7_act 402 = .ok (.iconst 0, 1) := by decide +kernel
theorem dX7_act_403 : decode cX7_act 403 = .ok (.istore 6, 2) := by decide +kernel
theorem dX7_act_405 : decode cX7_act 405 = .ok (.iload 6, 2) := by decide +kernel
theorem dX7_act_407 : decode cX7_act 407 = .ok (.iload 4, 2) := by decide +kernel
theorem dX7_act_409 : decode cX7_act 409 = .ok (.if_icmp .ge 58, 3) := by decide +kernel
theorem dX7_act_412 : decode cX7_act 412 = .ok (.aload_n 0, 1) := by decide +kernel
theorem dX7_act_413 : decode cX7_act 413 = .ok (.aload_n 0, 1) := by decide +kernel
theorem dX7_act_414 : decode cX7_act 414 = .ok (.getfield 194, 3) := by decide +kernel
theorem dX7_act_417 : decode cX7_act 417 = .ok (.iconst 1, 1) := by decide +kernel
theorem dX7_act_418 : decode cX7_act 418 = .ok (.isub, 1) := by decide +kernel
theorem dX7_act_419 : decode cX7_act 419 = .ok (.i2l, 1) := by decide +kernel
theorem dX7_act_420 : decode cX7_act 420 = .ok (.invokevirtual 89, 3) := by decide +kernel
theorem dX7_act_423 : decode cX7_act 423 = .ok (.istore 7, 2) := by decide +kernel
theorem dX7_act_425 : decode cX7_act 425 = .ok (.aload_n 0, 1) := by decide +kernel
theorem dX7_act_426 : decode cX7_act 426 = .ok (.getfield 63, 3) := by decide +kernel
theorem dX7_act_429 : decode cX7_act 429 = .ok (.iload 7, 2) := by decide +kernel
theorem dX7_act_431 : decode cX7_act 431 = .ok (.iaload, 1) := by decide +kernel
theorem dX7_act_432 : decode cX7_act 432 = .ok (.istore 8, 2) := by decide +kernel
theorem dX7_act_434 : decode cX7_act 434 = .ok (.aload_n 0, 1) := by decide +kernel
theorem dX7_act_435 : decode cX7_act 435 = .ok (.getfield 63, 3) := by decide +kernel
theorem dX7_act_438 : decode cX7_act 438 = .ok (.iload 7, 2) := by decide +kernel
theorem dX7_act_440 : decode cX7_act 440 = .ok (.aload_n 0, 1) := by decide +kernel
theorem dX7_act_441 : decode cX7_act 441 = .ok (.getfield 63, 3) := by decide +kernel
theorem dX7_act_444 : decode cX7_act 444 = .ok (.iload 7, 2) := by decide +kernel
theorem dX7_act_446 : decode cX7_act 446 = .ok (.iconst 1, 1) := by decide +kernel
theorem dX7_act_447 : decode cX7_act 447 = .ok (.iadd, 1) := by decide +kernel
theorem dX7_act_448 : decode cX7_act 448 = .ok (.iaload, 1) := by decide +kernel
theorem dX7_act_449 : decode cX7_act 449 = .ok (.iastore, 1) := by decide +kernel
theorem dX7_act_450 : decode cX7_act 450 = .ok (.aload_n 0, 1) := by decide +kernel
theorem dX7_act_451 : decode cX7_act 451 = .ok (.getfield 63, 3) := by decide +kernel
theorem dX7_act_454 : decode cX7_act 454 = .ok (.iload 7, 2) := by decide +kernel
theorem dX7_act_456 : decode cX7_act 456 = .ok (.iconst 1, 1) := by decide +kernel
theorem dX7_act_457 : decode cX7_act 457 = .ok (.iadd, 1) := by decide +kernel
theorem dX7_act_458 : decode cX7_act 458 = .ok (.iload 8, 2) := by decide +kernel
theorem dX7_act_460 : decode cX7_act 460 = .ok (.iastore, 1) := by decide +kernel
theorem dX7_act_461 : decode cX7_act 461 = .ok (.iinc 6 1, 3) := by decide +kernel
theorem dX7_act_464 : decode cX7_act 464 = .ok (.goto (-59), 3) := by decide +kernel
theorem dX7_act_467 : decode cX7_act 467 = .ok (.aload_n 0, 1) := by decide +kernel
theorem dX7_act_468 : decode cX7_act 468 = .ok (.getfield 194, 3) := by decide +kernel
theorem dX7_act_471 : decode cX7_act 471 = .ok (.ireturn, 1) := by decide +kernel
theorem dX7_turn_0 : decode cX7_turn 0 = .ok (.iconst 0, 1) := by decide +kernel
theorem dX7_turn_1 : decode cX7_turn 1 = .ok (.istore_n 1, 1) := by decide +kernel
theorem dX7_turn_2 : decode cX7_turn 2 = .ok (.iload_n 1, 1) := by decide +kernel
theorem dX7_turn_3 : decode cX7_turn 3 = .ok (.aload_n 0, 1) := by decide +kernel
theorem dX7_turn_4 : decode cX7_turn 4 = .ok (.getfield 194, 3) := by decide +kernel
theorem dX7_turn_7 : decode cX7_turn 7 = .ok (.if_icmp .ge 21, 3) := by decide +kernel
theorem dX7_turn_10 : decode cX7_turn 10 = .ok (.aload_n 0, 1) := by decide +kernel
theorem dX7_turn_11 : decode cX7_turn 11 = .ok (.getfield 66, 3) := by decide +kernel
theorem dX7_turn_14 : decode cX7_turn 14 = .ok (.iload_n 1, 1) := by decide +kernel
theorem dX7_turn_15 : decode cX7_turn 15 = .ok (.aload_n 0, 1) := by decide +kernel
theorem dX7_turn_16 : decode cX7_turn 16 = .ok (.getfield 63, 3) := by decide +kernel
theorem dX7_turn_19 : decode cX7_turn 19 = .ok (.iload_n 1, 1) := by decide +kernel
theorem dX7_turn_20 : decode cX7_turn 20 = .ok (.iaload, 1) := by decide +kernel
theorem dX7_turn_21 : decode cX7_turn 21 = .ok (.iastore, 1) := by decide +kernel
theorem dX7_turn_22 : decode cX7_turn 22 = .ok (.iinc 1 1, 3) := by decide +kernel
theorem dX7_turn_25 : decode cX7_turn 25 = .ok (.goto (-23), 3) := by decide +kernel
theorem dX7_turn_28 : decode cX7_turn 28 = .ok (.iconst 0, 1) := by decide +kernel
theorem dX7_turn_29 : decode cX7_turn 29 = .ok (.istore_n 1, 1) := by decide +kernel
theorem dX7_turn_30 : decode cX7_turn 30 = .ok (.iload_n 1, 1) := by decide +kernel
theorem dX7_turn_31 : decode cX7_turn 31 = .ok (.aload_n 0, 1) := by decide +kernel
theorem dX7_turn_32 : decode cX7_turn 32 = .ok (.getfield 200, 3) := by decide +kernel
theorem dX7_turn_35 : decode cX7_turn 35 = .ok (.if_icmp .ge 58, 3) := by decide +kernel
theorem dX7_turn_38 : decode cX7_turn 38 = .ok (.iconst 0, 1) := by decide +kernel
theorem dX7_turn_39 : decode cX7_turn 39 = .ok (.istore_n 2, 1) := by decide +kernel
theorem dX7_turn_40 : decode cX7_turn 40 = .ok (.iload_n 2, 1) := by decide +kernel
theorem dX7_turn_41 : decode cX7_turn 41 = .ok (.aload_n 0, 1) := by decide +kernel
theorem dX7_turn_42 : decode cX7_turn 42 = .ok (.getfield 197, 3) := by decide +kernel
theorem dX7_turn_45 : decode cX7_turn 45 = .ok (.if_icmp .ge 42, 3) := by decide +kernel
theorem dX7_turn_48 : decode cX7_turn 48 = .ok (.aload_n 0, 1) := by decide +kernel
theorem dX7_turn_49 : decode cX7_turn 49 = .ok (.getfield 63, 3) := by decide +kernel
theorem dX7_turn_52 : decode cX7_turn 52 = .ok (.iload_n 1, 1) := by decide +kernel
theorem dX7_turn_53 : decode cX7_turn 53 = .ok (.aload_n 0, 1) := by decide +kernel
theorem dX7_turn_54 : decode cX7_turn 54 = .ok (.getfield 197, 3) := by decide +kernel
theorem dX7_turn_57 : decode cX7_turn 57 = .ok (.imul, 1) := by decide +kernel
theorem dX7_turn_58 : decode cX7_turn 58 = .ok (.iload_n 2, 1) := by decide +kernel
theorem dX7_turn_59 : decode cX7_turn 59 = .ok (.iadd, 1) := by decide +kernel
theorem dX7_turn_60 : decode cX7_turn 60 = .ok (.aload_n 0, 1) := by decide +kernel
theorem dX7_turn_61 : decode cX7_turn 61 = .ok (.getfield 66, 3) := by decide +kernel
theorem dX7_turn_64 : decode cX7_turn 64 = .ok (.aload_n 0, 1) := by decide +kernel
theorem dX7_turn_65 : decode cX7_turn 65 = .ok (.getfield 197, 3) := by decide +kernel
theorem dX7_turn_68 : decode cX7_turn 68 = .ok (.iconst 1, 1) := by decide +kernel
theorem dX7_turn_69 : decode cX7_turn 69 = .ok (.isub, 1) := by decide +kernel
theorem dX7_turn_70 : decode cX7_turn 70 = .ok (.iload_n 2, 1) := by decide +kernel
theorem dX7_turn_71 : decode cX7_turn 71 = .ok (.isub, 1) := by decide +kernel
theorem dX7_turn_72 : decode cX7_turn 72 = .ok (.aload_n 0, 1) := by decide +kernel
theorem dX7_turn_73 : decode cX7_turn 73 = .ok (.getfield 200, 3) := by decide +kernel
theorem dX7_turn_76 : decode cX7_turn 76 = .ok (.imul, 1) := by decide +kernel
theorem dX7_turn_77 : decode cX7_turn 77 = .ok (.iload_n 1, 1) := by decide +kernel
theorem dX7_turn_78 : decode cX7_turn 78 = .ok (.iadd, 1) := by decide +kernel
theorem dX7_turn_79 : decode cX7_turn 79 = .ok (.iaload, 1) := by decide +kernel
theorem dX7_turn_80 : decode cX7_turn 80 = .ok (.iastore, 1) := by decide +kernel
theorem dX7_turn_81 : decode cX7_turn 81 = .ok (.iinc 2 1, 3) := by decide +kernel
theorem dX7_turn_84 : decode cX7_turn 84 = .ok (.goto (-44), 3) := by decide +kernel
theorem dX7_turn_87 : decode cX7_turn 87 = .ok (.iinc 1 1, 3) := by decide +kernel
theorem dX7_turn_90 : decode cX7_turn 90 = .ok (.goto (-60), 3) := by decide +kernel
theorem dX7_turn_93 : decode cX7_turn 93 = .ok (.aload_n 0, 1) := by decide +kernel
theorem dX7_turn_94 : decode cX7_turn 94 = .ok (.getfield 197, 3) := by decide +kernel
theorem dX7_turn_97 : decode cX7_turn 97 = .ok (.istore_n 1, 1) := by decide +kernel
theorem dX7_turn_98 : decode cX7_turn 98 = .ok (.aload_n 0, 1) := by decide +kernel
theorem dX7_turn_99 : decode cX7_turn 99 = .ok (.aload_n 0, 1) := by decide +kernel
theorem dX7_turn_100 : decode cX7_turn 100 = .ok (.getfield 200, 3) := by decide +kernel
theorem dX7_turn_103 : decode cX7_turn 103 = .ok (.putfield 197, 3) := by decide +kernel
theorem dX7_turn_106 : decode cX7_turn 106 = .ok (.aload_n 0, 1) := by decide +kernel
theorem dX7_turn_107 : decode cX7_turn 107 = .ok (.iload_n 1, 1) := by decide +kernel
theorem dX7_turn_108 : decode cX7_turn 108 = .ok (.putfield 200, 3) := by decide +kernel
theorem dX7_turn_111 : decode cX7_turn 111 = .ok (.return_, 1) := by decide +kernel
set_option maxRecDepth 20000 in
theorem ggX7_crop_X7_draw : GoodIn wsX7_crop wsX7_draw := goodIn_r _ [9, 10, 11, 12, 13, 8, 14, 15, 16, 17, 18, 19, 20, 21, 22, 23, 24, 25, 26, 27, 28, 29, 30, 31, 32, 33, 34, 35, 36, 37, 38, 39, 40, 41, 42, 43, 44, 45, 46] (by decide +kernel) (by decide +kernel)
set_option maxRecDepth 20000 in
theorem gX7_crop_X7_draw : GoodIn wsX7_crop (wsV RX7 89 RX7 yX7_draw wsX7_draw) := goodIn_app (goodIn_of _ (by decide +kernel)) ggX7_crop_X7_draw
theorem dX7_crop_0 : decode cX7_crop 0 = .ok (.aload_n 0, 1) := by decide +kernel
theorem dX7_crop_1 : decode cX7_crop 1 = .ok (.aload_n 0, 1) := by decide +kernel
theorem dX7_crop_2 : decode cX7_crop 2 = .ok (.getfield 197, 3) := by decide +kernel
theorem dX7_crop_5 : decode cX7_crop 5 = .ok (.iload_n 1, 1) := by decide +kernel
theorem dX7_crop_6 : decode cX7_crop 6 = .ok (.isub, 1) := by decide +kernel
theorem dX7_crop_7 : decode cX7_crop 7 = .ok (.iconst 1, 1) := by decide +kernel
theorem dX7_crop_8 : decode cX7_crop 8 = .ok (.iadd, 1) := by decide +kernel
theorem dX7_crop_9 : decode cX7_crop 9 = .ok (.i2l, 1) := by decide +kernel
theorem dX7_crop_10 : decode cX7_crop 10 = .ok (.invokevirtual 89, 3) := by decide +kernel
theorem dX7_crop_13 : decode cX7_crop 13 = .ok (.istore_n 2, 1) := by decide +kernel
theorem dX7_crop_14 : decode cX7_crop 14 = .ok (.aload_n 0, 1) := by decide +kernel
theorem dX7_crop_15 : decode cX7_crop 15 = .ok (.aload_n 0, 1) := by decide +kernel
theorem dX7_crop_16 : decode cX7_crop 16 = .ok (.getfield 200, 3) := by decide +kernel
theorem dX7_crop_19 : decode cX7_crop 19 = .ok (.iload_n 1, 1) := by decide +kernel
theorem dX7_crop_20 : decode cX7_crop 20 = .ok (.isub, 1) := by decide +kernel
theorem dX7_crop_21 : decode cX7_crop 21 = .ok (.iconst 1, 1) := by decide +kernel
theorem dX7_crop_22 : decode cX7_crop 22 = .ok (.iadd, 1) := by decide +kernel
theorem dX7_crop_23 : decode cX7_crop 23 = .ok (.i2l, 1) := by decide +kernel
theorem dX7_crop_24 : decode cX7_crop 24 = .ok (.invokevirtual 89, 3) := by decide +kernel
theorem dX7_crop_27 : decode cX7_crop 27 = .ok (.istore_n 3, 1) := by decide +kernel
theorem dX7_crop_28 : decode cX7_crop 28 = .ok (.iconst 0, 1) := by decide +kernel
theorem dX7_crop_29 : decode cX7_crop 29 = .ok (.istore 4, 2) := by decide +kernel
theorem dX7_crop_31 : decode cX7_crop 31 = .ok (.iload 4, 2) := by decide +kernel
theorem dX7_crop_33 : decode cX7_crop 33 = .ok (.iload_n 1, 1) := by decide +kernel
theorem dX7_crop_34 : decode cX7_crop 34 = .ok (.if_icmp .ge 55, 3) := by decide +kernel
theorem dX7_crop_37 : decode cX7_crop 37 = .ok (.iconst 0, 1) := by decide +kernel
theorem dX7_crop_38 : decode cX7_crop 38 = .ok (.istore 5, 2) := by decide +kernel
theorem dX7_crop_40 : decode cX7_crop 40 = .ok (.iload 5, 2) := by decide +kernel
theorem dX7_crop_42 : decode cX7_crop 42 = .ok (.iload_n 1, 1) := by decide +kernel
theorem dX7_crop_43 : decode cX7_crop 43 = .ok (.if_icmp .ge 40, 3) := by decide +kernel
theorem dX7_crop_46 : decode cX7_crop 46 = .ok (.aload_n 0, 1) := by decide +kernel
theorem dX7_crop_47 : decode cX7_crop 47 = .ok (.getfield 63, 3) := by decide +kernel
theorem dX7_crop_50 : decode cX7_crop 50 = .ok (.iload 4, 2) := by decide +kernel
theorem dX7_crop_52 : decode cX7_crop 52 = .ok (.iload_n 1, 1) := by decide +kernel
theorem dX7_crop_53 : decode cX7_crop 53 = .ok (.imul, 1) := by decide +kernel
theorem dX7_crop_54 : decode cX7_crop 54 = .ok (.iload 5, 2) := by decide +kernel
theorem dX7_crop_56 : decode cX7_crop 56 = .ok (.iadd, 1) := by decide +kernel
theorem dX7_crop_57 : decode cX7_crop 57 = .ok (.aload_n 0, 1) := by decide +kernel
theorem dX7_crop_58 : decode cX7_crop 58 = .ok (.getfield 63, 3) := by decide +kernel
theorem dX7_crop_61 : decode cX7_crop 61 = .ok (.iload_n 2, 1) := by decide +kernel
theorem dX7_crop_62 : decode cX7_crop 62 = .ok (.iload 4, 2) := by decide +kernel
theorem dX7_crop_64 : decode cX7_crop 64 = .ok (.iadd, 1) := by decide +kernel
theorem dX7_crop_65 : decode cX7_crop 65 = .ok (.aload_n 0, 1) := by decide +kernel
theorem dX7_crop_66 : decode cX7_crop 66 = .ok (.getfield 200, 3) := by decide +kernel
theorem dX7_crop_69 : decode cX7_crop 69 = .ok (.imul, 1) := by decide +kernel
theorem dX7_crop_70 : decode cX7_crop 70 = .ok (.iload_n 3, 1) := by decide +kernel
theorem dX7_crop_71 : decode cX7_crop 71 = .ok (.iadd, 1) := by decide +kernel
theorem dX7_crop_72 : decode cX7_crop 72 = .ok (.iload 5, 2) := by decide +kernel
theorem dX7_crop_74 : decode cX7_crop 74 = .ok (.iadd, 1) := by decide +kernel
theorem dX7_crop_75 : decode cX7_crop 75 = .ok (.iaload, 1) := by decide +kernel
theorem dX7_crop_76 : decode cX7_crop 76 = .ok (.iastore, 1) := by decide +kernel
theorem dX7_crop_77 : decode cX7_crop 77 = .ok (.iinc 5 1, 3) := by decide +kernel
theorem dX7_crop_80 : decode cX7_crop 80 = .ok (.goto (-40), 3) := by decide +kernel
theorem dX7_crop_83 : decode cX7_crop 83 = .ok (.iinc 4 1, 3) := by decide +kernel
theorem dX7_crop_86 : decode cX7_crop 86 = .ok (.goto (-55), 3) := by decide +kernel
theorem dX7_crop_89 : decode cX7_crop 89 = .ok (.aload_n 0, 1) := by decide +kernel
theorem dX7_crop_90 : decode cX7_crop 90 = .ok (.iload_n 1, 1) := by decide +kernel
theorem dX7_crop_91 : decode cX7_crop 91 = .ok (.putfield 197, 3) := by decide +kernel
theorem dX7_crop_94 : decode cX7_crop 94 = .ok (.aload_n 0, 1) := by decide +kernel
theorem dX7_crop_95 : decode cX7_crop 95 = .ok (.iload_n 1, 1) := by decide +kernel
theorem dX7_crop_96 : decode cX7_crop 96 = .ok (.putfield 200, 3) := by decide +kernel
theorem dX7_crop_99 : decode cX7_crop 99 = .ok (.aload_n 0, 1) := by decide +kernel
theorem dX7_crop_100 : decode cX7_crop 100 = .ok (.iload_n 1, 1) := by decide +kernel
theorem dX7_crop_101 : decode cX7_crop 101 = .ok (.iload_n 1, 1) := by decide +kernel
theorem dX7_crop_102 : decode cX7_crop 102 = .ok (.imul, 1) := by decide +kernel
theorem dX7_crop_103 : decode cX7_crop 103 = .ok (.putfield 194, 3) := by decide +kernel
theorem dX7_crop_106 : decode cX7_crop 106 = .ok (.return_, 1) := by decide +kernel
set_option maxRecDepth 20000 in
theorem ggX7_out_X7_in : GoodIn wsX7_out wsX7_in := goodIn_r _ [10] (by decide +kernel) (by decide +kernel)
set_option maxRecDepth 20000 in
theorem gX7_out_X7_in : GoodIn wsX7_out (va_wsS RX7 96 yX7_in wsX7_in) := goodIn_app (goodIn_of _ (by decide +kernel)) ggX7_out_X7_in
theorem dX7_out_0 : decode cX7_out 0 = .ok (.aload_n 0, 1) := by decide +kernel
theorem dX7_out_1 : decode cX7_out 1 = .ok (.iconst 0, 1) := by decide +kernel
theorem dX7_out_2 : decode cX7_out 2 = .ok (.putfield 69, 3) := by decide +kernel
theorem dX7_out_5 : decode cX7_out 5 = .ok (.aload_n 0, 1) := by decide +kernel
theorem dX7_out_6 : decode cX7_out 6 = .ok (.getfield 60, 3) := by decide +kernel
theorem dX7_out_9 : decode cX7_out 9 = .ok (.iconst 2, 1) := by decide +kernel
theorem dX7_out_10 : decode cX7_out 10 = .ok (.if_icmp .ne 6, 3) := by decide +kernel
theorem dX7_out_13 : decode cX7_out 13 = .ok (.bipush (-11), 2) := by decide +kernel
theorem dX7_out_15 : decode cX7_out 15 = .ok (.ireturn, 1) := by decide +kernel
theorem dX7_out_16 : decode cX7_out 16 = .ok (.iload_n 1, 1) := by decide +kernel
theorem dX7_out_17 : decode cX7_out 17 = .ok (.tableswitch 42 (-3) (-1) #[37, 32, 27], 27) := by decide +kernel
theorem dX7_out_44 : decode cX7_out 44 = .ok (.aload_n 0, 1) := by decide +kernel
theorem dX7_out_45 : decode cX7_out 45 = .ok (.getfield 194, 3) := by decide +kernel
theorem dX7_out_48 : decode cX7_out 48 = .ok (.ireturn, 1) := by decide +kernel
theorem dX7_out_49 : decode cX7_out 49 = .ok (.aload_n 0, 1) := by decide +kernel
theorem dX7_out_50 : decode cX7_out 50 = .ok (.getfield 197, 3) := by decide +kernel
theorem dX7_out_53 : decode cX7_out 53 = .ok (.ireturn, 1) := by decide +kernel
theorem dX7_out_54 : decode cX7_out 54 = .ok (.aload_n 0, 1) := by decide +kernel
theorem dX7_out_55 : decode cX7_out 55 = .ok (.getfield 200, 3) := by decide +kernel
theorem dX7_out_58 : decode cX7_out 58 = .ok (.ireturn, 1) := by decide +kernel
theorem dX7_out_59 : decode cX7_out 59 = .ok (.iload_n 1, 1) := by decide +kernel
theorem dX7_out_60 : decode cX7_out 60 = .ok (.i2l, 1) := by decide +kernel
theorem dX7_out_61 : decode cX7_out 61 = .ok (.lconst 0, 1) := by decide +kernel
theorem dX7_out_62 : decode cX7_out 62 = .ok (.aload_n 0, 1) := by decide +kernel
theorem dX7_out_63 : decode cX7_out 63 = .ok (.getfield 194, 3) := by decide +kernel
theorem dX7_out_66 : decode cX7_out 66 = .ok (.iconst 1, 1) := by decide +kernel
theorem dX7_out_67 : decode cX7_out 67 = .ok (.isub, 1) := by decide +kernel
theorem dX7_out_68 : decode cX7_out 68 = .ok (.i2l, 1) := by decide +kernel
theorem dX7_out_69 : decode cX7_out 69 = .ok (.invokestatic 96, 3) := by decide +kernel
theorem dX7_out_72 : decode cX7_out 72 = .ok (.ifCond .eq 12, 3) := by decide +kernel
theorem dX7_out_75 : decode cX7_out 75 = .ok (.aload_n 0, 1) := by decide +kernel
theorem dX7_out_76 : decode cX7_out 76 = .ok (.getfield 63, 3) := by decide +kernel
theorem dX7_out_79 : decode cX7_out 79 = .ok (.iload_n 1, 1) := by decide +kernel
theorem dX7_out_80 : decode cX7_out 80 = .ok (.iaload, 1) := by decide +kernel
theorem dX7_out_81 : decode cX7_out 81 = .ok (.goto 5, 3) := by decide +kernel
theorem dX7_out_84 : decode cX7_out 84 = .ok (.bipush (-13), 2) := by decide +kernel
theorem dX7_out_86 : decode cX7_out 86 = .ok (.ireturn, 1) := by decide +kernel
set_option maxRecDepth 20000 in
theorem ggX7_like_X7_isRow : GoodIn wsX7_like wsX7_isRow := goodIn_r _ [16, 17, 18, 19, 15, 20, 21, 22, 23, 24, 25, 26, 27, 28, 29, 30, 31, 32, 33, 34, 35, 36, 37, 38, 39, 40, 41, 42, 43, 44, 45, 46, 47, 48, 49, 50] (by decide +kernel) (by decide +kernel)
set_option maxRecDepth 20000 in
theorem gX7_like_X7_isRow : GoodIn wsX7_like (wsV RX7 110 RX7 yX7_isRow wsX7_isRow) := goodIn_app (goodIn_of _ (by decide +kernel)) ggX7_like_X7_isRow
theorem dX7_like_0 : decode cX7_like 0 = .ok (.aload_n 0, 1) := by decide +kernel
theorem dX7_like_1 : decode cX7_like 1 = .ok (.iconst 0, 1) := by decide +kernel
theorem dX7_like_2 : decode cX7_like 2 = .ok (.putfield 69, 3) := by decide +kernel
theorem dX7_like_5 : decode cX7_like 5 = .ok (.aload_n 0, 1) := by decide +kernel
theorem dX7_like_6 : decode cX7_like 6 = .ok (.iload_n 1, 1) := by decide +kernel
theorem dX7_like_7 : decode cX7_like 7 = .ok (.invokevirtual 110, 3) := by decide +kernel
theorem dX7_like_10 : decode cX7_like 10 = .ok (.ifCond .ne 5, 3) := by decide +kernel
theorem dX7_like_13 : decode cX7_like 13 = .ok (.iconst (-1), 1) := by decide +kernel
theorem dX7_like_14 : decode cX7_like 14 = .ok (.ireturn, 1) := by decide +kernel
theorem dX7_like_15 : decode cX7_like 15 = .ok (.aload_n 0, 1) := by decide +kernel
theorem dX7_like_16 : decode cX7_like 16 = .ok (.getfield 60, 3) := by decide +kernel
theorem dX7_like_19 : decode cX7_like 19 = .ok (.aload_n 0, 1) := by decide +kernel
theorem dX7_like_20 : decode cX7_like 20 = .ok (.getfield 7, 3) := by decide +kernel
theorem dX7_like_23 : decode cX7_like 23 = .ok (.iload_n 1, 1) := by decide +kernel
theorem dX7_like_24 : decode cX7_like 24 = .ok (.iaload, 1) := by decide +kernel
theorem dX7_like_25 : decode cX7_like 25 = .ok (.if_icmp .ne 50, 3) := by decide +kernel
theorem dX7_like_28 : decode cX7_like 28 = .ok (.aload_n 0, 1) := by decide +kernel
theorem dX7_like_29 : decode cX7_like 29 = .ok (.getfield 60, 3) := by decide +kernel
theorem dX7_like_32 : decode cX7_like 32 = .ok (.iconst 2, 1) := by decide +kernel
theorem dX7_like_33 : decode cX7_like 33 = .ok (.if_icmp .eq 44, 3) := by decide +kernel
theorem dX7_like_36 : decode cX7_like 36 = .ok (.aload_n 0, 1) := by decide +kernel
theorem dX7_like_37 : decode cX7_like 37 = .ok (.getfield 194, 3) := by decide +kernel
theorem dX7_like_40 : decode cX7_like 40 = .ok (.aload_n 0, 1) := by decide +kernel
theorem dX7_like_41 : decode cX7_like 41 = .ok (.getfield 19, 3) := by decide +kernel
theorem dX7_like_44 : decode cX7_like 44 = .ok (.iload_n 1, 1) := by decide +kernel
theorem dX7_like_45 : decode cX7_like 45 = .ok (.iaload, 1) := by decide +kernel
theorem dX7_like_46 : decode cX7_like 46 = .ok (.if_icmp .ne 29, 3) := by decide +kernel
theorem dX7_like_49 : decode cX7_like 49 = .ok (.aload_n 0, 1) := by decide +kernel
theorem dX7_like_50 : decode cX7_like 50 = .ok (.getfield 197, 3) := by decide +kernel
theorem dX7_like_53 : decode cX7_like 53 = .ok (.aload_n 0, 1) := by decide +kernel
theorem dX7_like_54 : decode cX7_like 54 = .ok (.getfield 22, 3) := by decide +kernel
theorem dX7_like_57 : decode cX7_like 57 = .ok (.iload_n 1, 1) := by decide +kernel
theorem dX7_like_58 : decode cX7_like 58 = .ok (.iaload, 1) := by decide +kernel
theorem dX7_like_59 : decode cX7_like 59 = .ok (.if_icmp .ne 16, 3) := by decide +kernel
theorem dX7_like_62 : decode cX7_like 62 = .ok (.aload_n 0, 1) := by decide +kernel
theorem dX7_like_63 : decode cX7_like 63 = .ok (.getfield 200, 3) := by decide +kernel
theorem dX7_like_66 : decode cX7_like 66 = .ok (.aload_n 0, 1) := by decide +kernel
theorem dX7_like_67 : decode cX7_like 67 = .ok (.getfield 25, 3) := by decide +kernel
theorem dX7_like_70 : decode cX7_like 70 = .ok (.iload_n 1, 1) := by decide +kernel
theorem dX7_like_71 : decode cX7_like 71 = .ok (.iaload, 1) := by decide +kernel
theorem dX7_like_72 : decode cX7_like 72 = .ok (.if_icmp .eq 5, 3) := by decide +kernel
theorem dX7_like_75 : decode cX7_like 75 = .ok (.iconst 0, 1) := by decide +kernel
theorem dX7_like_76 : decode cX7_like 76 = .ok (.ireturn, 1) := by decide +kernel
theorem dX7_like_77 : decode cX7_like 77 = .ok (.iconst 0, 1) := by decide +kernel
theorem dX7_like_78 : decode cX7_like 78 = .ok (.istore_n 2, 1) := by decide +kernel
theorem dX7_like_79 : decode cX7_like 79 = .ok (.iload_n 2, 1) := by decide +kernel
theorem dX7_like_80 : decode cX7_like 80 = .ok (.aload_n 0, 1) := by decide +kernel
theorem dX7_like_81 : decode cX7_like 81 = .ok (.getfield 19, 3) := by decide +kernel
theorem dX7_like_84 : decode cX7_like 84 = .ok (.iload_n 1, 1) := by decide +kernel
theorem dX7_like_85 : decode cX7_like 85 = .ok (.iaload, 1) := by decide +kernel
theorem dX7_like_86 : decode cX7_like 86 = .ok (.if_icmp .ge 32, 3) := by decide +kernel
theorem dX7_like_89 : decode cX7_like 89 = .ok (.aload_n 0, 1) := by decide +kernel
theorem dX7_like_90 : decode cX7_like 90 = .ok (.getfield 63, 3) := by decide +kernel
theorem dX7_like_93 : decode cX7_like 93 = .ok (.iload_n 2, 1) := by decide +kernel
theorem dX7_like_94 : decode cX7_like 94 = .ok (.iaload, 1) := by decide +kernel
theorem dX7_like_95 : decode cX7_like 95 = .ok (.aload_n 0, 1) := by decide +kernel
theorem dX7_like_96 : decode cX7_like 96 = .ok (.getfield 29, 3) := by decide +kernel
theorem dX7_like_99 : decode cX7_like 99 = .ok (.sipush 1600, 3) := by decide +kernel
theorem dX7_like_102 : decode cX7_like 102 = .ok (.iload_n 1, 1) := by decide +kernel
theorem dX7_like_103 : decode cX7_like 103 = .ok (.imul, 1) := by decide +kernel
theorem dX7_like_104 : decode cX7_like 104 = .ok (.iload_n 2, 1) := by decide +kernel
theorem dX7_like_105 : decode cX7_like 105 = .ok (.iadd, 1) := by decide +kernel
theorem dX7_like_106 : decode cX7_like 106 = .ok (.iaload, 1) := by decide +kernel
theorem dX7_like_107 : decode cX7_like 107 = .ok (.if_icmp .eq 5, 3) := by decide +kernel
theorem dX7_like_110 : decode cX7_like 110 = .ok (.iconst 0, 1) := by decide +kernel
theorem dX7_like_111 : decode cX7_like 111 = .ok (.ireturn, 1) := by decide +kernel
theorem dX7_like_112 : decode cX7_like 112 = .ok (.iinc 2 1, 3) := by decide +kernel
theorem dX7_like_115 : decode cX7_like 115 = .ok (.goto (-36), 3) := by decide +kernel
theorem dX7_like_118 : decode cX7_like 118 = .ok (.iconst 1, 1) := by decide +kernel
theorem dX7_like_119 : decode cX7_like 119 = .ok (.ireturn, 1) := by decide +kernel
theorem dJ9_max_7cf53_0 : decode cJ9_max_7cf53 0 = .ok (.iload_n 0, 1) := by decide +kernel
theorem dJ9_max_7cf53_1 : decode cJ9_max_7cf53 1 = .ok (.iload_n 1, 1) := by decide +kernel
theorem dJ9_max_7cf53_2 : decode cJ9_max_7cf53 2 = .ok (.if_icmp .lt 7, 3) := by decide +kernel
theorem dJ9_max_7cf53_5 : decode cJ9_max_7cf53 5 = .ok (.iload_n 0, 1) := by decide +kernel
theorem dJ9_max_7cf53_6 : decode cJ9_max_7cf53 6 = .ok (.goto 4, 3) := by decide +kernel
theorem dJ9_max_7cf53_9 : decode cJ9_max_7cf53 9 = .ok (.iload_n 1, 1) := by decide +kernel
theorem dJ9_max_7cf53_10 : decode cJ9_max_7cf53 10 = .ok (.ireturn, 1) := by decide +kernel
theorem dJ9_min_7cf53_0 : decode cJ9_min_7cf53 0 = .ok (.iload_n 0, 1) := by decide +kernel
theorem dJ9_min_7cf53_1 : decode cJ9_min_7cf53 1 = .ok (.iload_n 1, 1) := by decide +kernel
theorem dJ9_min_7cf53_2 : decode cJ9_min_7cf53 2 = .ok (.if_icmp .gt 7, 3) := by decide +kernel
theorem dJ9_min_7cf53_5 : decode cJ9_min_7cf53 5 = .ok (.iload_n 0, 1) := by decide +kernel
theorem dJ9_min_7cf53_6 : decode cJ9_min_7cf53 6 = .ok (.goto 4, 3) := by decide +kernel
theorem dJ9_min_7cf53_9 : decode cJ9_min_7cf53 9 = .ok (.iload_n 1, 1) := by decide +kernel
theorem dJ9_min_7cf53_10 : decode cJ9_min_7cf53 10 = .ok (.ireturn, 1) := by decide +kernel
set_option maxRecDepth 20000 in
theorem ggL_count_X6_count : GoodIn wsL_count wsX6_count := goodIn_ca (goodIn_r _ [6, 7, 8, 9, 10, 11, 12, 13, 14, 15, 16, 17, 18, 19, 20, 21, 22, 23, 24, 25, 26, 27, 28, 29, 30, 31, 32, 33, 34] (by decide +kernel) (by decide +kernel)) (goodIn_sub (fun _ h => List.mem_cons_of_mem _ (List.mem_append_right _ h)) (by decide +kernel))
set_option maxRecDepth 20000 in
theorem gL_count_X6_count : GoodIn wsL_count (wsV RL 7 RX6 yX6_count wsX6_count) := goodIn_app (goodIn_of _ (by decide +kernel)) ggL_count_X6_count
theorem dL_count_0 : decode cL_count 0 = .ok (.aload_n 1, 1) := by decide +kernel
theorem dL_count_1 : decode cL_count 1 = .ok (.iconst 0, 1) := by decide +kernel
theorem dL_count_2 : decode cL_count 2 = .ok (.aload_n 0, 1) := by decide +kernel
theorem dL_count_3 : decode cL_count 3 = .ok (.invokevirtual 7, 3) := by decide +kernel
theorem dL_count_6 : decode cL_count 6 = .ok (.i2l, 1) := by decide +kernel
theorem dL_count_7 : decode cL_count 7 = .ok (.lastore, 1) := by decide +kernel
theorem dL_count_8 : decode cL_count 8 = .ok (.goto 6, 3) := by decide +kernel
theorem dL_count_11 : decode cL_count 11 = .ok (.astore_n 2, 1) := by decide +kernel
theorem dL_count_12 : decode cL_count 12 = .ok (.iconst 1, 1) := by decide +kernel
theorem dL_count_13 : decode cL_count 13 = .ok (.ireturn, 1) := by decide +kernel
theorem dL_count_14 : decode cL_count 14 = .ok (.iconst 0, 1) := by decide +kernel
theorem dL_count_15 : decode cL_count 15 = .ok (.ireturn, 1) := by decide +kernel
set_option maxRecDepth 20000 in
theorem ggL_law_X6_init : GoodIn wsL_law wsX6_init := goodIn_r _ [10, 11, 12, 13, 14, 15, 16, 17, 18, 19, 20, 21, 22, 23, 24, 25, 26, 27, 28, 29, 30, 31, 32, 33, 34, 35, 36, 37, 38, 39, 40, 41, 42, 43, 44, 45, 46, 47, 48, 49, 50, 51, 52, 53, 54, 55, 56, 57, 58, 59, 60, 61, 62, 63, 64, 65, 66, 67, 68, 69, 70, 71, 72, 73, 74, 75, 76, 77, 78, 79, 80, 81, 82, 83, 84, 640, 641, 642, 643, 602, 603, 604, 605, 606, 607, 608, 609, 644, 645, 646, 647, 648, 649, 650, 651, 652, 653, 654, 655, 656, 657, 658, 659, 660, 661, 662, 663, 664] (by decide +kernel) (by decide +kernel)
set_option maxRecDepth 20000 in
theorem gL_law_X6_init : GoodIn wsL_law (wsX6_init) := ggL_law_X6_init
set_option maxRecDepth 20000 in
theorem ggL_law_X7_init : GoodIn wsL_law wsX7_init := goodIn_r _ [87, 88, 12, 13, 42, 89, 90, 91, 92, 93, 94, 95, 96, 97, 98, 99, 100, 101, 102, 103, 104, 105, 106, 107, 108, 610, 611, 612, 613, 614, 615, 616, 617, 618, 619, 620, 621, 622, 623, 624, 625, 626, 627, 628, 629, 630, 631, 632, 633, 634, 635, 636, 637, 638, 639] (by decide +kernel) (by decide +kernel)
set_option maxRecDepth 20000 in
theorem gL_law_X7_init : GoodIn wsL_law (wsX7_init) := ggL_law_X7_init
set_option maxRecDepth 20000 in
theorem ggL_law_X6_row : GoodIn wsL_law wsX6_row := goodIn_r _ [112, 17, 30, 31, 32, 113, 114, 2, 115, 116, 117, 118, 119, 120, 121, 16, 122, 45, 72, 73, 74, 75, 12, 13, 76, 77, 78, 79, 42, 80, 81, 82, 83, 84, 123, 124, 125, 126, 41, 127, 128, 129, 130, 131, 43, 44, 132, 133, 134, 135, 602, 603, 604, 605, 606, 607, 608, 609, 660, 661, 662, 663, 664, 640, 641, 642, 643] (by decide +kernel) (by decide +kernel)
set_option maxRecDepth 20000 in
theorem gL_law_X6_row : GoodIn wsL_law (wsV RL 19 RX6 yX6_row wsX6_row) := goodIn_app (goodIn_of _ (by decide +kernel)) ggL_law_X6_row
set_option maxRecDepth 20000 in
theorem ggL_law_X7_row : GoodIn wsL_law wsX7_row := goodIn_r _ [139, 140, 141, 142, 143, 5, 144, 145, 146, 147, 89, 90, 91, 93, 94, 92, 96, 148, 149, 150, 610, 611, 612, 613, 614, 615, 616, 617, 618, 619, 620, 621, 622, 623, 624, 625, 626, 627, 628, 629, 630, 631, 632, 633, 634, 635, 636, 637, 638, 639] (by decide +kernel) (by decide +kernel)
set_option maxRecDepth 20000 in
theorem gL_law_X7_row : GoodIn wsL_law (wsV RL 23 RX7 yX7_row wsX7_row) := goodIn_app (goodIn_of _ (by decide +kernel)) ggL_law_X7_row
set_option maxRecDepth 20000 in
theorem ggL_law_X6_picture : GoodIn wsL_law wsX6_picture := goodIn_r _ [154, 17, 30, 31, 32, 155, 156, 2, 157, 113, 114, 115, 116, 117, 118, 119, 120, 121, 16, 122, 45, 72, 73, 74, 75, 12, 13, 76, 77, 78, 79, 42, 80, 81, 82, 83, 84, 123, 124, 125, 126, 41, 127, 128, 129, 130, 131, 43, 44, 132, 133, 134, 135, 602, 603, 604, 605, 606, 607, 608, 609, 660, 661, 662, 663, 664, 640, 641, 642, 643] (by decide +kernel) (by decide +kernel)
set_option maxRecDepth 20000 in
theorem gL_law_X6_picture : GoodIn wsL_law (wsV RL 24 RX6 yX6_picture wsX6_picture) := goodIn_app (goodIn_of _ (by decide +kernel)) ggL_law_X6_picture
set_option maxRecDepth 20000 in
theorem ggL_law_X7_picture : GoodIn wsL_law wsX7_picture := goodIn_r _ [161, 140, 162, 148, 149, 5, 150, 141, 142, 143, 144, 145, 146, 147, 89, 90, 91, 93, 94, 92, 96, 610, 611, 612, 613, 614, 615, 616, 617, 618, 619, 620, 621, 622, 623, 624, 625, 626, 627, 628, 629, 630, 631, 632, 633, 634, 635, 636, 637, 638, 639] (by decide +kernel) (by decide +kernel)
set_option maxRecDepth 20000 in
theorem gL_law_X7_picture : GoodIn wsL_law (wsV RL 28 RX7 yX7_picture wsX7_picture) := goodIn_app (goodIn_of _ (by decide +kernel)) ggL_law_X7_picture
set_option maxRecDepth 20000 in
theorem ggL_law_X6_word : GoodIn wsL_law wsX6_word := goodIn_r _ [166, 17, 167, 168, 169, 16, 170, 41, 132, 133, 134, 135, 45, 171, 172, 173, 32, 174, 84, 80, 602, 603, 604, 605, 606, 607, 608, 609, 660, 661, 662, 663, 664, 640, 641, 642, 643] (by decide +kernel) (by decide +kernel)
set_option maxRecDepth 20000 in
theorem gL_law_X6_word : GoodIn wsL_law (wsV RL 29 RX6 yX6_word wsX6_word) := goodIn_app (goodIn_of _ (by decide +kernel)) ggL_law_X6_word
set_option maxRecDepth 20000 in
theorem ggL_law_X7_word : GoodIn wsL_law wsX7_word := goodIn_r _ [178, 140, 89, 92, 96, 179, 180, 181, 5, 182, 147, 148, 149, 150, 610, 611, 612, 613, 614, 615, 616, 617, 618, 619, 620, 621, 622, 623, 624, 625, 626, 627, 628, 629, 630, 631, 632, 633, 634, 635, 636, 637, 638, 639] (by decide +kernel) (by decide +kernel)
set_option maxRecDepth 20000 in
theorem gL_law_X7_word : GoodIn wsL_law (wsV RL 33 RX7 yX7_word wsX7_word) := goodIn_app (goodIn_of _ (by decide +kernel)) ggL_law_X7_word
set_option maxRecDepth 20000 in
theorem ggL_law_X6_paint : GoodIn wsL_law wsX6_paint := goodIn_r _ [186, 17, 187, 188, 78, 189, 167, 168, 169, 16, 170, 41, 132, 133, 134, 135, 45, 190, 191, 192, 32, 193, 84, 80, 194, 195, 196, 197, 198, 602, 603, 604, 605, 606, 607, 608, 609, 660, 661, 662, 663, 664, 640, 641, 642, 643] (by decide +kernel) (by decide +kernel)
set_option maxRecDepth 20000 in
theorem gL_law_X6_paint : GoodIn wsL_law (wsV RL 36 RX6 yX6_paint wsX6_paint) := goodIn_app (goodIn_of _ (by decide +kernel)) ggL_law_X6_paint
set_option maxRecDepth 20000 in
theorem ggL_law_X7_paint : GoodIn wsL_law wsX7_paint := goodIn_r _ [202, 140, 89, 92, 96, 203, 179, 180, 181, 5, 182, 147, 148, 149, 150, 610, 611, 612, 613, 614, 615, 616, 617, 618, 619, 620, 621, 622, 623, 624, 625, 626, 627, 628, 629, 630, 631, 632, 633, 634, 635, 636, 637, 638, 639] (by decide +kernel) (by decide +kernel)
set_option maxRecDepth 20000 in
theorem gL_law_X7_paint : GoodIn wsL_law (wsV RL 40 RX7 yX7_paint wsX7_paint) := goodIn_app (goodIn_of _ (by decide +kernel)) ggL_law_X7_paint
set_option maxRecDepth 20000 in
theorem ggL_law_X6_mark : GoodIn wsL_law wsX6_mark := goodIn_r _ [207, 17, 208, 133, 134, 16, 135, 45, 113, 114, 2, 115, 116, 117, 118, 209, 129, 130, 131, 43, 44, 132, 602, 603, 604, 605, 606, 607, 608, 609, 640, 641, 642, 643] (by decide +kernel) (by decide +kernel)
set_option maxRecDepth 20000 in
theorem gL_law_X6_mark : GoodIn wsL_law (wsV RL 41 RX6 yX6_mark wsX6_mark) := goodIn_app (goodIn_of _ (by decide +kernel)) ggL_law_X6_mark
set_option maxRecDepth 20000 in
theorem ggL_law_X7_mark : GoodIn wsL_law wsX7_mark := goodIn_r _ [213, 140, 145, 146, 90, 91, 179, 180, 181, 5, 182, 147, 148, 149, 150, 610, 611, 612, 613, 614, 615, 616, 617, 618, 619, 620, 621, 622, 623, 624, 625, 626, 627, 628, 629, 630, 631, 632, 633, 634, 635, 636, 637, 638, 639] (by decide +kernel) (by decide +kernel)
set_option maxRecDepth 20000 in
theorem gL_law_X7_mark : GoodIn wsL_law (wsV RL 44 RX7 yX7_mark wsX7_mark) := goodIn_app (goodIn_of _ (by decide +kernel)) ggL_law_X7_mark
set_option maxRecDepth 20000 in
theorem ggL_law_X6_of : GoodIn wsL_law wsX6_of := goodIn_r _ [217, 17, 167, 168, 169, 16, 170, 41, 132, 133, 134, 135, 45, 218, 219, 220, 221, 43, 222, 223, 224, 225, 44, 602, 603, 604, 605, 606, 607, 608, 609, 660, 661, 662, 663, 664, 640, 641, 642, 643] (by decide +kernel) (by decide +kernel)
set_option maxRecDepth 20000 in
theorem gL_law_X6_of : GoodIn wsL_law (wsV RL 45 RX6 yX6_of wsX6_of) := goodIn_app (goodIn_of _ (by decide +kernel)) ggL_law_X6_of
set_option maxRecDepth 20000 in
theorem ggL_law_X7_of : GoodIn wsL_law wsX7_of := goodIn_r _ [229, 140, 89, 90, 91, 92, 93, 94, 179, 180, 181, 5, 182, 147, 148, 149, 150, 610, 611, 612, 613, 614, 615, 616, 617, 618, 619, 620, 621, 622, 623, 624, 625, 626, 627, 628, 629, 630, 631, 632, 633, 634, 635, 636, 637, 638, 639] (by decide +kernel) (by decide +kernel)
set_option maxRecDepth 20000 in
theorem gL_law_X7_of : GoodIn wsL_law (wsV RL 48 RX7 yX7_of wsX7_of) := goodIn_app (goodIn_of _ (by decide +kernel)) ggL_law_X7_of
set_option maxRecDepth 20000 in
theorem ggL_law_X6_seed : GoodIn wsL_law wsX6_seed := goodIn_r _ [233, 21, 602, 603, 604, 605, 606, 607, 608, 609, 644, 645, 646, 647, 648] (by decide +kernel) (by decide +kernel)
set_option maxRecDepth 20000 in
theorem gL_law_X6_seed : GoodIn wsL_law (wsV RL 49 RX6 yX6_seed wsX6_seed) := goodIn_app (goodIn_of _ (by decide +kernel)) ggL_law_X6_seed
set_option maxRecDepth 20000 in
theorem ggL_law_X7_seed : GoodIn wsL_law wsX7_seed := goodIn_r _ [237, 140, 238, 610, 611, 612, 613, 614, 615, 616, 617, 618, 619, 620, 621, 622, 623, 624, 625, 626, 627, 628, 629, 630, 631, 632, 633, 634, 635, 636, 637, 638, 639] (by decide +kernel) (by decide +kernel)
set_option maxRecDepth 20000 in
theorem gL_law_X7_seed : GoodIn wsL_law (wsV RL 53 RX7 yX7_seed wsX7_seed) := goodIn_app (goodIn_of _ (by decide +kernel)) ggL_law_X7_seed
set_option maxRecDepth 20000 in
theorem ggL_law_X6_set : GoodIn wsL_law wsX6_set := goodIn_r _ [242, 21, 243, 244, 245, 20, 246, 247, 248, 249, 250, 50, 51, 52, 53, 602, 603, 604, 605, 606, 607, 608, 609, 644, 645, 646, 647, 648] (by decide +kernel) (by decide +kernel)
set_option maxRecDepth 20000 in
theorem gL_law_X6_set : GoodIn wsL_law (wsV RL 54 RX6 yX6_set wsX6_set) := goodIn_app (goodIn_of _ (by decide +kernel)) ggL_law_X6_set
set_option maxRecDepth 20000 in
theorem ggL_law_X7_set : GoodIn wsL_law wsX7_set := goodIn_r _ [254, 140, 255, 97, 256, 98, 99, 257, 148, 149, 5, 150, 610, 611, 612, 613, 614, 615, 616, 617, 618, 619, 620, 621, 622, 623, 624, 625, 626, 627, 628, 629, 630, 631, 632, 633, 634, 635, 636, 637, 638, 639] (by decide +kernel) (by decide +kernel)
set_option maxRecDepth 20000 in
theorem gL_law_X7_set : GoodIn wsL_law (wsV RL 57 RX7 yX7_set wsX7_set) := goodIn_app (goodIn_of _ (by decide +kernel)) ggL_law_X7_set
set_option maxRecDepth 20000 in
theorem ggL_law_L_count : GoodIn wsL_law wsL_count := goodIn_ca (goodIn_r _ [261, 262, 263, 264, 265, 2, 266, 267, 268, 21, 17, 269, 270, 271, 20, 272, 50, 53, 602, 603, 604, 605, 606, 607, 608, 609, 644, 645, 646, 647, 648, 640, 641, 642, 643] (by decide +kernel) (by decide +kernel)) (goodIn_sub (fun _ h => List.mem_append_right _ h) (by decide +kernel))
set_option maxRecDepth 20000 in
theorem gL_law_L_count : GoodIn wsL_law (va_wsS RL 58 yL_count wsL_count) := goodIn_app (goodIn_of _ (by decide +kernel)) ggL_law_L_count
set_option maxRecDepth 20000 in
theorem ggL_law_X7_count : GoodIn wsL_law wsX7_count := goodIn_r _ [276, 97, 140, 257, 147, 610, 611, 612, 613, 614, 615, 616, 617, 618, 619, 620, 621, 622, 623, 624, 625, 626, 627, 628, 629, 630, 631, 632, 633, 634, 635, 636, 637, 638, 639] (by decide +kernel) (by decide +kernel)
set_option maxRecDepth 20000 in
theorem gL_law_X7_count : GoodIn wsL_law (wsV RL 63 RX7 yX7_count wsX7_count) := goodIn_app (goodIn_of _ (by decide +kernel)) ggL_law_X7_count
set_option maxRecDepth 20000 in
theorem ggL_law_X7_thrown : GoodIn wsL_law wsX7_thrown := goodIn_r _ [280, 140, 610, 611, 612, 613, 614, 615, 616, 617, 618, 619, 620, 621, 622, 623, 624, 625, 626, 627, 628, 629, 630, 631, 632, 633, 634, 635, 636, 637, 638, 639] (by decide +kernel) (by decide +kernel)
set_option maxRecDepth 20000 in
theorem gL_law_X7_thrown : GoodIn wsL_law (wsV RL 64 RX7 yX7_thrown wsX7_thrown) := goodIn_app (goodIn_of _ (by decide +kernel)) ggL_law_X7_thrown
set_option maxRecDepth 20000 in
theorem ggL_law_X6_batch : GoodIn wsL_law wsX6_batch := goodIn_r _ [284, 21, 29, 285, 286, 2, 287, 288, 289, 290, 291, 292, 293, 28, 294, 69, 295, 188, 78, 189, 63, 296, 297, 298, 16, 299, 45, 300, 223, 224, 225, 44, 132, 133, 134, 135, 301, 302, 303, 304, 71, 70, 305, 306, 307, 24, 308, 57, 309, 310, 311, 312, 313, 314, 315, 316, 317, 318, 319, 320, 321, 322, 62, 323, 324, 325, 326, 327, 328, 329, 330, 331, 332, 333, 334, 335, 77, 79, 336, 337, 338, 339, 340, 341, 342, 343, 344, 168, 169, 170, 41, 345, 346, 347, 348, 349, 350, 351, 352, 353, 354, 355, 356, 357, 358, 66, 67, 65, 359, 360, 361, 362, 68, 363, 219, 220, 221, 43, 364, 365, 366, 367, 64, 368, 369, 370, 371, 372, 373, 374, 375, 376, 377, 378, 379, 17, 269, 270, 271, 20, 272, 50, 53, 380, 381, 382, 383, 602, 603, 604, 605, 606, 607, 608, 609, 644, 645, 646, 647, 648, 650, 651, 652, 653, 654, 655, 656, 657, 658, 659, 640, 641, 642, 643, 649, 660, 661, 662, 663, 664] (by decide +kernel) (by decide +kernel)
set_option maxRecDepth 20000 in
theorem gL_law_X6_batch : GoodIn wsL_law (wsV RL 67 RX6 yX6_batch wsX6_batch) := goodIn_app (goodIn_of _ (by decide +kernel)) ggL_law_X6_batch
set_option maxRecDepth 20000 in
theorem ggL_law_X7_batch : GoodIn wsL_law wsX7_batch := goodIn_r _ [387, 140, 97, 100, 388, 389, 390, 5, 391, 392, 146, 148, 149, 150, 393, 394, 395, 396, 147, 397, 398, 399, 400, 238, 401, 402, 403, 404, 405, 406, 407, 408, 409, 410, 411, 412, 413, 414, 415, 416, 417, 418, 419, 420, 421, 422, 423, 98, 92, 424, 425, 426, 427, 91, 428, 429, 430, 431, 432, 433, 434, 435, 102, 103, 105, 90, 104, 101, 436, 437, 438, 439, 440, 441, 442, 443, 444, 99, 445, 446, 447, 448, 257, 610, 611, 612, 613, 614, 615, 616, 617, 618, 619, 620, 621, 622, 623, 624, 625, 626, 627, 628, 629, 630, 631, 632, 633, 634, 635, 636, 637, 638, 639] (by decide +kernel) (by decide +kernel)
set_option maxRecDepth 20000 in
theorem gL_law_X7_batch : GoodIn wsL_law (wsV RL 70 RX7 yX7_batch wsX7_batch) := goodIn_app (goodIn_of _ (by decide +kernel)) ggL_law_X7_batch
set_option maxRecDepth 20000 in
theorem ggL_law_X6_share : GoodIn wsL_law wsX6_share := goodIn_r _ [452, 21, 29, 285, 286, 2, 287, 288, 289, 290, 291, 292, 293, 28, 294, 69, 295, 188, 78, 189, 63, 296, 297, 298, 16, 299, 45, 300, 223, 224, 225, 44, 132, 133, 134, 135, 301, 302, 303, 304, 71, 70, 305, 306, 307, 24, 308, 57, 309, 310, 311, 312, 313, 314, 315, 316, 317, 318, 319, 320, 321, 322, 62, 323, 324, 325, 326, 327, 328, 329, 330, 331, 332, 333, 334, 335, 77, 79, 336, 337, 338, 339, 340, 341, 342, 343, 344, 168, 169, 170, 41, 345, 346, 347, 348, 349, 350, 351, 352, 353, 354, 355, 356, 357, 358, 66, 67, 65, 359, 360, 361, 362, 68, 363, 219, 220, 221, 43, 364, 365, 366, 367, 64, 368, 369, 370, 371, 372, 373, 374, 375, 376, 377, 378, 379, 17, 269, 270, 271, 20, 272, 50, 53, 380, 381, 382, 383, 602, 603, 604, 605, 606, 607, 608, 609, 644, 645, 646, 647, 648, 650, 651, 652, 653, 654, 655, 656, 657, 658, 659, 640, 641, 642, 643, 649, 660, 661, 662, 663, 664] (by decide +kernel) (by decide +kernel)
set_option maxRecDepth 20000 in
theorem gL_law_X6_share : GoodIn wsL_law (wsV RL 71 RX6 yX6_share wsX6_share) := goodIn_app (goodIn_of _ (by decide +kernel)) ggL_law_X6_share
set_option maxRecDepth 20000 in
theorem ggL_law_X7_share : GoodIn wsL_law wsX7_share := goodIn_r _ [456, 140, 457, 97, 100, 388, 389, 390, 5, 391, 392, 146, 148, 149, 150, 393, 394, 395, 396, 147, 397, 398, 399, 400, 238, 401, 402, 403, 404, 405, 406, 407, 408, 409, 410, 411, 412, 413, 414, 415, 416, 417, 418, 419, 420, 421, 422, 423, 98, 92, 424, 425, 426, 427, 91, 428, 429, 430, 431, 432, 433, 434, 435, 102, 103, 105, 90, 104, 101, 436, 437, 438, 439, 440, 441, 442, 443, 444, 99, 445, 446, 447, 448, 257, 610, 611, 612, 613, 614, 615, 616, 617, 618, 619, 620, 621, 622, 623, 624, 625, 626, 627, 628, 629, 630, 631, 632, 633, 634, 635, 636, 637, 638, 639] (by decide +kernel) (by decide +kernel)
set_option maxRecDepth 20000 in
theorem gL_law_X7_share : GoodIn wsL_law (wsV RL 75 RX7 yX7_share wsX7_share) := goodIn_app (goodIn_of _ (by decide +kernel)) ggL_law_X7_share
set_option maxRecDepth 20000 in
theorem ggL_law_X6_once : GoodIn wsL_law wsX6_once := goodIn_r _ [461, 29, 285, 286, 2, 287, 288, 289, 290, 291, 292, 293, 28, 294, 69, 295, 188, 78, 189, 63, 296, 297, 298, 16, 299, 45, 300, 223, 224, 225, 44, 132, 133, 134, 135, 301, 302, 303, 304, 71, 70, 305, 306, 307, 24, 308, 57, 309, 310, 311, 312, 313, 314, 315, 316, 317, 318, 319, 320, 321, 322, 62, 323, 324, 325, 326, 327, 328, 329, 330, 331, 332, 333, 334, 335, 77, 79, 336, 337, 338, 339, 340, 341, 342, 343, 344, 168, 169, 170, 41, 345, 346, 347, 348, 349, 350, 351, 352, 353, 354, 355, 356, 357, 358, 66, 67, 65, 359, 360, 361, 362, 68, 363, 219, 220, 221, 43, 364, 365, 366, 367, 64, 368, 369, 370, 371, 372, 373, 374, 375, 462, 463, 464, 465, 602, 603, 604, 605, 606, 607, 608, 609, 650, 651, 652, 653, 654, 655, 656, 657, 658, 659, 640, 641, 642, 643, 644, 645, 646, 647, 648, 649, 660, 661, 662, 663, 664] (by decide +kernel) (by decide +kernel)
set_option maxRecDepth 20000 in
theorem gL_law_X6_once : GoodIn wsL_law (wsV RL 76 RX6 yX6_once wsX6_once) := goodIn_app (goodIn_of _ (by decide +kernel)) ggL_law_X6_once
set_option maxRecDepth 20000 in
theorem ggL_law_X7_once : GoodIn wsL_law wsX7_once := goodIn_r _ [469, 140, 147, 101, 100, 388, 389, 390, 5, 391, 392, 146, 148, 149, 150, 393, 394, 395, 396, 397, 398, 399, 400, 238, 401, 402, 403, 404, 405, 406, 407, 408, 409, 410, 411, 412, 413, 414, 415, 416, 417, 418, 419, 420, 421, 422, 423, 98, 92, 424, 425, 426, 427, 91, 428, 429, 430, 431, 432, 433, 434, 435, 102, 103, 105, 90, 104, 436, 437, 438, 439, 440, 441, 442, 443, 444, 99, 610, 611, 612, 613, 614, 615, 616, 617, 618, 619, 620, 621, 622, 623, 624, 625, 626, 627, 628, 629, 630, 631, 632, 633, 634, 635, 636, 637, 638, 639] (by decide +kernel) (by decide +kernel)
set_option maxRecDepth 20000 in
theorem gL_law_X7_once : GoodIn wsL_law (wsV RL 79 RX7 yX7_once wsX7_once) := goodIn_app (goodIn_of _ (by decide +kernel)) ggL_law_X7_once
set_option maxRecDepth 20000 in
theorem ggL_law_X6_resume : GoodIn wsL_law wsX6_resume := goodIn_r _ [473, 17, 34, 35, 36, 285, 286, 2, 287, 288, 289, 290, 602, 603, 604, 605, 606, 607, 608, 609, 640, 641, 642, 643] (by decide +kernel) (by decide +kernel)
set_option maxRecDepth 20000 in
theorem gL_law_X6_resume : GoodIn wsL_law (wsV RL 80 RX6 yX6_resume wsX6_resume) := goodIn_app (goodIn_of _ (by decide +kernel)) ggL_law_X6_resume
set_option maxRecDepth 20000 in
theorem ggL_law_X7_resume : GoodIn wsL_law wsX7_resume := goodIn_r _ [477, 140, 147, 478, 479, 480, 388, 389, 390, 5, 391, 392, 146, 148, 149, 150, 610, 611, 612, 613, 614, 615, 616, 617, 618, 619, 620, 621, 622, 623, 624, 625, 626, 627, 628, 629, 630, 631, 632, 633, 634, 635, 636, 637, 638, 639] (by decide +kernel) (by decide +kernel)
set_option maxRecDepth 20000 in
theorem gL_law_X7_resume : GoodIn wsL_law (wsV RL 83 RX7 yX7_resume wsX7_resume) := goodIn_app (goodIn_of _ (by decide +kernel)) ggL_law_X7_resume
set_option maxRecDepth 20000 in
theorem ggL_law_X6_next : GoodIn wsL_law wsX6_next := goodIn_r _ [484, 17, 35, 36, 29, 34, 291, 292, 293, 28, 294, 69, 295, 188, 78, 189, 63, 296, 297, 298, 16, 299, 45, 300, 223, 224, 225, 44, 132, 133, 134, 135, 301, 302, 303, 304, 71, 70, 305, 306, 307, 24, 308, 57, 309, 310, 311, 312, 313, 314, 315, 316, 317, 318, 319, 320, 321, 322, 62, 323, 324, 325, 326, 327, 328, 329, 330, 331, 332, 333, 334, 335, 77, 79, 336, 337, 338, 339, 340, 341, 342, 343, 344, 168, 169, 170, 41, 345, 346, 347, 348, 349, 350, 351, 352, 353, 354, 355, 356, 357, 358, 66, 67, 65, 359, 360, 361, 362, 68, 363, 219, 220, 221, 43, 364, 365, 366, 367, 64, 368, 369, 370, 371, 372, 373, 374, 375, 380, 381, 382, 383, 602, 603, 604, 605, 606, 607, 608, 609, 640, 641, 642, 643, 650, 651, 652, 653, 654, 655, 656, 657, 658, 659, 644, 645, 646, 647, 648, 649, 660, 661, 662, 663, 664] (by decide +kernel) (by decide +kernel)
set_option maxRecDepth 20000 in
theorem gL_law_X6_next : GoodIn wsL_law (wsV RL 84 RX6 yX6_next wsX6_next) := goodIn_app (goodIn_of _ (by decide +kernel)) ggL_law_X6_next
set_option maxRecDepth 20000 in
theorem ggL_law_X7_next : GoodIn wsL_law wsX7_next := goodIn_r _ [488, 140, 147, 480, 479, 478, 100, 393, 394, 395, 5, 396, 397, 398, 399, 400, 238, 401, 402, 403, 404, 405, 406, 407, 408, 409, 410, 411, 412, 413, 414, 415, 416, 417, 418, 419, 420, 421, 422, 423, 98, 92, 424, 425, 426, 427, 91, 428, 429, 430, 431, 432, 433, 434, 435, 102, 103, 105, 90, 104, 101, 436, 437, 438, 439, 440, 441, 442, 443, 444, 99, 610, 611, 612, 613, 614, 615, 616, 617, 618, 619, 620, 621, 622, 623, 624, 625, 626, 627, 628, 629, 630, 631, 632, 633, 634, 635, 636, 637, 638, 639] (by decide +kernel) (by decide +kernel)
set_option maxRecDepth 20000 in
theorem gL_law_X7_next : GoodIn wsL_law (wsV RL 87 RX7 yX7_next wsX7_next) := goodIn_app (goodIn_of _ (by decide +kernel)) ggL_law_X7_next
set_option maxRecDepth 20000 in
theorem ggL_law_X6_at : GoodIn wsL_law wsX6_at := goodIn_r _ [492, 34, 35, 36, 602, 603, 604, 605, 606, 607, 608, 609] (by decide +kernel) (by decide +kernel)
set_option maxRecDepth 20000 in
theorem gL_law_X6_at : GoodIn wsL_law (wsV RL 88 RX6 yX6_at wsX6_at) := goodIn_app (goodIn_of _ (by decide +kernel)) ggL_law_X6_at
set_option maxRecDepth 20000 in
theorem ggL_law_X7_at : GoodIn wsL_law wsX7_at := goodIn_r _ [496, 140, 478, 479, 480, 610, 611, 612, 613, 614, 615, 616, 617, 618, 619, 620, 621, 622, 623, 624, 625, 626, 627, 628, 629, 630, 631, 632, 633, 634, 635, 636, 637, 638, 639] (by decide +kernel) (by decide +kernel)
set_option maxRecDepth 20000 in
theorem gL_law_X7_at : GoodIn wsL_law (wsV RL 92 RX7 yX7_at wsX7_at) := goodIn_app (goodIn_of _ (by decide +kernel)) ggL_law_X7_at
set_option maxRecDepth 20000 in
theorem ggL_law_X6_act : GoodIn wsL_law wsX6_act := goodIn_r _ [500, 17, 25, 21, 33, 167, 168, 169, 16, 170, 41, 132, 133, 134, 135, 45, 288, 289, 2, 290, 501, 502, 503, 504, 505, 506, 507, 508, 509, 510, 511, 512, 513, 514, 306, 307, 24, 308, 57, 515, 310, 311, 312, 313, 314, 315, 316, 317, 318, 516, 517, 518, 519, 328, 329, 330, 520, 521, 522, 523, 524, 525, 32, 526, 81, 82, 83, 84, 527, 528, 529, 530, 531, 532, 533, 80, 198, 191, 192, 193, 534, 195, 196, 197, 535, 536, 537, 538, 539, 540, 541, 542, 543, 544, 545, 546, 547, 548, 172, 173, 174, 549, 550, 551, 552, 553, 554, 555, 556, 557, 602, 603, 604, 605, 606, 607, 608, 609, 644, 645, 646, 647, 648, 660, 661, 662, 663, 664, 640, 641, 642, 643, 649] (by decide +kernel) (by decide +kernel)
set_option maxRecDepth 20000 in
theorem gL_law_X6_act : GoodIn wsL_law (wsV RL 93 RX6 yX6_act wsX6_act) := goodIn_app (goodIn_of _ (by decide +kernel)) ggL_law_X6_act
set_option maxRecDepth 20000 in
theorem ggL_law_X7_act : GoodIn wsL_law wsX7_act := goodIn_r _ [561, 140, 392, 146, 562, 563, 564, 565, 89, 106, 92, 566, 93, 567, 94, 568, 107, 96, 179, 180, 181, 5, 182, 147, 148, 149, 150, 569, 570, 571, 572, 397, 398, 399, 400, 238, 401, 402, 403, 404, 405, 406, 407, 408, 409, 410, 411, 416, 417, 418, 419, 573, 574, 575, 576, 108, 577, 578, 579, 580, 610, 611, 612, 613, 614, 615, 616, 617, 618, 619, 620, 621, 622, 623, 624, 625, 626, 627, 628, 629, 630, 631, 632, 633, 634, 635, 636, 637, 638, 639] (by decide +kernel) (by decide +kernel)
set_option maxRecDepth 20000 in
theorem gL_law_X7_act : GoodIn wsL_law (wsV RL 96 RX7 yX7_act wsX7_act) := goodIn_app (goodIn_of _ (by decide +kernel)) ggL_law_X7_act
set_option maxRecDepth 20000 in
theorem ggL_law_X6_out : GoodIn wsL_law wsX6_out := goodIn_r _ [584, 33, 190, 191, 192, 32, 193, 84, 80, 585, 531, 532, 533, 198, 602, 603, 604, 605, 606, 607, 608, 609, 660, 661, 662, 663, 664] (by decide +kernel) (by decide +kernel)
set_option maxRecDepth 20000 in
theorem gL_law_X6_out : GoodIn wsL_law (wsV RL 97 RX6 yX6_out wsX6_out) := goodIn_app (goodIn_of _ (by decide +kernel)) ggL_law_X6_out
set_option maxRecDepth 20000 in
theorem ggL_law_X7_out : GoodIn wsL_law wsX7_out := goodIn_r _ [589, 140, 106, 566, 567, 568, 107, 148, 149, 5, 150, 610, 611, 612, 613, 614, 615, 616, 617, 618, 619, 620, 621, 622, 623, 624, 625, 626, 627, 628, 629, 630, 631, 632, 633, 634, 635, 636, 637, 638, 639] (by decide +kernel) (by decide +kernel)
set_option maxRecDepth 20000 in
theorem gL_law_X7_out : GoodIn wsL_law (wsV RL 100 RX7 yX7_out wsX7_out) := goodIn_app (goodIn_of _ (by decide +kernel)) ggL_law_X7_out
set_option maxRecDepth 20000 in
theorem ggL_law_X6_like : GoodIn wsL_law wsX6_like := goodIn_r _ [593, 17, 33, 167, 168, 169, 16, 170, 41, 132, 133, 134, 135, 45, 594, 595, 596, 32, 597, 81, 82, 83, 84, 556, 531, 532, 533, 80, 198, 191, 192, 193, 602, 603, 604, 605, 606, 607, 608, 609, 640, 641, 642, 643, 660, 661, 662, 663, 664] (by decide +kernel) (by decide +kernel)
set_option maxRecDepth 20000 in
theorem gL_law_X6_like : GoodIn wsL_law (wsV RL 101 RX6 yX6_like wsX6_like) := goodIn_app (goodIn_of _ (by decide +kernel)) ggL_law_X6_like
set_option maxRecDepth 20000 in
theorem ggL_law_X7_like : GoodIn wsL_law wsX7_like := goodIn_r _ [601, 140, 106, 89, 566, 92, 567, 93, 568, 94, 107, 96, 179, 180, 181, 5, 182, 147, 148, 149, 150, 610, 611, 612, 613, 614, 615, 616, 617, 618, 619, 620, 621, 622, 623, 624, 625, 626, 627, 628, 629, 630, 631, 632, 633, 634, 635, 636, 637, 638, 639] (by decide +kernel) (by decide +kernel)
set_option maxRecDepth 20000 in
theorem gL_law_X7_like : GoodIn wsL_law (wsV RL 104 RX7 yX7_like wsX7_like) := goodIn_app (goodIn_of _ (by decide +kernel)) ggL_law_X7_like
theorem dL_law_0 : decode cL_law 0 = .ok (.new 8, 3) := by decide +kernel
theorem dL_law_3 : decode cL_law 3 = .ok (.dup, 1) := by decide +kernel
theorem dL_law_4 : decode cL_law 4 = .ok (.invokespecial 15, 3) := by decide +kernel
theorem dL_law_7 : decode cL_law 7 = .ok (.astore_n 1, 1) := by decide +kernel
theorem dL_law_8 : decode cL_law 8 = .ok (.new 16, 3) := by decide +kernel
theorem dL_law_11 : decode cL_law 11 = .ok (.dup, 1) := by decide +kernel
theorem dL_law_12 : decode cL_law 12 = .ok (.invokespecial 18, 3) := by decide +kernel
theorem dL_law_15 : decode cL_law 15 = .ok (.astore_n 2, 1) := by decide +kernel
theorem dL_law_16 : decode cL_law 16 = .ok (.iconst 1, 1) := by decide +kernel
theorem dL_law_17 : decode cL_law 17 = .ok (.newarray .long, 2) := by decide +kernel
theorem dL_law_19 : decode cL_law 19 = .ok (.astore_n 3, 1) := by decide +kernel
theorem dL_law_20 : decode cL_law 20 = .ok (.iconst 0, 1) := by decide +kernel
theorem dL_law_21 : decode cL_law 21 = .ok (.istore 4, 2) := by decide +kernel
theorem dL_law_23 : decode cL_law 23 = .ok (.iload 4, 2) := by decide +kernel
theorem dL_law_25 : decode cL_law 25 = .ok (.aload_n 0, 1) := by decide +kernel
theorem dL_law_26 : decode cL_law 26 = .ok (.arraylength, 1) := by decide +kernel
theorem dL_law_27 : decode cL_law 27 = .ok (.bipush 7, 2) := by decide +kernel
theorem dL_law_29 : decode cL_law 29 = .ok (.isub, 1) := by decide +kernel
theorem dL_law_30 : decode cL_law 30 = .ok (.if_icmp .gt 940, 3) := by decide +kernel
theorem dL_law_33 : decode cL_law 33 = .ok (.aload_n 0, 1) := by decide +kernel
theorem dL_law_34 : decode cL_law 34 = .ok (.iload 4, 2) := by decide +kernel
theorem dL_law_36 : decode cL_law 36 = .ok (.iaload, 1) := by decide +kernel
theorem dL_law_37 : decode cL_law 37 = .ok (.bipush 31, 2) := by decide +kernel
theorem dL_law_39 : decode cL_law 39 = .ok (.iand, 1) := by decide +kernel
theorem dL_law_40 : decode cL_law 40 = .ok (.tableswitch 924 0 17 #[88, 137, 198, 235, 316, 365, 402, 460, 497, 541, 602, 689, 726, 775, 788, 813, 874, 899], 88) := by decide +kernel
theorem dL_law_128 : decode cL_law 128 = .ok (.aload_n 1, 1) := by decide +kernel
theorem dL_law_129 : decode cL_law 129 = .ok (.aload_n 0, 1) := by decide +kernel
theorem dL_law_130 : decode cL_law 130 = .ok (.iload 4, 2) := by decide +kernel
theorem dL_law_132 : decode cL_law 132 = .ok (.iconst 1, 1) := by decide +kernel
theorem dL_law_133 : decode cL_law 133 = .ok (.iadd, 1) := by decide +kernel
theorem dL_law_134 : decode cL_law 134 = .ok (.iaload, 1) := by decide +kernel
theorem dL_law_135 : decode cL_law 135 = .ok (.aload_n 0, 1) := by decide +kernel
theorem dL_law_136 : decode cL_law 136 = .ok (.iload 4, 2) := by decide +kernel
theorem dL_law_138 : decode cL_law 138 = .ok (.iconst 2, 1) := by decide +kernel
theorem dL_law_139 : decode cL_law 139 = .ok (.iadd, 1) := by decide +kernel
theorem dL_law_140 : decode cL_law 140 = .ok (.iaload, 1) := by decide +kernel
theorem dL_law_141 : decode cL_law 141 = .ok (.aload_n 0, 1) := by decide +kernel
theorem dL_law_142 : decode cL_law 142 = .ok (.iload 4, 2) := by decide +kernel
theorem dL_law_144 : decode cL_law 144 = .ok (.iconst 3, 1) := by decide +kernel
theorem dL_law_145 : decode cL_law 145 = .ok (.iadd, 1) := by decide +kernel
theorem dL_law_146 : decode cL_law 146 = .ok (.iaload, 1) := by decide +kernel
theorem dL_law_147 : decode cL_law 147 = .ok (.invokevirtual 19, 3) := by decide +kernel
theorem dL_law_150 : decode cL_law 150 = .ok (.aload_n 2, 1) := by decide +kernel
theorem dL_law_151 : decode cL_law 151 = .ok (.aload_n 0, 1) := by decide +kernel
theorem dL_law_152 : decode cL_law 152 = .ok (.iload 4, 2) := by decide +kernel
theorem dL_law_154 : decode cL_law 154 = .ok (.iconst 1, 1) := by decide +kernel
theorem dL_law_155 : decode cL_law 155 = .ok (.iadd, 1) := by decide +kernel
theorem dL_law_156 : decode cL_law 156 = .ok (.iaload, 1) := by decide +kernel
theorem dL_law_157 : decode cL_law 157 = .ok (.aload_n 0, 1) := by decide +kernel
theorem dL_law_158 : decode cL_law 158 = .ok (.iload 4, 2) := by decide +kernel
theorem dL_law_160 : decode cL_law 160 = .ok (.iconst 2, 1) := by decide +kernel
theorem dL_law_161 : decode cL_law 161 = .ok (.iadd, 1) := by decide +kernel
theorem dL_law_162 : decode cL_law 162 = .ok (.iaload, 1) := by decide +kernel
theorem dL_law_163 : decode cL_law 163 = .ok (.aload_n 0, 1) := by decide +kernel
theorem dL_law_164 : decode cL_law 164 = .ok (.iload 4, 2) := by decide +kernel
theorem dL_law_166 : decode cL_law 166 = .ok (.iconst 3, 1) := by decide +kernel
theorem dL_law_167 : decode cL_law 167 = .ok (.iadd, 1) := by decide +kernel
theorem dL_law_168 : decode cL_law 168 = .ok (.iaload, 1) := by decide +kernel
theorem dL_law_169 : decode cL_law 169 = .ok (.invokevirtual 23, 3) := by decide +kernel
theorem dL_law_172 : decode cL_law 172 = .ok (.if_icmp .eq 792, 3) := by decide +kernel
theorem dL_law_175 : decode cL_law 175 = .ok (.iconst 0, 1) := by decide +kernel
theorem dL_law_176 : decode cL_law 176 = .ok (.ireturn, 1) := by decide +kernel
theorem dL_law_177 : decode cL_law 177 = .ok (.aload_n 1, 1) := by decide +kernel
theorem dL_law_178 : decode cL_law 178 = .ok (.aload_n 0, 1) := by decide +kernel
theorem dL_law_179 : decode cL_law 179 = .ok (.iload 4, 2) := by decide +kernel
theorem dL_law_181 : decode cL_law 181 = .ok (.iconst 1, 1) := by decide +kernel
theorem dL_law_182 : decode cL_law 182 = .ok (.iadd, 1) := by decide +kernel
theorem dL_law_183 : decode cL_law 183 = .ok (.iaload, 1) := by decide +kernel
theorem dL_law_184 : decode cL_law 184 = .ok (.aload_n 0, 1) := by decide +kernel
theorem dL_law_185 : decode cL_law 185 = .ok (.iload 4, 2) := by decide +kernel
theorem dL_law_187 : decode cL_law 187 = .ok (.iconst 2, 1) := by decide +kernel
theorem dL_law_188 : decode cL_law 188 = .ok (.iadd, 1) := by decide +kernel
theorem dL_law_189 : decode cL_law 189 = .ok (.iaload, 1) := by decide +kernel
theorem dL_law_190 : decode cL_law 190 = .ok (.aload_n 0, 1) := by decide +kernel
theorem dL_law_191 : decode cL_law 191 = .ok (.iload 4, 2) := by decide +kernel
theorem dL_law_193 : decode cL_law 193 = .ok (.iconst 3, 1) := by decide +kernel
theorem dL_law_194 : decode cL_law 194 = .ok (.iadd, 1) := by decide +kernel
theorem dL_law_195 : decode cL_law 195 = .ok (.iaload, 1) := by decide +kernel
theorem dL_law_196 : decode cL_law 196 = .ok (.aload_n 0, 1) := by decide +kernel
theorem dL_law_197 : decode cL_law 197 = .ok (.iload 4, 2) := by decide +kernel
theorem dL_law_199 : decode cL_law 199 = .ok (.iconst 4, 1) := by decide +kernel
theorem dL_law_200 : decode cL_law 200 = .ok (.iadd, 1) := by decide +kernel
theorem dL_law_201 : decode cL_law 201 = .ok (.iaload, 1) := by decide +kernel
theorem dL_law_202 : decode cL_law 202 = .ok (.invokevirtual 24, 3) := by decide +kernel
theorem dL_law_205 : decode cL_law 205 = .ok (.aload_n 2, 1) := by decide +kernel
theorem dL_law_206 : decode cL_law 206 = .ok (.aload_n 0, 1) := by decide +kernel
theorem dL_law_207 : decode cL_law 207 = .ok (.iload 4, 2) := by decide +kernel
theorem dL_law_209 : decode cL_law 209 = .ok (.iconst 1, 1) := by decide +kernel
theorem dL_law_210 : decode cL_law 210 = .ok (.iadd, 1) := by decide +kernel
theorem dL_law_211 : decode cL_law 211 = .ok (.iaload, 1) := by decide +kernel
theorem dL_law_212 : decode cL_law 212 = .ok (.aload_n 0, 1) := by decide +kernel
theorem dL_law_213 : decode cL_law 213 = .ok (.iload 4, 2) := by decide +kernel
theorem dL_law_215 : decode cL_law 215 = .ok (.iconst 2, 1) := by decide +kernel
theorem dL_law_216 : decode cL_law 216 = .ok (.iadd, 1) := by decide +kernel
theorem dL_law_217 : decode cL_law 217 = .ok (.iaload, 1) := by decide +kernel
theorem dL_law_218 : decode cL_law 218 = .ok (.aload_n 0, 1) := by decide +kernel
theorem dL_law_219 : decode cL_law 219 = .ok (.iload 4, 2) := by decide +kernel
theorem dL_law_221 : decode cL_law 221 = .ok (.iconst 3, 1) := by decide +kernel
theorem dL_law_222 : decode cL_law 222 = .ok (.iadd, 1) := by decide +kernel
theorem dL_law_223 : decode cL_law 223 = .ok (.iaload, 1) := by decide +kernel
theorem dL_law_224 : decode cL_law 224 = .ok (.aload_n 0, 1) := by decide +kernel
theorem dL_law_225 : decode cL_law 225 = .ok (.iload 4, 2) := by decide +kernel
theorem dL_law_227 : decode cL_law 227 = .ok (.iconst 4, 1) := by decide +kernel
theorem dL_law_228 : decode cL_law 228 = .ok (.iadd, 1) := by decide +kernel
theorem dL_law_229 : decode cL_law 229 = .ok (.iaload, 1) := by decide +kernel
theorem dL_law_230 : decode cL_law 230 = .ok (.invokevirtual 28, 3) := by decide +kernel
theorem dL_law_233 : decode cL_law 233 = .ok (.if_icmp .eq 731, 3) := by decide +kernel
theorem dL_law_236 : decode cL_law 236 = .ok (.iconst 0, 1) := by decide +kernel
theorem dL_law_237 : decode cL_law 237 = .ok (.ireturn, 1) := by decide +kernel
theorem dL_law_238 : decode cL_law 238 = .ok (.aload_n 1, 1) := by decide +kernel
theorem dL_law_239 : decode cL_law 239 = .ok (.aload_n 0, 1) := by decide +kernel
theorem dL_law_240 : decode cL_law 240 = .ok (.iload 4, 2) := by decide +kernel
theorem dL_law_242 : decode cL_law 242 = .ok (.iconst 1, 1) := by decide +kernel
theorem dL_law_243 : decode cL_law 243 = .ok (.iadd, 1) := by decide +kernel
theorem dL_law_244 : decode cL_law 244 = .ok (.iaload, 1) := by decide +kernel
theorem dL_law_245 : decode cL_law 245 = .ok (.aload_n 0, 1) := by decide +kernel
theorem dL_law_246 : decode cL_law 246 = .ok (.iload 4, 2) := by decide +kernel
theorem dL_law_248 : decode cL_law 248 = .ok (.iconst 2, 1) := by decide +kernel
theorem dL_law_249 : decode cL_law 249 = .ok (.iadd, 1) := by decide +kernel
theorem dL_law_250 : decode cL_law 250 = .ok (.iaload, 1) := by decide +kernel
theorem dL_law_251 : decode cL_law 251 = .ok (.invokevirtual 29, 3) := by decide +kernel
theorem dL_law_254 : decode cL_law 254 = .ok (.aload_n 2, 1) := by decide +kernel
theorem dL_law_255 : decode cL_law 255 = .ok (.aload_n 0, 1) := by decide +kernel
theorem dL_law_256 : decode cL_law 256 = .ok (.iload 4, 2) := by decide +kernel
theorem dL_law_258 : decode cL_law 258 = .ok (.iconst 1, 1) := by decide +kernel
theorem dL_law_259 : decode cL_law 259 = .ok (.iadd, 1) := by decide +kernel
theorem dL_law_260 : decode cL_law 260 = .ok (.iaload, 1) := by decide +kernel
theorem dL_law_261 : decode cL_law 261 = .ok (.aload_n 0, 1) := by decide +kernel
theorem dL_law_262 : decode cL_law 262 = .ok (.iload 4, 2) := by decide +kernel
theorem dL_law_264 : decode cL_law 264 = .ok (.iconst 2, 1) := by decide +kernel
theorem dL_law_265 : decode cL_law 265 = .ok (.iadd, 1) := by decide +kernel
theorem dL_law_266 : decode cL_law 266 = .ok (.iaload, 1) := by decide +kernel
theorem dL_law_267 : decode cL_law 267 = .ok (.invokevirtual 33, 3) := by decide +kernel
theorem dL_law_270 : decode cL_law 270 = .ok (.if_icmp .eq 694, 3) := by decide +kernel
theorem dL_law_273 : decode cL_law 273 = .ok (.iconst 0, 1) := by decide +kernel
theorem dL_law_274 : decode cL_law 274 = .ok (.ireturn, 1) := by decide +kernel
theorem dL_law_275 : decode cL_law 275 = .ok (.aload_n 1, 1) := by decide +kernel
theorem dL_law_276 : decode cL_law 276 = .ok (.aload_n 0, 1) := by decide +kernel
theorem dL_law_277 : decode cL_law 277 = .ok (.iload 4, 2) := by decide +kernel
theorem dL_law_279 : decode cL_law 279 = .ok (.iconst 1, 1) := by decide +kernel
theorem dL_law_280 : decode cL_law 280 = .ok (.iadd, 1) := by decide +kernel
theorem dL_law_281 : decode cL_law 281 = .ok (.iaload, 1) := by decide +kernel
theorem dL_law_282 : decode cL_law 282 = .ok (.aload_n 0, 1) := by decide +kernel
theorem dL_law_283 : decode cL_law 283 = .ok (.iload 4, 2) := by decide +kernel
theorem dL_law_285 : decode cL_law 285 = .ok (.iconst 2, 1) := by decide +kernel
theorem dL_law_286 : decode cL_law 286 = .ok (.iadd, 1) := by decide +kernel
theorem dL_law_287 : decode cL_law 287 = .ok (.iaload, 1) := by decide +kernel
theorem dL_law_288 : decode cL_law 288 = .ok (.aload_n 0, 1) := by decide +kernel
theorem dL_law_289 : decode cL_law 289 = .ok (.iload 4, 2) := by decide +kernel
theorem dL_law_291 : decode cL_law 291 = .ok (.iconst 3, 1) := by decide +kernel
theorem dL_law_292 : decode cL_law 292 = .ok (.iadd, 1) := by decide +kernel
theorem dL_law_293 : decode cL_law 293 = .ok (.iaload, 1) := by decide +kernel
theorem dL_law_294 : decode cL_law 294 = .ok (.i2l, 1) := by decide +kernel
theorem dL_law_295 : decode cL_law 295 = .ok (.bipush 32, 2) := by decide +kernel
theorem dL_law_297 : decode cL_law 297 = .ok (.lshl, 1) := by decide +kernel
theorem dL_law_298 : decode cL_law 298 = .ok (.aload_n 0, 1) := by decide +kernel
theorem dL_law_299 : decode cL_law 299 = .ok (.iload 4, 2) := by decide +kernel
theorem dL_law_301 : decode cL_law 301 = .ok (.iconst 4, 1) := by decide +kernel
theorem dL_law_302 : decode cL_law 302 = .ok (.iadd, 1) := by decide +kernel
theorem dL_law_303 : decode cL_law 303 = .ok (.iaload, 1) := by decide +kernel
theorem dL_law_304 : decode cL_law 304 = .ok (.i2l, 1) := by decide +kernel
theorem dL_law_305 : decode cL_law 305 = .ok (.ldc2_w 34, 3) := by decide +kernel
theorem dL_law_308 : decode cL_law 308 = .ok (.land, 1) := by decide +kernel
theorem dL_law_309 : decode cL_law 309 = .ok (.lor, 1) := by decide +kernel
theorem dL_law_310 : decode cL_law 310 = .ok (.invokevirtual 36, 3) := by decide +kernel
theorem dL_law_313 : decode cL_law 313 = .ok (.aload_n 2, 1) := by decide +kernel
theorem dL_law_314 : decode cL_law 314 = .ok (.aload_n 0, 1) := by decide +kernel
theorem dL_law_315 : decode cL_law 315 = .ok (.iload 4, 2) := by decide +kernel
theorem dL_law_317 : decode cL_law 317 = .ok (.iconst 1, 1) := by decide +kernel
theorem dL_law_318 : decode cL_law 318 = .ok (.iadd, 1) := by decide +kernel
theorem dL_law_319 : decode cL_law 319 = .ok (.iaload, 1) := by decide +kernel
theorem dL_law_320 : decode cL_law 320 = .ok (.aload_n 0, 1) := by decide +kernel
theorem dL_law_321 : decode cL_law 321 = .ok (.iload 4, 2) := by decide +kernel
theorem dL_law_323 : decode cL_law 323 = .ok (.iconst 2, 1) := by decide +kernel
theorem dL_law_324 : decode cL_law 324 = .ok (.iadd, 1) := by decide +kernel
theorem dL_law_325 : decode cL_law 325 = .ok (.iaload, 1) := by decide +kernel
theorem dL_law_326 : decode cL_law 326 = .ok (.aload_n 0, 1) := by decide +kernel
theorem dL_law_327 : decode cL_law 327 = .ok (.iload 4, 2) := by decide +kernel
theorem dL_law_329 : decode cL_law 329 = .ok (.iconst 3, 1) := by decide +kernel
theorem dL_law_330 : decode cL_law 330 = .ok (.iadd, 1) := by decide +kernel
theorem dL_law_331 : decode cL_law 331 = .ok (.iaload, 1) := by decide +kernel
theorem dL_law_332 : decode cL_law 332 = .ok (.i2l, 1) := by decide +kernel
theorem dL_law_333 : decode cL_law 333 = .ok (.bipush 32, 2) := by decide +kernel
theorem dL_law_335 : decode cL_law 335 = .ok (.lshl, 1) := by decide +kernel
theorem dL_law_336 : decode cL_law 336 = .ok (.aload_n 0, 1) := by decide +kernel
theorem dL_law_337 : decode cL_law 337 = .ok (.iload 4, 2) := by decide +kernel
theorem dL_law_339 : decode cL_law 339 = .ok (.iconst 4, 1) := by decide +kernel
theorem dL_law_340 : decode cL_law 340 = .ok (.iadd, 1) := by decide +kernel
theorem dL_law_341 : decode cL_law 341 = .ok (.iaload, 1) := by decide +kernel
theorem dL_law_342 : decode cL_law 342 = .ok (.i2l, 1) := by decide +kernel
theorem dL_law_343 : decode cL_law 343 = .ok (.ldc2_w 34, 3) := by decide +kernel
theorem dL_law_346 : decode cL_law 346 = .ok (.land, 1) := by decide +kernel
theorem dL_law_347 : decode cL_law 347 = .ok (.lor, 1) := by decide +kernel
theorem dL_law_348 : decode cL_law 348 = .ok (.invokevirtual 40, 3) := by decide +kernel
theorem dL_law_351 : decode cL_law 351 = .ok (.if_icmp .eq 613, 3) := by decide +kernel
theorem dL_law_354 : decode cL_law 354 = .ok (.iconst 0, 1) := by decide +kernel
theorem dL_law_355 : decode cL_law 355 = .ok (.ireturn, 1) := by decide +kernel
theorem dL_law_356 : decode cL_law 356 = .ok (.aload_n 1, 1) := by decide +kernel
theorem dL_law_357 : decode cL_law 357 = .ok (.aload_n 0, 1) := by decide +kernel
theorem dL_law_358 : decode cL_law 358 = .ok (.iload 4, 2) := by decide +kernel
theorem dL_law_360 : decode cL_law 360 = .ok (.iconst 1, 1) := by decide +kernel
theorem dL_law_361 : decode cL_law 361 = .ok (.iadd, 1) := by decide +kernel
theorem dL_law_362 : decode cL_law 362 = .ok (.iaload, 1) := by decide +kernel
theorem dL_law_363 : decode cL_law 363 = .ok (.aload_n 0, 1) := by decide +kernel
theorem dL_law_364 : decode cL_law 364 = .ok (.iload 4, 2) := by decide +kernel
theorem dL_law_366 : decode cL_law 366 = .ok (.iconst 2, 1) := by decide +kernel
theorem dL_law_367 : decode cL_law 367 = .ok (.iadd, 1) := by decide +kernel
theorem dL_law_368 : decode cL_law 368 = .ok (.iaload, 1) := by decide +kernel
theorem dL_law_369 : decode cL_law 369 = .ok (.aload_n 0, 1) := by decide +kernel
theorem dL_law_370 : decode cL_law 370 = .ok (.iload 4, 2) := by decide +kernel
theorem dL_law_372 : decode cL_law 372 = .ok (.iconst 3, 1) := by decide +kernel
theorem dL_law_373 : decode cL_law 373 = .ok (.iadd, 1) := by decide +kernel
theorem dL_law_374 : decode cL_law 374 = .ok (.iaload, 1) := by decide +kernel
theorem dL_law_375 : decode cL_law 375 = .ok (.invokevirtual 41, 3) := by decide +kernel
theorem dL_law_378 : decode cL_law 378 = .ok (.aload_n 2, 1) := by decide +kernel
theorem dL_law_379 : decode cL_law 379 = .ok (.aload_n 0, 1) := by decide +kernel
theorem dL_law_380 : decode cL_law 380 = .ok (.iload 4, 2) := by decide +kernel
theorem dL_law_382 : decode cL_law 382 = .ok (.iconst 1, 1) := by decide +kernel
theorem dL_law_383 : decode cL_law 383 = .ok (.iadd, 1) := by decide +kernel
theorem dL_law_384 : decode cL_law 384 = .ok (.iaload, 1) := by decide +kernel
theorem dL_law_385 : decode cL_law 385 = .ok (.aload_n 0, 1) := by decide +kernel
theorem dL_law_386 : decode cL_law 386 = .ok (.iload 4, 2) := by decide +kernel
theorem dL_law_388 : decode cL_law 388 = .ok (.iconst 2, 1) := by decide +kernel
theorem dL_law_389 : decode cL_law 389 = .ok (.iadd, 1) := by decide +kernel
theorem dL_law_390 : decode cL_law 390 = .ok (.iaload, 1) := by decide +kernel
theorem dL_law_391 : decode cL_law 391 = .ok (.aload_n 0, 1) := by decide +kernel
theorem dL_law_392 : decode cL_law 392 = .ok (.iload 4, 2) := by decide +kernel
theorem dL_law_394 : decode cL_law 394 = .ok (.iconst 3, 1) := by decide +kernel
theorem dL_law_395 : decode cL_law 395 = .ok (.iadd, 1) := by decide +kernel
theorem dL_law_396 : decode cL_law 396 = .ok (.iaload, 1) := by decide +kernel
theorem dL_law_397 : decode cL_law 397 = .ok (.invokevirtual 44, 3) := by decide +kernel
theorem dL_law_400 : decode cL_law 400 = .ok (.if_icmp .eq 564, 3) := by decide +kernel
theorem dL_law_403 : decode cL_law 403 = .ok (.iconst 0, 1) := by decide +kernel
theorem dL_law_404 : decode cL_law 404 = .ok (.ireturn, 1) := by decide +kernel
theorem dL_law_405 : decode cL_law 405 = .ok (.aload_n 1, 1) := by decide +kernel
theorem dL_law_406 : decode cL_law 406 = .ok (.aload_n 0, 1) := by decide +kernel
theorem dL_law_407 : decode cL_law 407 = .ok (.iload 4, 2) := by decide +kernel
theorem dL_law_409 : decode cL_law 409 = .ok (.iconst 1, 1) := by decide +kernel
theorem dL_law_410 : decode cL_law 410 = .ok (.iadd, 1) := by decide +kernel
theorem dL_law_411 : decode cL_law 411 = .ok (.iaload, 1) := by decide +kernel
theorem dL_law_412 : decode cL_law 412 = .ok (.aload_n 0, 1) := by decide +kernel
theorem dL_law_413 : decode cL_law 413 = .ok (.iload 4, 2) := by decide +kernel
theorem dL_law_415 : decode cL_law 415 = .ok (.iconst 2, 1) := by decide +kernel
theorem dL_law_416 : decode cL_law 416 = .ok (.iadd, 1) := by decide +kernel
theorem dL_law_417 : decode cL_law 417 = .ok (.iaload, 1) := by decide +kernel
theorem dL_law_418 : decode cL_law 418 = .ok (.invokevirtual 45, 3) := by decide +kernel
theorem dL_law_421 : decode cL_law 421 = .ok (.aload_n 2, 1) := by decide +kernel
theorem dL_law_422 : decode cL_law 422 = .ok (.aload_n 0, 1) := by decide +kernel
theorem dL_law_423 : decode cL_law 423 = .ok (.iload 4, 2) := by decide +kernel
theorem dL_law_425 : decode cL_law 425 = .ok (.iconst 1, 1) := by decide +kernel
theorem dL_law_426 : decode cL_law 426 = .ok (.iadd, 1) := by decide +kernel
theorem dL_law_427 : decode cL_law 427 = .ok (.iaload, 1) := by decide +kernel
theorem dL_law_428 : decode cL_law 428 = .ok (.aload_n 0, 1) := by decide +kernel
theorem dL_law_429 : decode cL_law 429 = .ok (.iload 4, 2) := by decide +kernel
theorem dL_law_431 : decode cL_law 431 = .ok (.iconst 2, 1) := by decide +kernel
theorem dL_law_432 : decode cL_law 432 = .ok (.iadd, 1) := by decide +kernel
theorem dL_law_433 : decode cL_law 433 = .ok (.iaload, 1) := by decide +kernel
theorem dL_law_434 : decode cL_law 434 = .ok (.invokevirtual 48, 3) := by decide +kernel
theorem dL_law_437 : decode cL_law 437 = .ok (.if_icmp .eq 527, 3) := by decide +kernel
theorem dL_law_440 : decode cL_law 440 = .ok (.iconst 0, 1) := by decide +kernel
theorem dL_law_441 : decode cL_law 441 = .ok (.ireturn, 1) := by decide +kernel
theorem dL_law_442 : decode cL_law 442 = .ok (.aload_n 1, 1) := by decide +kernel
theorem dL_law_443 : decode cL_law 443 = .ok (.aload_n 0, 1) := by decide +kernel
theorem dL_law_444 : decode cL_law 444 = .ok (.iload 4, 2) := by decide +kernel
theorem dL_law_446 : decode cL_law 446 = .ok (.iconst 1, 1) := by decide +kernel
theorem dL_law_447 : decode cL_law 447 = .ok (.iadd, 1) := by decide +kernel
theorem dL_law_448 : decode cL_law 448 = .ok (.iaload, 1) := by decide +kernel
theorem dL_law_449 : decode cL_law 449 = .ok (.i2l, 1) := by decide +kernel
theorem dL_law_450 : decode cL_law 450 = .ok (.bipush 32, 2) := by decide +kernel
theorem dL_law_452 : decode cL_law 452 = .ok (.lshl, 1) := by decide +kernel
theorem dL_law_453 : decode cL_law 453 = .ok (.aload_n 0, 1) := by decide +kernel
theorem dL_law_454 : decode cL_law 454 = .ok (.iload 4, 2) := by decide +kernel
theorem dL_law_456 : decode cL_law 456 = .ok (.iconst 2, 1) := by decide +kernel
theorem dL_law_457 : decode cL_law 457 = .ok (.iadd, 1) := by decide +kernel
theorem dL_law_458 : decode cL_law 458 = .ok (.iaload, 1) := by decide +kernel
theorem dL_law_459 : decode cL_law 459 = .ok (.i2l, 1) := by decide +kernel
theorem dL_law_460 : decode cL_law 460 = .ok (.ldc2_w 34, 3) := by decide +kernel
theorem dL_law_463 : decode cL_law 463 = .ok (.land, 1) := by decide +kernel
theorem dL_law_464 : decode cL_law 464 = .ok (.lor, 1) := by decide +kernel
theorem dL_law_465 : decode cL_law 465 = .ok (.invokevirtual 49, 3) := by decide +kernel
theorem dL_law_468 : decode cL_law 468 = .ok (.aload_n 2, 1) := by decide +kernel
theorem dL_law_469 : decode cL_law 469 = .ok (.aload_n 0, 1) := by decide +kernel
theorem dL_law_470 : decode cL_law 470 = .ok (.iload 4, 2) := by decide +kernel
theorem dL_law_472 : decode cL_law 472 = .ok (.iconst 1, 1) := by decide +kernel
theorem dL_law_473 : decode cL_law 473 = .ok (.iadd, 1) := by decide +kernel
theorem dL_law_474 : decode cL_law 474 = .ok (.iaload, 1) := by decide +kernel
theorem dL_law_475 : decode cL_law 475 = .ok (.i2l, 1) := by decide +kernel
theorem dL_law_476 : decode cL_law 476 = .ok (.bipush 32, 2) := by decide +kernel
theorem dL_law_478 : decode cL_law 478 = .ok (.lshl, 1) := by decide +kernel
theorem dL_law_479 : decode cL_law 479 = .ok (.aload_n 0, 1) := by decide +kernel
theorem dL_law_480 : decode cL_law 480 = .ok (.iload 4, 2) := by decide +kernel
theorem dL_law_482 : decode cL_law 482 = .ok (.iconst 2, 1) := by decide +kernel
theorem dL_law_483 : decode cL_law 483 = .ok (.iadd, 1) := by decide +kernel
theorem dL_law_484 : decode cL_law 484 = .ok (.iaload, 1) := by decide +kernel
theorem dL_law_485 : decode cL_law 485 = .ok (.i2l, 1) := by decide +kernel
theorem dL_law_486 : decode cL_law 486 = .ok (.ldc2_w 34, 3) := by decide +kernel
theorem dL_law_489 : decode cL_law 489 = .ok (.land, 1) := by decide +kernel
theorem dL_law_490 : decode cL_law 490 = .ok (.lor, 1) := by decide +kernel
theorem dL_law_491 : decode cL_law 491 = .ok (.invokevirtual 53, 3) := by decide +kernel
theorem dL_law_494 : decode cL_law 494 = .ok (.lcmp, 1) := by decide +kernel
theorem dL_law_495 : decode cL_law 495 = .ok (.ifCond .eq 469, 3) := by decide +kernel
theorem dL_law_498 : decode cL_law 498 = .ok (.iconst 0, 1) := by decide +kernel
theorem dL_law_499 : decode cL_law 499 = .ok (.ireturn, 1) := by decide +kernel
theorem dL_law_500 : decode cL_law 500 = .ok (.aload_n 1, 1) := by decide +kernel
theorem dL_law_501 : decode cL_law 501 = .ok (.aload_n 0, 1) := by decide +kernel
theorem dL_law_502 : decode cL_law 502 = .ok (.iload 4, 2) := by decide +kernel
theorem dL_law_504 : decode cL_law 504 = .ok (.iconst 1, 1) := by decide +kernel
theorem dL_law_505 : decode cL_law 505 = .ok (.iadd, 1) := by decide +kernel
theorem dL_law_506 : decode cL_law 506 = .ok (.iaload, 1) := by decide +kernel
theorem dL_law_507 : decode cL_law 507 = .ok (.aload_n 0, 1) := by decide +kernel
theorem dL_law_508 : decode cL_law 508 = .ok (.iload 4, 2) := by decide +kernel
theorem dL_law_510 : decode cL_law 510 = .ok (.iconst 2, 1) := by decide +kernel
theorem dL_law_511 : decode cL_law 511 = .ok (.iadd, 1) := by decide +kernel
theorem dL_law_512 : decode cL_law 512 = .ok (.iaload, 1) := by decide +kernel
theorem dL_law_513 : decode cL_law 513 = .ok (.invokevirtual 54, 3) := by decide +kernel
theorem dL_law_516 : decode cL_law 516 = .ok (.aload_n 2, 1) := by decide +kernel
theorem dL_law_517 : decode cL_law 517 = .ok (.aload_n 0, 1) := by decide +kernel
theorem dL_law_518 : decode cL_law 518 = .ok (.iload 4, 2) := by decide +kernel
theorem dL_law_520 : decode cL_law 520 = .ok (.iconst 1, 1) := by decide +kernel
theorem dL_law_521 : decode cL_law 521 = .ok (.iadd, 1) := by decide +kernel
theorem dL_law_522 : decode cL_law 522 = .ok (.iaload, 1) := by decide +kernel
theorem dL_law_523 : decode cL_law 523 = .ok (.aload_n 0, 1) := by decide +kernel
theorem dL_law_524 : decode cL_law 524 = .ok (.iload 4, 2) := by decide +kernel
theorem dL_law_526 : decode cL_law 526 = .ok (.iconst 2, 1) := by decide +kernel
theorem dL_law_527 : decode cL_law 527 = .ok (.iadd, 1) := by decide +kernel
theorem dL_law_528 : decode cL_law 528 = .ok (.iaload, 1) := by decide +kernel
theorem dL_law_529 : decode cL_law 529 = .ok (.invokevirtual 57, 3) := by decide +kernel
theorem dL_law_532 : decode cL_law 532 = .ok (.if_icmp .eq 432, 3) := by decide +kernel
theorem dL_law_535 : decode cL_law 535 = .ok (.iconst 0, 1) := by decide +kernel
theorem dL_law_536 : decode cL_law 536 = .ok (.ireturn, 1) := by decide +kernel
theorem dL_law_537 : decode cL_law 537 = .ok (.aload_n 1, 1) := by decide +kernel
theorem dL_law_538 : decode cL_law 538 = .ok (.aload_n 3, 1) := by decide +kernel
theorem dL_law_539 : decode cL_law 539 = .ok (.invokestatic 58, 3) := by decide +kernel
theorem dL_law_542 : decode cL_law 542 = .ok (.istore 5, 2) := by decide +kernel
theorem dL_law_544 : decode cL_law 544 = .ok (.aload_n 2, 1) := by decide +kernel
theorem dL_law_545 : decode cL_law 545 = .ok (.invokevirtual 63, 3) := by decide +kernel
theorem dL_law_548 : decode cL_law 548 = .ok (.istore 6, 2) := by decide +kernel
theorem dL_law_550 : decode cL_law 550 = .ok (.aload_n 2, 1) := by decide +kernel
theorem dL_law_551 : decode cL_law 551 = .ok (.invokevirtual 64, 3) := by decide +kernel
theorem dL_law_554 : decode cL_law 554 = .ok (.iload 5, 2) := by decide +kernel
theorem dL_law_556 : decode cL_law 556 = .ok (.if_icmp .eq 5, 3) := by decide +kernel
theorem dL_law_559 : decode cL_law 559 = .ok (.iconst 0, 1) := by decide +kernel
theorem dL_law_560 : decode cL_law 560 = .ok (.ireturn, 1) := by decide +kernel
theorem dL_law_561 : decode cL_law 561 = .ok (.iload 5, 2) := by decide +kernel
theorem dL_law_563 : decode cL_law 563 = .ok (.ifCond .ne 15, 3) := by decide +kernel
theorem dL_law_566 : decode cL_law 566 = .ok (.aload_n 3, 1) := by decide +kernel
theorem dL_law_567 : decode cL_law 567 = .ok (.iconst 0, 1) := by decide +kernel
theorem dL_law_568 : decode cL_law 568 = .ok (.laload, 1) := by decide +kernel
theorem dL_law_569 : decode cL_law 569 = .ok (.iload 6, 2) := by decide +kernel
theorem dL_law_571 : decode cL_law 571 = .ok (.i2l, 1) := by decide +kernel
theorem dL_law_572 : decode cL_law 572 = .ok (.lcmp, 1) := by decide +kernel
theorem dL_law_573 : decode cL_law 573 = .ok (.ifCond .eq 5, 3) := by decide +kernel
theorem dL_law_576 : decode cL_law 576 = .ok (.iconst 0, 1) := by decide +kernel
theorem dL_law_577 : decode cL_law 577 = .ok (.ireturn, 1) := by decide +kernel
theorem dL_law_578 : decode cL_law 578 = .ok (.goto 386, 3) := by decide +kernel
theorem dL_law_581 : decode cL_law 581 = .ok (.aload_n 1, 1) := by decide +kernel
theorem dL_law_582 : decode cL_law 582 = .ok (.aload_n 0, 1) := by decide +kernel
theorem dL_law_583 : decode cL_law 583 = .ok (.iload 4, 2) := by decide +kernel
theorem dL_law_585 : decode cL_law 585 = .ok (.iconst 1, 1) := by decide +kernel
theorem dL_law_586 : decode cL_law 586 = .ok (.iadd, 1) := by decide +kernel
theorem dL_law_587 : decode cL_law 587 = .ok (.iaload, 1) := by decide +kernel
theorem dL_law_588 : decode cL_law 588 = .ok (.aload_n 0, 1) := by decide +kernel
theorem dL_law_589 : decode cL_law 589 = .ok (.iload 4, 2) := by decide +kernel
theorem dL_law_591 : decode cL_law 591 = .ok (.iconst 2, 1) := by decide +kernel
theorem dL_law_592 : decode cL_law 592 = .ok (.iadd, 1) := by decide +kernel
theorem dL_law_593 : decode cL_law 593 = .ok (.iaload, 1) := by decide +kernel
theorem dL_law_594 : decode cL_law 594 = .ok (.aload_n 0, 1) := by decide +kernel
theorem dL_law_595 : decode cL_law 595 = .ok (.iload 4, 2) := by decide +kernel
theorem dL_law_597 : decode cL_law 597 = .ok (.iconst 3, 1) := by decide +kernel
theorem dL_law_598 : decode cL_law 598 = .ok (.iadd, 1) := by decide +kernel
theorem dL_law_599 : decode cL_law 599 = .ok (.iaload, 1) := by decide +kernel
theorem dL_law_600 : decode cL_law 600 = .ok (.aload_n 0, 1) := by decide +kernel
theorem dL_law_601 : decode cL_law 601 = .ok (.iload 4, 2) := by decide +kernel
theorem dL_law_603 : decode cL_law 603 = .ok (.iconst 4, 1) := by decide +kernel
theorem dL_law_604 : decode cL_law 604 = .ok (.iadd, 1) := by decide +kernel
theorem dL_law_605 : decode cL_law 605 = .ok (.iaload, 1) := by decide +kernel
theorem dL_law_606 : decode cL_law 606 = .ok (.invokevirtual 67, 3) := by decide +kernel
theorem dL_law_609 : decode cL_law 609 = .ok (.aload_n 2, 1) := by decide +kernel
theorem dL_law_610 : decode cL_law 610 = .ok (.aload_n 0, 1) := by decide +kernel
theorem dL_law_611 : decode cL_law 611 = .ok (.iload 4, 2) := by decide +kernel
theorem dL_law_613 : decode cL_law 613 = .ok (.iconst 1, 1) := by decide +kernel
theorem dL_law_614 : decode cL_law 614 = .ok (.iadd, 1) := by decide +kernel
theorem dL_law_615 : decode cL_law 615 = .ok (.iaload, 1) := by decide +kernel
theorem dL_law_616 : decode cL_law 616 = .ok (.aload_n 0, 1) := by decide +kernel
theorem dL_law_617 : decode cL_law 617 = .ok (.iload 4, 2) := by decide +kernel
theorem dL_law_619 : decode cL_law 619 = .ok (.iconst 2, 1) := by decide +kernel
theorem dL_law_620 : decode cL_law 620 = .ok (.iadd, 1) := by decide +kernel
theorem dL_law_621 : decode cL_law 621 = .ok (.iaload, 1) := by decide +kernel
theorem dL_law_622 : decode cL_law 622 = .ok (.aload_n 0, 1) := by decide +kernel
theorem dL_law_623 : decode cL_law 623 = .ok (.iload 4, 2) := by decide +kernel
theorem dL_law_625 : decode cL_law 625 = .ok (.iconst 3, 1) := by decide +kernel
theorem dL_law_626 : decode cL_law 626 = .ok (.iadd, 1) := by decide +kernel
theorem dL_law_627 : decode cL_law 627 = .ok (.iaload, 1) := by decide +kernel
theorem dL_law_628 : decode cL_law 628 = .ok (.aload_n 0, 1) := by decide +kernel
theorem dL_law_629 : decode cL_law 629 = .ok (.iload 4, 2) := by decide +kernel
theorem dL_law_631 : decode cL_law 631 = .ok (.iconst 4, 1) := by decide +kernel
theorem dL_law_632 : decode cL_law 632 = .ok (.iadd, 1) := by decide +kernel
theorem dL_law_633 : decode cL_law 633 = .ok (.iaload, 1) := by decide +kernel
theorem dL_law_634 : decode cL_law 634 = .ok (.invokevirtual 70, 3) := by decide +kernel
theorem dL_law_637 : decode cL_law 637 = .ok (.if_icmp .eq 327, 3) := by decide +kernel
theorem dL_law_640 : decode cL_law 640 = .ok (.iconst 0, 1) := by decide +kernel
theorem dL_law_641 : decode cL_law 641 = .ok (.ireturn, 1) := by decide +kernel
theorem dL_law_642 : decode cL_law 642 = .ok (.aload_n 1, 1) := by decide +kernel
theorem dL_law_643 : decode cL_law 643 = .ok (.aload_n 0, 1) := by decide +kernel
theorem dL_law_644 : decode cL_law 644 = .ok (.iload 4, 2) := by decide +kernel
theorem dL_law_646 : decode cL_law 646 = .ok (.iconst 1, 1) := by decide +kernel
theorem dL_law_647 : decode cL_law 647 = .ok (.iadd, 1) := by decide +kernel
theorem dL_law_648 : decode cL_law 648 = .ok (.iaload, 1) := by decide +kernel
theorem dL_law_649 : decode cL_law 649 = .ok (.aload_n 0, 1) := by decide +kernel
theorem dL_law_650 : decode cL_law 650 = .ok (.iload 4, 2) := by decide +kernel
theorem dL_law_652 : decode cL_law 652 = .ok (.iconst 2, 1) := by decide +kernel
theorem dL_law_653 : decode cL_law 653 = .ok (.iadd, 1) := by decide +kernel
theorem dL_law_654 : decode cL_law 654 = .ok (.iaload, 1) := by decide +kernel
theorem dL_law_655 : decode cL_law 655 = .ok (.aload_n 0, 1) := by decide +kernel
theorem dL_law_656 : decode cL_law 656 = .ok (.iload 4, 2) := by decide +kernel
theorem dL_law_658 : decode cL_law 658 = .ok (.iconst 3, 1) := by decide +kernel
theorem dL_law_659 : decode cL_law 659 = .ok (.iadd, 1) := by decide +kernel
theorem dL_law_660 : decode cL_law 660 = .ok (.iaload, 1) := by decide +kernel
theorem dL_law_661 : decode cL_law 661 = .ok (.aload_n 0, 1) := by decide +kernel
theorem dL_law_662 : decode cL_law 662 = .ok (.iload 4, 2) := by decide +kernel
theorem dL_law_664 : decode cL_law 664 = .ok (.iconst 4, 1) := by decide +kernel
theorem dL_law_665 : decode cL_law 665 = .ok (.iadd, 1) := by decide +kernel
theorem dL_law_666 : decode cL_law 666 = .ok (.iaload, 1) := by decide +kernel
theorem dL_law_667 : decode cL_law 667 = .ok (.aload_n 0, 1) := by decide +kernel
theorem dL_law_668 : decode cL_law 668 = .ok (.iload 4, 2) := by decide +kernel
theorem dL_law_670 : decode cL_law 670 = .ok (.iconst 5, 1) := by decide +kernel
theorem dL_law_671 : decode cL_law 671 = .ok (.iadd, 1) := by decide +kernel
theorem dL_law_672 : decode cL_law 672 = .ok (.iaload, 1) := by decide +kernel
theorem dL_law_673 : decode cL_law 673 = .ok (.aload_n 0, 1) := by decide +kernel
theorem dL_law_674 : decode cL_law 674 = .ok (.iload 4, 2) := by decide +kernel
theorem dL_law_676 : decode cL_law 676 = .ok (.bipush 6, 2) := by decide +kernel
theorem dL_law_678 : decode cL_law 678 = .ok (.iadd, 1) := by decide +kernel
theorem dL_law_679 : decode cL_law 679 = .ok (.iaload, 1) := by decide +kernel
theorem dL_law_680 : decode cL_law 680 = .ok (.invokevirtual 71, 3) := by decide +kernel
theorem dL_law_683 : decode cL_law 683 = .ok (.aload_n 2, 1) := by decide +kernel
theorem dL_law_684 : decode cL_law 684 = .ok (.aload_n 0, 1) := by decide +kernel
theorem dL_law_685 : decode cL_law 685 = .ok (.iload 4, 2) := by decide +kernel
theorem dL_law_687 : decode cL_law 687 = .ok (.iconst 1, 1) := by decide +kernel
theorem dL_law_688 : decode cL_law 688 = .ok (.iadd, 1) := by decide +kernel
theorem dL_law_689 : decode cL_law 689 = .ok (.iaload, 1) := by decide +kernel
theorem dL_law_690 : decode cL_law 690 = .ok (.aload_n 0, 1) := by decide +kernel
theorem dL_law_691 : decode cL_law 691 = .ok (.iload 4, 2) := by decide +kernel
theorem dL_law_693 : decode cL_law 693 = .ok (.iconst 2, 1) := by decide +kernel
theorem dL_law_694 : decode cL_law 694 = .ok (.iadd, 1) := by decide +kernel
theorem dL_law_695 : decode cL_law 695 = .ok (.iaload, 1) := by decide +kernel
theorem dL_law_696 : decode cL_law 696 = .ok (.aload_n 0, 1) := by decide +kernel
theorem dL_law_697 : decode cL_law 697 = .ok (.iload 4, 2) := by decide +kernel
theorem dL_law_699 : decode cL_law 699 = .ok (.iconst 3, 1) := by decide +kernel
theorem dL_law_700 : decode cL_law 700 = .ok (.iadd, 1) := by decide +kernel
theorem dL_law_701 : decode cL_law 701 = .ok (.iaload, 1) := by decide +kernel
theorem dL_law_702 : decode cL_law 702 = .ok (.aload_n 0, 1) := by decide +kernel
theorem dL_law_703 : decode cL_law 703 = .ok (.iload 4, 2) := by decide +kernel
theorem dL_law_705 : decode cL_law 705 = .ok (.iconst 4, 1) := by decide +kernel
theorem dL_law_706 : decode cL_law 706 = .ok (.iadd, 1) := by decide +kernel
theorem dL_law_707 : decode cL_law 707 = .ok (.iaload, 1) := by decide +kernel
theorem dL_law_708 : decode cL_law 708 = .ok (.aload_n 0, 1) := by decide +kernel
theorem dL_law_709 : decode cL_law 709 = .ok (.iload 4, 2) := by decide +kernel
theorem dL_law_711 : decode cL_law 711 = .ok (.iconst 5, 1) := by decide +kernel
theorem dL_law_712 : decode cL_law 712 = .ok (.iadd, 1) := by decide +kernel
theorem dL_law_713 : decode cL_law 713 = .ok (.iaload, 1) := by decide +kernel
theorem dL_law_714 : decode cL_law 714 = .ok (.aload_n 0, 1) := by decide +kernel
theorem dL_law_715 : decode cL_law 715 = .ok (.iload 4, 2) := by decide +kernel
theorem dL_law_717 : decode cL_law 717 = .ok (.bipush 6, 2) := by decide +kernel
theorem dL_law_719 : decode cL_law 719 = .ok (.iadd, 1) := by decide +kernel
theorem dL_law_720 : decode cL_law 720 = .ok (.iaload, 1) := by decide +kernel
theorem dL_law_721 : decode cL_law 721 = .ok (.invokevirtual 75, 3) := by decide +kernel
theorem dL_law_724 : decode cL_law 724 = .ok (.if_icmp .eq 240, 3) := by decide +kernel
theorem dL_law_727 : decode cL_law 727 = .ok (.iconst 0, 1) := by decide +kernel
theorem dL_law_728 : decode cL_law 728 = .ok (.ireturn, 1) := by decide +kernel
theorem dL_law_729 : decode cL_law 729 = .ok (.aload_n 1, 1) := by decide +kernel
theorem dL_law_730 : decode cL_law 730 = .ok (.aload_n 0, 1) := by decide +kernel
theorem dL_law_731 : decode cL_law 731 = .ok (.iload 4, 2) := by decide +kernel
theorem dL_law_733 : decode cL_law 733 = .ok (.iconst 1, 1) := by decide +kernel
theorem dL_law_734 : decode cL_law 734 = .ok (.iadd, 1) := by decide +kernel
theorem dL_law_735 : decode cL_law 735 = .ok (.iaload, 1) := by decide +kernel
theorem dL_law_736 : decode cL_law 736 = .ok (.aload_n 0, 1) := by decide +kernel
theorem dL_law_737 : decode cL_law 737 = .ok (.iload 4, 2) := by decide +kernel
theorem dL_law_739 : decode cL_law 739 = .ok (.iconst 2, 1) := by decide +kernel
theorem dL_law_740 : decode cL_law 740 = .ok (.iadd, 1) := by decide +kernel
theorem dL_law_741 : decode cL_law 741 = .ok (.iaload, 1) := by decide +kernel
theorem dL_law_742 : decode cL_law 742 = .ok (.invokevirtual 76, 3) := by decide +kernel
theorem dL_law_745 : decode cL_law 745 = .ok (.aload_n 2, 1) := by decide +kernel
theorem dL_law_746 : decode cL_law 746 = .ok (.aload_n 0, 1) := by decide +kernel
theorem dL_law_747 : decode cL_law 747 = .ok (.iload 4, 2) := by decide +kernel
theorem dL_law_749 : decode cL_law 749 = .ok (.iconst 1, 1) := by decide +kernel
theorem dL_law_750 : decode cL_law 750 = .ok (.iadd, 1) := by decide +kernel
theorem dL_law_751 : decode cL_law 751 = .ok (.iaload, 1) := by decide +kernel
theorem dL_law_752 : decode cL_law 752 = .ok (.aload_n 0, 1) := by decide +kernel
theorem dL_law_753 : decode cL_law 753 = .ok (.iload 4, 2) := by decide +kernel
theorem dL_law_755 : decode cL_law 755 = .ok (.iconst 2, 1) := by decide +kernel
theorem dL_law_756 : decode cL_law 756 = .ok (.iadd, 1) := by decide +kernel
theorem dL_law_757 : decode cL_law 757 = .ok (.iaload, 1) := by decide +kernel
theorem dL_law_758 : decode cL_law 758 = .ok (.invokevirtual 79, 3) := by decide +kernel
theorem dL_law_761 : decode cL_law 761 = .ok (.if_icmp .eq 203, 3) := by decide +kernel
theorem dL_law_764 : decode cL_law 764 = .ok (.iconst 0, 1) := by decide +kernel
theorem dL_law_765 : decode cL_law 765 = .ok (.ireturn, 1) := by decide +kernel
theorem dL_law_766 : decode cL_law 766 = .ok (.aload_n 1, 1) := by decide +kernel
theorem dL_law_767 : decode cL_law 767 = .ok (.aload_n 0, 1) := by decide +kernel
theorem dL_law_768 : decode cL_law 768 = .ok (.iload 4, 2) := by decide +kernel
theorem dL_law_770 : decode cL_law 770 = .ok (.iconst 1, 1) := by decide +kernel
theorem dL_law_771 : decode cL_law 771 = .ok (.iadd, 1) := by decide +kernel
theorem dL_law_772 : decode cL_law 772 = .ok (.iaload, 1) := by decide +kernel
theorem dL_law_773 : decode cL_law 773 = .ok (.aload_n 0, 1) := by decide +kernel
theorem dL_law_774 : decode cL_law 774 = .ok (.iload 4, 2) := by decide +kernel
theorem dL_law_776 : decode cL_law 776 = .ok (.iconst 2, 1) := by decide +kernel
theorem dL_law_777 : decode cL_law 777 = .ok (.iadd, 1) := by decide +kernel
theorem dL_law_778 : decode cL_law 778 = .ok (.iaload, 1) := by decide +kernel
theorem dL_law_779 : decode cL_law 779 = .ok (.aload_n 0, 1) := by decide +kernel
theorem dL_law_780 : decode cL_law 780 = .ok (.iload 4, 2) := by decide +kernel
theorem dL_law_782 : decode cL_law 782 = .ok (.iconst 3, 1) := by decide +kernel
theorem dL_law_783 : decode cL_law 783 = .ok (.iadd, 1) := by decide +kernel
theorem dL_law_784 : decode cL_law 784 = .ok (.iaload, 1) := by decide +kernel
theorem dL_law_785 : decode cL_law 785 = .ok (.invokevirtual 80, 3) := by decide +kernel
theorem dL_law_788 : decode cL_law 788 = .ok (.aload_n 2, 1) := by decide +kernel
theorem dL_law_789 : decode cL_law 789 = .ok (.aload_n 0, 1) := by decide +kernel
theorem dL_law_790 : decode cL_law 790 = .ok (.iload 4, 2) := by decide +kernel
theorem dL_law_792 : decode cL_law 792 = .ok (.iconst 1, 1) := by decide +kernel
theorem dL_law_793 : decode cL_law 793 = .ok (.iadd, 1) := by decide +kernel
theorem dL_law_794 : decode cL_law 794 = .ok (.iaload, 1) := by decide +kernel
theorem dL_law_795 : decode cL_law 795 = .ok (.aload_n 0, 1) := by decide +kernel
theorem dL_law_796 : decode cL_law 796 = .ok (.iload 4, 2) := by decide +kernel
theorem dL_law_798 : decode cL_law 798 = .ok (.iconst 2, 1) := by decide +kernel
theorem dL_law_799 : decode cL_law 799 = .ok (.iadd, 1) := by decide +kernel
theorem dL_law_800 : decode cL_law 800 = .ok (.iaload, 1) := by decide +kernel
theorem dL_law_801 : decode cL_law 801 = .ok (.aload_n 0, 1) := by decide +kernel
theorem dL_law_802 : decode cL_law 802 = .ok (.iload 4, 2) := by decide +kernel
theorem dL_law_804 : decode cL_law 804 = .ok (.iconst 3, 1) := by decide +kernel
theorem dL_law_805 : decode cL_law 805 = .ok (.iadd, 1) := by decide +kernel
theorem dL_law_806 : decode cL_law 806 = .ok (.iaload, 1) := by decide +kernel
theorem dL_law_807 : decode cL_law 807 = .ok (.invokevirtual 83, 3) := by decide +kernel
theorem dL_law_810 : decode cL_law 810 = .ok (.if_icmp .eq 154, 3) := by decide +kernel
theorem dL_law_813 : decode cL_law 813 = .ok (.iconst 0, 1) := by decide +kernel
theorem dL_law_814 : decode cL_law 814 = .ok (.ireturn, 1) := by decide +kernel
theorem dL_law_815 : decode cL_law 815 = .ok (.aload_n 1, 1) := by decide +kernel
theorem dL_law_816 : decode cL_law 816 = .ok (.invokevirtual 84, 3) := by decide +kernel
theorem dL_law_819 : decode cL_law 819 = .ok (.aload_n 2, 1) := by decide +kernel
theorem dL_law_820 : decode cL_law 820 = .ok (.invokevirtual 87, 3) := by decide +kernel
theorem dL_law_823 : decode cL_law 823 = .ok (.if_icmp .eq 141, 3) := by decide +kernel
theorem dL_law_826 : decode cL_law 826 = .ok (.iconst 0, 1) := by decide +kernel
theorem dL_law_827 : decode cL_law 827 = .ok (.ireturn, 1) := by decide +kernel
theorem dL_law_828 : decode cL_law 828 = .ok (.aload_n 1, 1) := by decide +kernel
theorem dL_law_829 : decode cL_law 829 = .ok (.aload_n 0, 1) := by decide +kernel
theorem dL_law_830 : decode cL_law 830 = .ok (.iload 4, 2) := by decide +kernel
theorem dL_law_832 : decode cL_law 832 = .ok (.iconst 1, 1) := by decide +kernel
theorem dL_law_833 : decode cL_law 833 = .ok (.iadd, 1) := by decide +kernel
theorem dL_law_834 : decode cL_law 834 = .ok (.iaload, 1) := by decide +kernel
theorem dL_law_835 : decode cL_law 835 = .ok (.invokevirtual 88, 3) := by decide +kernel
theorem dL_law_838 : decode cL_law 838 = .ok (.aload_n 2, 1) := by decide +kernel
theorem dL_law_839 : decode cL_law 839 = .ok (.aload_n 0, 1) := by decide +kernel
theorem dL_law_840 : decode cL_law 840 = .ok (.iload 4, 2) := by decide +kernel
theorem dL_law_842 : decode cL_law 842 = .ok (.iconst 1, 1) := by decide +kernel
theorem dL_law_843 : decode cL_law 843 = .ok (.iadd, 1) := by decide +kernel
theorem dL_law_844 : decode cL_law 844 = .ok (.iaload, 1) := by decide +kernel
theorem dL_law_845 : decode cL_law 845 = .ok (.invokevirtual 92, 3) := by decide +kernel
theorem dL_law_848 : decode cL_law 848 = .ok (.if_icmp .eq 116, 3) := by decide +kernel
theorem dL_law_851 : decode cL_law 851 = .ok (.iconst 0, 1) := by decide +kernel
theorem dL_law_852 : decode cL_law 852 = .ok (.ireturn, 1) := by decide +kernel
theorem dL_law_853 : decode cL_law 853 = .ok (.aload_n 1, 1) := by decide +kernel
theorem dL_law_854 : decode cL_law 854 = .ok (.aload_n 0, 1) := by decide +kernel
theorem dL_law_855 : decode cL_law 855 = .ok (.iload 4, 2) := by decide +kernel
theorem dL_law_857 : decode cL_law 857 = .ok (.iconst 1, 1) := by decide +kernel
theorem dL_law_858 : decode cL_law 858 = .ok (.iadd, 1) := by decide +kernel
theorem dL_law_859 : decode cL_law 859 = .ok (.iaload, 1) := by decide +kernel
theorem dL_law_860 : decode cL_law 860 = .ok (.aload_n 0, 1) := by decide +kernel
theorem dL_law_861 : decode cL_law 861 = .ok (.iload 4, 2) := by decide +kernel
theorem dL_law_863 : decode cL_law 863 = .ok (.iconst 2, 1) := by decide +kernel
theorem dL_law_864 : decode cL_law 864 = .ok (.iadd, 1) := by decide +kernel
theorem dL_law_865 : decode cL_law 865 = .ok (.iaload, 1) := by decide +kernel
theorem dL_law_866 : decode cL_law 866 = .ok (.aload_n 0, 1) := by decide +kernel
theorem dL_law_867 : decode cL_law 867 = .ok (.iload 4, 2) := by decide +kernel
theorem dL_law_869 : decode cL_law 869 = .ok (.iconst 3, 1) := by decide +kernel
theorem dL_law_870 : decode cL_law 870 = .ok (.iadd, 1) := by decide +kernel
theorem dL_law_871 : decode cL_law 871 = .ok (.iaload, 1) := by decide +kernel
theorem dL_law_872 : decode cL_law 872 = .ok (.aload_n 0, 1) := by decide +kernel
theorem dL_law_873 : decode cL_law 873 = .ok (.iload 4, 2) := by decide +kernel
theorem dL_law_875 : decode cL_law 875 = .ok (.iconst 4, 1) := by decide +kernel
theorem dL_law_876 : decode cL_law 876 = .ok (.iadd, 1) := by decide +kernel
theorem dL_law_877 : decode cL_law 877 = .ok (.iaload, 1) := by decide +kernel
theorem dL_law_878 : decode cL_law 878 = .ok (.invokevirtual 93, 3) := by decide +kernel
theorem dL_law_881 : decode cL_law 881 = .ok (.aload_n 2, 1) := by decide +kernel
theorem dL_law_882 : decode cL_law 882 = .ok (.aload_n 0, 1) := by decide +kernel
theorem dL_law_883 : decode cL_law 883 = .ok (.iload 4, 2) := by decide +kernel
theorem dL_law_885 : decode cL_law 885 = .ok (.iconst 1, 1) := by decide +kernel
theorem dL_law_886 : decode cL_law 886 = .ok (.iadd, 1) := by decide +kernel
theorem dL_law_887 : decode cL_law 887 = .ok (.iaload, 1) := by decide +kernel
theorem dL_law_888 : decode cL_law 888 = .ok (.aload_n 0, 1) := by decide +kernel
theorem dL_law_889 : decode cL_law 889 = .ok (.iload 4, 2) := by decide +kernel
theorem dL_law_891 : decode cL_law 891 = .ok (.iconst 2, 1) := by decide +kernel
theorem dL_law_892 : decode cL_law 892 = .ok (.iadd, 1) := by decide +kernel
theorem dL_law_893 : decode cL_law 893 = .ok (.iaload, 1) := by decide +kernel
theorem dL_law_894 : decode cL_law 894 = .ok (.aload_n 0, 1) := by decide +kernel
theorem dL_law_895 : decode cL_law 895 = .ok (.iload 4, 2) := by decide +kernel
theorem dL_law_897 : decode cL_law 897 = .ok (.iconst 3, 1) := by decide +kernel
theorem dL_law_898 : decode cL_law 898 = .ok (.iadd, 1) := by decide +kernel
theorem dL_law_899 : decode cL_law 899 = .ok (.iaload, 1) := by decide +kernel
theorem dL_law_900 : decode cL_law 900 = .ok (.aload_n 0, 1) := by decide +kernel
theorem dL_law_901 : decode cL_law 901 = .ok (.iload 4, 2) := by decide +kernel
theorem dL_law_903 : decode cL_law 903 = .ok (.iconst 4, 1) := by decide +kernel
theorem dL_law_904 : decode cL_law 904 = .ok (.iadd, 1) := by decide +kernel
theorem dL_law_905 : decode cL_law 905 = .ok (.iaload, 1) := by decide +kernel
theorem dL_law_906 : decode cL_law 906 = .ok (.invokevirtual 96, 3) := by decide +kernel
theorem dL_law_909 : decode cL_law 909 = .ok (.if_icmp .eq 55, 3) := by decide +kernel
theorem dL_law_912 : decode cL_law 912 = .ok (.iconst 0, 1) := by decide +kernel
theorem dL_law_913 : decode cL_law 913 = .ok (.ireturn, 1) := by decide +kernel
theorem dL_law_914 : decode cL_law 914 = .ok (.aload_n 1, 1) := by decide +kernel
theorem dL_law_915 : decode cL_law 915 = .ok (.aload_n 0, 1) := by decide +kernel
theorem dL_law_916 : decode cL_law 916 = .ok (.iload 4, 2) := by decide +kernel
theorem dL_law_918 : decode cL_law 918 = .ok (.iconst 1, 1) := by decide +kernel
theorem dL_law_919 : decode cL_law 919 = .ok (.iadd, 1) := by decide +kernel
theorem dL_law_920 : decode cL_law 920 = .ok (.iaload, 1) := by decide +kernel
theorem dL_law_921 : decode cL_law 921 = .ok (.invokevirtual 97, 3) := by decide +kernel
theorem dL_law_924 : decode cL_law 924 = .ok (.aload_n 2, 1) := by decide +kernel
theorem dL_law_925 : decode cL_law 925 = .ok (.aload_n 0, 1) := by decide +kernel
theorem dL_law_926 : decode cL_law 926 = .ok (.iload 4, 2) := by decide +kernel
theorem dL_law_928 : decode cL_law 928 = .ok (.iconst 1, 1) := by decide +kernel
theorem dL_law_929 : decode cL_law 929 = .ok (.iadd, 1) := by decide +kernel
theorem dL_law_930 : decode cL_law 930 = .ok (.iaload, 1) := by decide +kernel
theorem dL_law_931 : decode cL_law 931 = .ok (.invokevirtual 100, 3) := by decide +kernel
theorem dL_law_934 : decode cL_law 934 = .ok (.if_icmp .eq 30, 3) := by decide +kernel
theorem dL_law_937 : decode cL_law 937 = .ok (.iconst 0, 1) := by decide +kernel
theorem dL_law_938 : decode cL_law 938 = .ok (.ireturn, 1) := by decide +kernel
theorem dL_law_939 : decode cL_law 939 = .ok (.aload_n 1, 1) := by decide +kernel
theorem dL_law_940 : decode cL_law 940 = .ok (.aload_n 0, 1) := by decide +kernel
theorem dL_law_941 : decode cL_law 941 = .ok (.iload 4, 2) := by decide +kernel
theorem dL_law_943 : decode cL_law 943 = .ok (.iconst 1, 1) := by decide +kernel
theorem dL_law_944 : decode cL_law 944 = .ok (.iadd, 1) := by decide +kernel
theorem dL_law_945 : decode cL_law 945 = .ok (.iaload, 1) := by decide +kernel
theorem dL_law_946 : decode cL_law 946 = .ok (.invokevirtual 101, 3) := by decide +kernel
theorem dL_law_949 : decode cL_law 949 = .ok (.aload_n 2, 1) := by decide +kernel
theorem dL_law_950 : decode cL_law 950 = .ok (.aload_n 0, 1) := by decide +kernel
theorem dL_law_951 : decode cL_law 951 = .ok (.iload 4, 2) := by decide +kernel
theorem dL_law_953 : decode cL_law 953 = .ok (.iconst 1, 1) := by decide +kernel
theorem dL_law_954 : decode cL_law 954 = .ok (.iadd, 1) := by decide +kernel
theorem dL_law_955 : decode cL_law 955 = .ok (.iaload, 1) := by decide +kernel
theorem dL_law_956 : decode cL_law 956 = .ok (.invokevirtual 104, 3) := by decide +kernel
theorem dL_law_959 : decode cL_law 959 = .ok (.if_icmp .eq 5, 3) := by decide +kernel
theorem dL_law_962 : decode cL_law 962 = .ok (.iconst 0, 1) := by decide +kernel
theorem dL_law_963 : decode cL_law 963 = .ok (.ireturn, 1) := by decide +kernel
theorem dL_law_964 : decode cL_law 964 = .ok (.iinc 4 7, 3) := by decide +kernel
theorem dL_law_967 : decode cL_law 967 = .ok (.goto (-944), 3) := by decide +kernel
theorem dL_law_970 : decode cL_law 970 = .ok (.iconst 1, 1) := by decide +kernel
theorem dL_law_971 : decode cL_law 971 = .ok (.ireturn, 1) := by decide +kernel
abbrev vwCl : List vw_C := [(RX1, TX1, 5), (RX2, TX2, 1), (RX3, TX3, 10), (RX4, TX4, 4), (RX5, TX5, 5), (RX6, TX6, 8), (RX7, TX7, 30)]
