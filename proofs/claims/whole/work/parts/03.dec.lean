theorem dX0_allows_0 : decode cX0_allows 0 = .ok (.iload_n 0, 1) := by decide +kernel
theorem dX0_allows_1 : decode cX0_allows 1 = .ok (.tableswitch 98 0 4 #[35, 37, 49, 66, 82], 35) := by decide +kernel
theorem dX0_allows_36 : decode cX0_allows 36 = .ok (.iconst 1, 1) := by decide +kernel
theorem dX0_allows_37 : decode cX0_allows 37 = .ok (.ireturn, 1) := by decide +kernel
theorem dX0_allows_38 : decode cX0_allows 38 = .ok (.iload_n 1, 1) := by decide +kernel
theorem dX0_allows_39 : decode cX0_allows 39 = .ok (.bipush 40, 2) := by decide +kernel
theorem dX0_allows_41 : decode cX0_allows 41 = .ok (.if_icmp .gt 7, 3) := by decide +kernel
theorem dX0_allows_44 : decode cX0_allows 44 = .ok (.iconst 1, 1) := by decide +kernel
theorem dX0_allows_45 : decode cX0_allows 45 = .ok (.goto 4, 3) := by decide +kernel
theorem dX0_allows_48 : decode cX0_allows 48 = .ok (.iconst 0, 1) := by decide +kernel
theorem dX0_allows_49 : decode cX0_allows 49 = .ok (.ireturn, 1) := by decide +kernel
theorem dX0_allows_50 : decode cX0_allows 50 = .ok (.iload_n 1, 1) := by decide +kernel
theorem dX0_allows_51 : decode cX0_allows 51 = .ok (.ifCond .lt 14, 3) := by decide +kernel
theorem dX0_allows_54 : decode cX0_allows 54 = .ok (.iload_n 1, 1) := by decide +kernel
theorem dX0_allows_55 : decode cX0_allows 55 = .ok (.sipush 256, 3) := by decide +kernel
theorem dX0_allows_58 : decode cX0_allows 58 = .ok (.if_icmp .gt 7, 3) := by decide +kernel
theorem dX0_allows_61 : decode cX0_allows 61 = .ok (.iconst 1, 1) := by decide +kernel
theorem dX0_allows_62 : decode cX0_allows 62 = .ok (.goto 4, 3) := by decide +kernel
theorem dX0_allows_65 : decode cX0_allows 65 = .ok (.iconst 0, 1) := by decide +kernel
theorem dX0_allows_66 : decode cX0_allows 66 = .ok (.ireturn, 1) := by decide +kernel
theorem dX0_allows_67 : decode cX0_allows 67 = .ok (.iload_n 1, 1) := by decide +kernel
theorem dX0_allows_68 : decode cX0_allows 68 = .ok (.ifCond .lt 13, 3) := by decide +kernel
theorem dX0_allows_71 : decode cX0_allows 71 = .ok (.iload_n 1, 1) := by decide +kernel
theorem dX0_allows_72 : decode cX0_allows 72 = .ok (.bipush 100, 2) := by decide +kernel
theorem dX0_allows_74 : decode cX0_allows 74 = .ok (.if_icmp .gt 7, 3) := by decide +kernel
theorem dX0_allows_77 : decode cX0_allows 77 = .ok (.iconst 1, 1) := by decide +kernel
theorem dX0_allows_78 : decode cX0_allows 78 = .ok (.goto 4, 3) := by decide +kernel
theorem dX0_allows_81 : decode cX0_allows 81 = .ok (.iconst 0, 1) := by decide +kernel
theorem dX0_allows_82 : decode cX0_allows 82 = .ok (.ireturn, 1) := by decide +kernel
theorem dX0_allows_83 : decode cX0_allows 83 = .ok (.iload_n 1, 1) := by decide +kernel
theorem dX0_allows_84 : decode cX0_allows 84 = .ok (.ifCond .lt 13, 3) := by decide +kernel
theorem dX0_allows_87 : decode cX0_allows 87 = .ok (.iload_n 1, 1) := by decide +kernel
theorem dX0_allows_88 : decode cX0_allows 88 = .ok (.bipush 50, 2) := by decide +kernel
theorem dX0_allows_90 : decode cX0_allows 90 = .ok (.if_icmp .gt 7, 3) := by decide +kernel
theorem dX0_allows_93 : decode cX0_allows 93 = .ok (.iconst 1, 1) := by decide +kernel
theorem dX0_allows_94 : decode cX0_allows 94 = .ok (.goto 4, 3) := by decide +kernel
theorem dX0_allows_97 : decode cX0_allows 97 = .ok (.iconst 0, 1) := by decide +kernel
theorem dX0_allows_98 : decode cX0_allows 98 = .ok (.ireturn, 1) := by decide +kernel
theorem dX0_allows_99 : decode cX0_allows 99 = .ok (.iconst 0, 1) := by decide +kernel
theorem dX0_allows_100 : decode cX0_allows 100 = .ok (.ireturn, 1) := by decide +kernel
set_option maxRecDepth 20000 in
theorem ggX0_failure_X0_failureOfCrop : GoodIn wsX0_failure wsX0_failureOfCrop := goodIn_r _ [4, 8, 9, 10, 11, 12] (by decide +kernel) (by decide +kernel)
set_option maxRecDepth 20000 in
theorem gX0_failure_X0_failureOfCrop : GoodIn wsX0_failure (va_wsS RX0 17 yX0_failureOfCrop wsX0_failureOfCrop) := goodIn_app (goodIn_of _ (by decide +kernel)) ggX0_failure_X0_failureOfCrop
set_option maxRecDepth 20000 in
theorem ggX0_failure_X0_failureOfSwap : GoodIn wsX0_failure wsX0_failureOfSwap := goodIn_r _ [7, 8, 9, 10, 11, 12] (by decide +kernel) (by decide +kernel)
set_option maxRecDepth 20000 in
theorem gX0_failure_X0_failureOfSwap : GoodIn wsX0_failure (va_wsS RX0 24 yX0_failureOfSwap wsX0_failureOfSwap) := goodIn_app (goodIn_of _ (by decide +kernel)) ggX0_failure_X0_failureOfSwap
theorem dX0_failure_0 : decode cX0_failure 0 = .ok (.aload_n 1, 1) := by decide +kernel
theorem dX0_failure_1 : decode cX0_failure 1 = .ok (.getfield 11, 3) := by decide +kernel
theorem dX0_failure_4 : decode cX0_failure 4 = .ok (.iconst 2, 1) := by decide +kernel
theorem dX0_failure_5 : decode cX0_failure 5 = .ok (.if_icmp .ne 6, 3) := by decide +kernel
theorem dX0_failure_8 : decode cX0_failure 8 = .ok (.bipush (-11), 2) := by decide +kernel
theorem dX0_failure_10 : decode cX0_failure 10 = .ok (.ireturn, 1) := by decide +kernel
theorem dX0_failure_11 : decode cX0_failure 11 = .ok (.iload_n 0, 1) := by decide +kernel
theorem dX0_failure_12 : decode cX0_failure 12 = .ok (.iconst 3, 1) := by decide +kernel
theorem dX0_failure_13 : decode cX0_failure 13 = .ok (.if_icmp .eq 8, 3) := by decide +kernel
theorem dX0_failure_16 : decode cX0_failure 16 = .ok (.iload_n 0, 1) := by decide +kernel
theorem dX0_failure_17 : decode cX0_failure 17 = .ok (.iconst 4, 1) := by decide +kernel
theorem dX0_failure_18 : decode cX0_failure 18 = .ok (.if_icmp .ne 7, 3) := by decide +kernel
theorem dX0_failure_21 : decode cX0_failure 21 = .ok (.iconst 0, 1) := by decide +kernel
theorem dX0_failure_22 : decode cX0_failure 22 = .ok (.goto 4, 3) := by decide +kernel
theorem dX0_failure_25 : decode cX0_failure 25 = .ok (.iconst 1, 1) := by decide +kernel
theorem dX0_failure_26 : decode cX0_failure 26 = .ok (.istore_n 3, 1) := by decide +kernel
theorem dX0_failure_27 : decode cX0_failure 27 = .ok (.aload_n 1, 1) := by decide +kernel
theorem dX0_failure_28 : decode cX0_failure 28 = .ok (.getfield 11, 3) := by decide +kernel
theorem dX0_failure_31 : decode cX0_failure 31 = .ok (.iload_n 3, 1) := by decide +kernel
theorem dX0_failure_32 : decode cX0_failure 32 = .ok (.if_icmp .eq 6, 3) := by decide +kernel
theorem dX0_failure_35 : decode cX0_failure 35 = .ok (.bipush (-12), 2) := by decide +kernel
theorem dX0_failure_37 : decode cX0_failure 37 = .ok (.ireturn, 1) := by decide +kernel
theorem dX0_failure_38 : decode cX0_failure 38 = .ok (.iload_n 0, 1) := by decide +kernel
theorem dX0_failure_39 : decode cX0_failure 39 = .ok (.tableswitch 59 1 4 #[29, 35, 59, 53], 29) := by decide +kernel
theorem dX0_failure_68 : decode cX0_failure 68 = .ok (.aload_n 1, 1) := by decide +kernel
theorem dX0_failure_69 : decode cX0_failure 69 = .ok (.iload_n 2, 1) := by decide +kernel
theorem dX0_failure_70 : decode cX0_failure 70 = .ok (.invokestatic 17, 3) := by decide +kernel
theorem dX0_failure_73 : decode cX0_failure 73 = .ok (.ireturn, 1) := by decide +kernel
theorem dX0_failure_74 : decode cX0_failure 74 = .ok (.iload_n 2, 1) := by decide +kernel
theorem dX0_failure_75 : decode cX0_failure 75 = .ok (.ifCond .ne 15, 3) := by decide +kernel
theorem dX0_failure_78 : decode cX0_failure 78 = .ok (.aload_n 1, 1) := by decide +kernel
theorem dX0_failure_79 : decode cX0_failure 79 = .ok (.getfield 21, 3) := by decide +kernel
theorem dX0_failure_82 : decode cX0_failure 82 = .ok (.ifCond .le 8, 3) := by decide +kernel
theorem dX0_failure_85 : decode cX0_failure 85 = .ok (.bipush (-16), 2) := by decide +kernel
theorem dX0_failure_87 : decode cX0_failure 87 = .ok (.goto 4, 3) := by decide +kernel
theorem dX0_failure_90 : decode cX0_failure 90 = .ok (.iconst 0, 1) := by decide +kernel
theorem dX0_failure_91 : decode cX0_failure 91 = .ok (.ireturn, 1) := by decide +kernel
theorem dX0_failure_92 : decode cX0_failure 92 = .ok (.aload_n 1, 1) := by decide +kernel
theorem dX0_failure_93 : decode cX0_failure 93 = .ok (.iload_n 2, 1) := by decide +kernel
theorem dX0_failure_94 : decode cX0_failure 94 = .ok (.invokestatic 24, 3) := by decide +kernel
theorem dX0_failure_97 : decode cX0_failure 97 = .ok (.ireturn, 1) := by decide +kernel
theorem dX0_failure_98 : decode cX0_failure 98 = .ok (.iconst 0, 1) := by decide +kernel
theorem dX0_failure_99 : decode cX0_failure 99 = .ok (.ireturn, 1) := by decide +kernel
theorem dX0_failureOfCrop_0 : decode cX0_failureOfCrop 0 = .ok (.iload_n 1, 1) := by decide +kernel
theorem dX0_failureOfCrop_1 : decode cX0_failureOfCrop 1 = .ok (.aload_n 0, 1) := by decide +kernel
theorem dX0_failureOfCrop_2 : decode cX0_failureOfCrop 2 = .ok (.getfield 27, 3) := by decide +kernel
theorem dX0_failureOfCrop_5 : decode cX0_failureOfCrop 5 = .ok (.if_icmp .gt 11, 3) := by decide +kernel
theorem dX0_failureOfCrop_8 : decode cX0_failureOfCrop 8 = .ok (.iload_n 1, 1) := by decide +kernel
theorem dX0_failureOfCrop_9 : decode cX0_failureOfCrop 9 = .ok (.aload_n 0, 1) := by decide +kernel
theorem dX0_failureOfCrop_10 : decode cX0_failureOfCrop 10 = .ok (.getfield 30, 3) := by decide +kernel
theorem dX0_failureOfCrop_13 : decode cX0_failureOfCrop 13 = .ok (.if_icmp .le 6, 3) := by decide +kernel
theorem dX0_failureOfCrop_16 : decode cX0_failureOfCrop 16 = .ok (.bipush (-13), 2) := by decide +kernel
theorem dX0_failureOfCrop_18 : decode cX0_failureOfCrop 18 = .ok (.ireturn, 1) := by decide +kernel
theorem dX0_failureOfCrop_19 : decode cX0_failureOfCrop 19 = .ok (.iload_n 1, 1) := by decide +kernel
theorem dX0_failureOfCrop_20 : decode cX0_failureOfCrop 20 = .ok (.ifCond .ge 8, 3) := by decide +kernel
theorem dX0_failureOfCrop_23 : decode cX0_failureOfCrop 23 = .ok (.bipush (-15), 2) := by decide +kernel
theorem dX0_failureOfCrop_25 : decode cX0_failureOfCrop 25 = .ok (.goto 4, 3) := by decide +kernel
theorem dX0_failureOfCrop_28 : decode cX0_failureOfCrop 28 = .ok (.iconst 0, 1) := by decide +kernel
theorem dX0_failureOfCrop_29 : decode cX0_failureOfCrop 29 = .ok (.ireturn, 1) := by decide +kernel
theorem dX0_failureOfSwap_0 : decode cX0_failureOfSwap 0 = .ok (.iload_n 1, 1) := by decide +kernel
theorem dX0_failureOfSwap_1 : decode cX0_failureOfSwap 1 = .ok (.ifCond .eq 11, 3) := by decide +kernel
theorem dX0_failureOfSwap_4 : decode cX0_failureOfSwap 4 = .ok (.aload_n 0, 1) := by decide +kernel
theorem dX0_failureOfSwap_5 : decode cX0_failureOfSwap 5 = .ok (.getfield 21, 3) := by decide +kernel
theorem dX0_failureOfSwap_8 : decode cX0_failureOfSwap 8 = .ok (.iconst 1, 1) := by decide +kernel
theorem dX0_failureOfSwap_9 : decode cX0_failureOfSwap 9 = .ok (.if_icmp .le 5, 3) := by decide +kernel
theorem dX0_failureOfSwap_12 : decode cX0_failureOfSwap 12 = .ok (.iconst 0, 1) := by decide +kernel
theorem dX0_failureOfSwap_13 : decode cX0_failureOfSwap 13 = .ok (.ireturn, 1) := by decide +kernel
theorem dX0_failureOfSwap_14 : decode cX0_failureOfSwap 14 = .ok (.aload_n 0, 1) := by decide +kernel
theorem dX0_failureOfSwap_15 : decode cX0_failureOfSwap 15 = .ok (.getfield 21, 3) := by decide +kernel
theorem dX0_failureOfSwap_18 : decode cX0_failureOfSwap 18 = .ok (.ifCond .ne 8, 3) := by decide +kernel
theorem dX0_failureOfSwap_21 : decode cX0_failureOfSwap 21 = .ok (.bipush (-13), 2) := by decide +kernel
theorem dX0_failureOfSwap_23 : decode cX0_failureOfSwap 23 = .ok (.goto 5, 3) := by decide +kernel
theorem dX0_failureOfSwap_26 : decode cX0_failureOfSwap 26 = .ok (.bipush (-16), 2) := by decide +kernel
theorem dX0_failureOfSwap_28 : decode cX0_failureOfSwap 28 = .ok (.ireturn, 1) := by decide +kernel
set_option maxRecDepth 20000 in
theorem ggX0_alter_X2_below : GoodIn wsX0_alter wsX2_below := goodIn_r _ [5, 6, 7, 8, 9, 4, 10, 11, 12, 68] (by decide +kernel) (by decide +kernel)
set_option maxRecDepth 20000 in
theorem gX0_alter_X2_below : GoodIn wsX0_alter (wsV RX0 33 RX2 yX2_below wsX2_below) := goodIn_app (goodIn_of _ (by decide +kernel)) ggX0_alter_X2_below
set_option maxRecDepth 20000 in
theorem ggX0_alter_X0_turn : GoodIn wsX0_alter wsX0_turn := goodIn_r _ [16, 17, 18, 19, 20, 21, 22, 23, 24, 25, 26, 27, 15, 28, 29, 30, 31, 32, 33, 34, 35, 36, 37, 38, 39, 40, 41, 69, 70, 71, 72, 73] (by decide +kernel) (by decide +kernel)
set_option maxRecDepth 20000 in
theorem gX0_alter_X0_turn : GoodIn wsX0_alter (va_wsS RX0 39 yX0_turn wsX0_turn) := goodIn_app (goodIn_of _ (by decide +kernel)) ggX0_alter_X0_turn
set_option maxRecDepth 20000 in
theorem ggX0_alter_X0_crop : GoodIn wsX0_alter wsX0_crop := goodIn_r _ [44, 1, 2, 3, 4, 5, 6, 7, 8, 9, 10, 11, 12, 17, 18, 19, 20, 21, 22, 23, 24, 25, 29, 30, 31, 32, 33, 34, 35, 36, 37, 38, 39, 40, 41, 69, 70, 71, 72, 73, 68] (by decide +kernel) (by decide +kernel)
set_option maxRecDepth 20000 in
theorem gX0_alter_X0_crop : GoodIn wsX0_alter (va_wsS RX0 43 yX0_crop wsX0_crop) := goodIn_app (goodIn_of _ (by decide +kernel)) ggX0_alter_X0_crop
set_option maxRecDepth 20000 in
theorem ggX0_alter_X0_addNoise : GoodIn wsX0_alter wsX0_addNoise := goodIn_r _ [47, 17, 18, 19, 20, 21, 22, 23, 24, 25, 29, 30, 31, 32, 33, 34, 35, 36, 37, 1, 2, 3, 4, 5, 6, 7, 8, 9, 10, 11, 12, 38, 39, 40, 41, 69, 70, 71, 72, 73, 68] (by decide +kernel) (by decide +kernel)
set_option maxRecDepth 20000 in
theorem gX0_alter_X0_addNoise : GoodIn wsX0_alter (va_wsS RX0 47 yX0_addNoise wsX0_addNoise) := goodIn_app (goodIn_of _ (by decide +kernel)) ggX0_alter_X0_addNoise
set_option maxRecDepth 20000 in
theorem ggX0_alter_X0_leaveOut : GoodIn wsX0_alter wsX0_leaveOut := goodIn_r _ [50, 51, 52, 53, 20, 54, 22, 23, 24, 25, 1, 2, 3, 4, 5, 6, 7, 8, 9, 10, 11, 12, 29, 30, 31, 32, 33, 34, 35, 36, 37, 55, 56, 57, 58, 69, 70, 71, 72, 73, 68] (by decide +kernel) (by decide +kernel)
set_option maxRecDepth 20000 in
theorem gX0_alter_X0_leaveOut : GoodIn wsX0_alter (va_wsS RX0 50 yX0_leaveOut wsX0_leaveOut) := goodIn_app (goodIn_of _ (by decide +kernel)) ggX0_alter_X0_leaveOut
set_option maxRecDepth 20000 in
theorem ggX0_alter_X0_swapSome : GoodIn wsX0_alter wsX0_swapSome := goodIn_r _ [61, 51, 52, 53, 20, 54, 22, 23, 24, 25, 29, 30, 31, 32, 33, 34, 35, 36, 37, 55, 56, 57, 58, 1, 2, 3, 4, 5, 6, 7, 8, 9, 10, 11, 12, 62, 63, 64, 65, 66, 67, 39, 40, 41, 69, 70, 71, 72, 73, 68] (by decide +kernel) (by decide +kernel)
set_option maxRecDepth 20000 in
theorem gX0_alter_X0_swapSome : GoodIn wsX0_alter (va_wsS RX0 53 yX0_swapSome wsX0_swapSome) := goodIn_app (goodIn_of _ (by decide +kernel)) ggX0_alter_X0_swapSome
theorem dX0_alter_0 : decode cX0_alter 0 = .ok (.iload_n 0, 1) := by decide +kernel
theorem dX0_alter_1 : decode cX0_alter 1 = .ok (.tableswitch 78 0 3 #[31, 45, 56, 67], 31) := by decide +kernel
theorem dX0_alter_32 : decode cX0_alter 32 = .ok (.aload_n 1, 1) := by decide +kernel
theorem dX0_alter_33 : decode cX0_alter 33 = .ok (.aload_n 3, 1) := by decide +kernel
theorem dX0_alter_34 : decode cX0_alter 34 = .ok (.iconst 4, 1) := by decide +kernel
theorem dX0_alter_35 : decode cX0_alter 35 = .ok (.invokevirtual 33, 3) := by decide +kernel
theorem dX0_alter_38 : decode cX0_alter 38 = .ok (.aload 4, 2) := by decide +kernel
theorem dX0_alter_40 : decode cX0_alter 40 = .ok (.invokestatic 39, 3) := by decide +kernel
theorem dX0_alter_43 : decode cX0_alter 43 = .ok (.goto 44, 3) := by decide +kernel
theorem dX0_alter_46 : decode cX0_alter 46 = .ok (.aload_n 1, 1) := by decide +kernel
theorem dX0_alter_47 : decode cX0_alter 47 = .ok (.iload_n 2, 1) := by decide +kernel
theorem dX0_alter_48 : decode cX0_alter 48 = .ok (.aload_n 3, 1) := by decide +kernel
theorem dX0_alter_49 : decode cX0_alter 49 = .ok (.aload 4, 2) := by decide +kernel
theorem dX0_alter_51 : decode cX0_alter 51 = .ok (.invokestatic 43, 3) := by decide +kernel
theorem dX0_alter_54 : decode cX0_alter 54 = .ok (.goto 33, 3) := by decide +kernel
theorem dX0_alter_57 : decode cX0_alter 57 = .ok (.aload_n 1, 1) := by decide +kernel
theorem dX0_alter_58 : decode cX0_alter 58 = .ok (.iload_n 2, 1) := by decide +kernel
theorem dX0_alter_59 : decode cX0_alter 59 = .ok (.aload_n 3, 1) := by decide +kernel
theorem dX0_alter_60 : decode cX0_alter 60 = .ok (.aload 4, 2) := by decide +kernel
theorem dX0_alter_62 : decode cX0_alter 62 = .ok (.invokestatic 47, 3) := by decide +kernel
theorem dX0_alter_65 : decode cX0_alter 65 = .ok (.goto 22, 3) := by decide +kernel
theorem dX0_alter_68 : decode cX0_alter 68 = .ok (.aload_n 1, 1) := by decide +kernel
theorem dX0_alter_69 : decode cX0_alter 69 = .ok (.iload_n 2, 1) := by decide +kernel
theorem dX0_alter_70 : decode cX0_alter 70 = .ok (.aload_n 3, 1) := by decide +kernel
theorem dX0_alter_71 : decode cX0_alter 71 = .ok (.aload 4, 2) := by decide +kernel
theorem dX0_alter_73 : decode cX0_alter 73 = .ok (.invokestatic 50, 3) := by decide +kernel
theorem dX0_alter_76 : decode cX0_alter 76 = .ok (.goto 11, 3) := by decide +kernel
theorem dX0_alter_79 : decode cX0_alter 79 = .ok (.aload_n 1, 1) := by decide +kernel
theorem dX0_alter_80 : decode cX0_alter 80 = .ok (.iload_n 2, 1) := by decide +kernel
theorem dX0_alter_81 : decode cX0_alter 81 = .ok (.aload_n 3, 1) := by decide +kernel
theorem dX0_alter_82 : decode cX0_alter 82 = .ok (.aload 4, 2) := by decide +kernel
theorem dX0_alter_84 : decode cX0_alter 84 = .ok (.invokestatic 53, 3) := by decide +kernel
theorem dX0_alter_87 : decode cX0_alter 87 = .ok (.return_, 1) := by decide +kernel
set_option maxRecDepth 20000 in
theorem ggX0_turn_X1_becomePicture : GoodIn wsX0_turn wsX1_becomePicture := goodIn_r _ [5, 6, 7, 8, 9, 27, 28, 29, 30, 31] (by decide +kernel) (by decide +kernel)
set_option maxRecDepth 20000 in
theorem gX0_turn_X1_becomePicture : GoodIn wsX0_turn (wsV RX0 56 RX1 yX1_becomePicture wsX1_becomePicture) := goodIn_app (goodIn_of _ (by decide +kernel)) ggX0_turn_X1_becomePicture
set_option maxRecDepth 20000 in
theorem ggX0_turn_X0_turnedPlace : GoodIn wsX0_turn wsX0_turnedPlace := goodIn_r _ [13, 27, 28, 29, 30, 31] (by decide +kernel) (by decide +kernel)
set_option maxRecDepth 20000 in
theorem gX0_turn_X0_turnedPlace : GoodIn wsX0_turn (va_wsS RX0 60 yX0_turnedPlace wsX0_turnedPlace) := goodIn_app (goodIn_of _ (by decide +kernel)) ggX0_turn_X0_turnedPlace
set_option maxRecDepth 20000 in
theorem ggX0_turn_X1_item : GoodIn wsX0_turn wsX1_item := goodIn_r _ [17, 18, 19, 20, 21, 4, 22, 9, 27, 28, 29, 30, 31] (by decide +kernel) (by decide +kernel)
set_option maxRecDepth 20000 in
theorem gX0_turn_X1_item : GoodIn wsX0_turn (wsV RX0 64 RX1 yX1_item wsX1_item) := goodIn_app (goodIn_of _ (by decide +kernel)) ggX0_turn_X1_item
set_option maxRecDepth 20000 in
theorem ggX0_turn_X1_put : GoodIn wsX0_turn wsX1_put := goodIn_r _ [26, 18, 19, 20, 21, 4, 22, 9, 27, 28, 29, 30, 31] (by decide +kernel) (by decide +kernel)
set_option maxRecDepth 20000 in
theorem gX0_turn_X1_put : GoodIn wsX0_turn (wsV RX0 67 RX1 yX1_put wsX1_put) := goodIn_app (goodIn_of _ (by decide +kernel)) ggX0_turn_X1_put
theorem dX0_turn_0 : decode cX0_turn 0 = .ok (.iload_n 1, 1) := by decide +kernel
theorem dX0_turn_1 : decode cX0_turn 1 = .ok (.iconst 2, 1) := by decide +kernel
theorem dX0_turn_2 : decode cX0_turn 2 = .ok (.irem, 1) := by decide +kernel
theorem dX0_turn_3 : decode cX0_turn 3 = .ok (.ifCond .ne 7, 3) := by decide +kernel
theorem dX0_turn_6 : decode cX0_turn 6 = .ok (.iconst 1, 1) := by decide +kernel
theorem dX0_turn_7 : decode cX0_turn 7 = .ok (.goto 4, 3) := by decide +kernel
theorem dX0_turn_10 : decode cX0_turn 10 = .ok (.iconst 0, 1) := by decide +kernel
theorem dX0_turn_11 : decode cX0_turn 11 = .ok (.istore_n 3, 1) := by decide +kernel
theorem dX0_turn_12 : decode cX0_turn 12 = .ok (.aload_n 2, 1) := by decide +kernel
theorem dX0_turn_13 : decode cX0_turn 13 = .ok (.iload_n 3, 1) := by decide +kernel
theorem dX0_turn_14 : decode cX0_turn 14 = .ok (.ifCond .eq 10, 3) := by decide +kernel
theorem dX0_turn_17 : decode cX0_turn 17 = .ok (.aload_n 0, 1) := by decide +kernel
theorem dX0_turn_18 : decode cX0_turn 18 = .ok (.getfield 27, 3) := by decide +kernel
theorem dX0_turn_21 : decode cX0_turn 21 = .ok (.goto 7, 3) := by decide +kernel
theorem dX0_turn_24 : decode cX0_turn 24 = .ok (.aload_n 0, 1) := by decide +kernel
theorem dX0_turn_25 : decode cX0_turn 25 = .ok (.getfield 30, 3) := by decide +kernel
theorem dX0_turn_28 : decode cX0_turn 28 = .ok (.iload_n 3, 1) := by decide +kernel
theorem dX0_turn_29 : decode cX0_turn 29 = .ok (.ifCond .eq 10, 3) := by decide +kernel
theorem dX0_turn_32 : decode cX0_turn 32 = .ok (.aload_n 0, 1) := by decide +kernel
theorem dX0_turn_33 : decode cX0_turn 33 = .ok (.getfield 30, 3) := by decide +kernel
theorem dX0_turn_36 : decode cX0_turn 36 = .ok (.goto 7, 3) := by decide +kernel
theorem dX0_turn_39 : decode cX0_turn 39 = .ok (.aload_n 0, 1) := by decide +kernel
theorem dX0_turn_40 : decode cX0_turn 40 = .ok (.getfield 27, 3) := by decide +kernel
theorem dX0_turn_43 : decode cX0_turn 43 = .ok (.invokevirtual 56, 3) := by decide +kernel
theorem dX0_turn_46 : decode cX0_turn 46 = .ok (.iconst 0, 1) := by decide +kernel
theorem dX0_turn_47 : decode cX0_turn 47 = .ok (.istore 4, 2) := by decide +kernel
theorem dX0_turn_49 : decode cX0_turn 49 = .ok (.iload 4, 2) := by decide +kernel
theorem dX0_turn_51 : decode cX0_turn 51 = .ok (.aload_n 0, 1) := by decide +kernel
theorem dX0_turn_52 : decode cX0_turn 52 = .ok (.getfield 27, 3) := by decide +kernel
theorem dX0_turn_55 : decode cX0_turn 55 = .ok (.if_icmp .ge 54, 3) := by decide +kernel
theorem dX0_turn_58 : decode cX0_turn 58 = .ok (.iconst 0, 1) := by decide +kernel
theorem dX0_turn_59 : decode cX0_turn 59 = .ok (.istore 5, 2) := by decide +kernel
theorem dX0_turn_61 : decode cX0_turn 61 = .ok (.iload 5, 2) := by decide +kernel
theorem dX0_turn_63 : decode cX0_turn 63 = .ok (.aload_n 0, 1) := by decide +kernel
theorem dX0_turn_64 : decode cX0_turn 64 = .ok (.getfield 30, 3) := by decide +kernel
theorem dX0_turn_67 : decode cX0_turn 67 = .ok (.if_icmp .ge 36, 3) := by decide +kernel
theorem dX0_turn_70 : decode cX0_turn 70 = .ok (.aload_n 2, 1) := by decide +kernel
theorem dX0_turn_71 : decode cX0_turn 71 = .ok (.aload_n 0, 1) := by decide +kernel
theorem dX0_turn_72 : decode cX0_turn 72 = .ok (.iload 4, 2) := by decide +kernel
theorem dX0_turn_74 : decode cX0_turn 74 = .ok (.iload 5, 2) := by decide +kernel
theorem dX0_turn_76 : decode cX0_turn 76 = .ok (.iload_n 1, 1) := by decide +kernel
theorem dX0_turn_77 : decode cX0_turn 77 = .ok (.invokestatic 60, 3) := by decide +kernel
theorem dX0_turn_80 : decode cX0_turn 80 = .ok (.aload_n 0, 1) := by decide +kernel
theorem dX0_turn_81 : decode cX0_turn 81 = .ok (.iload 4, 2) := by decide +kernel
theorem dX0_turn_83 : decode cX0_turn 83 = .ok (.aload_n 0, 1) := by decide +kernel
theorem dX0_turn_84 : decode cX0_turn 84 = .ok (.getfield 30, 3) := by decide +kernel
theorem dX0_turn_87 : decode cX0_turn 87 = .ok (.imul, 1) := by decide +kernel
theorem dX0_turn_88 : decode cX0_turn 88 = .ok (.iload 5, 2) := by decide +kernel
theorem dX0_turn_90 : decode cX0_turn 90 = .ok (.iadd, 1) := by decide +kernel
theorem dX0_turn_91 : decode cX0_turn 91 = .ok (.invokevirtual 64, 3) := by decide +kernel
theorem dX0_turn_94 : decode cX0_turn 94 = .ok (.invokevirtual 67, 3) := by decide +kernel
theorem dX0_turn_97 : decode cX0_turn 97 = .ok (.iinc 5 1, 3) := by decide +kernel
theorem dX0_turn_100 : decode cX0_turn 100 = .ok (.goto (-39), 3) := by decide +kernel
theorem dX0_turn_103 : decode cX0_turn 103 = .ok (.iinc 4 1, 3) := by decide +kernel
theorem dX0_turn_106 : decode cX0_turn 106 = .ok (.goto (-57), 3) := by decide +kernel
theorem dX0_turn_109 : decode cX0_turn 109 = .ok (.return_, 1) := by decide +kernel
theorem dX0_turnedPlace_0 : decode cX0_turnedPlace 0 = .ok (.aload_n 0, 1) := by decide +kernel
theorem dX0_turnedPlace_1 : decode cX0_turnedPlace 1 = .ok (.getfield 27, 3) := by decide +kernel
theorem dX0_turnedPlace_4 : decode cX0_turnedPlace 4 = .ok (.iconst 1, 1) := by decide +kernel
theorem dX0_turnedPlace_5 : decode cX0_turnedPlace 5 = .ok (.isub, 1) := by decide +kernel
theorem dX0_turnedPlace_6 : decode cX0_turnedPlace 6 = .ok (.istore 4, 2) := by decide +kernel
theorem dX0_turnedPlace_8 : decode cX0_turnedPlace 8 = .ok (.aload_n 0, 1) := by decide +kernel
theorem dX0_turnedPlace_9 : decode cX0_turnedPlace 9 = .ok (.getfield 30, 3) := by decide +kernel
theorem dX0_turnedPlace_12 : decode cX0_turnedPlace 12 = .ok (.iconst 1, 1) := by decide +kernel
theorem dX0_turnedPlace_13 : decode cX0_turnedPlace 13 = .ok (.isub, 1) := by decide +kernel
theorem dX0_turnedPlace_14 : decode cX0_turnedPlace 14 = .ok (.istore 5, 2) := by decide +kernel
theorem dX0_turnedPlace_16 : decode cX0_turnedPlace 16 = .ok (.iload_n 3, 1) := by decide +kernel
theorem dX0_turnedPlace_17 : decode cX0_turnedPlace 17 = .ok (.tableswitch 66 1 3 #[27, 39, 54], 27) := by decide +kernel
theorem dX0_turnedPlace_44 : decode cX0_turnedPlace 44 = .ok (.iload_n 2, 1) := by decide +kernel
theorem dX0_turnedPlace_45 : decode cX0_turnedPlace 45 = .ok (.aload_n 0, 1) := by decide +kernel
theorem dX0_turnedPlace_46 : decode cX0_turnedPlace 46 = .ok (.getfield 27, 3) := by decide +kernel
theorem dX0_turnedPlace_49 : decode cX0_turnedPlace 49 = .ok (.imul, 1) := by decide +kernel
theorem dX0_turnedPlace_50 : decode cX0_turnedPlace 50 = .ok (.iload 4, 2) := by decide +kernel
theorem dX0_turnedPlace_52 : decode cX0_turnedPlace 52 = .ok (.iload_n 1, 1) := by decide +kernel
theorem dX0_turnedPlace_53 : decode cX0_turnedPlace 53 = .ok (.isub, 1) := by decide +kernel
theorem dX0_turnedPlace_54 : decode cX0_turnedPlace 54 = .ok (.iadd, 1) := by decide +kernel
theorem dX0_turnedPlace_55 : decode cX0_turnedPlace 55 = .ok (.ireturn, 1) := by decide +kernel
theorem dX0_turnedPlace_56 : decode cX0_turnedPlace 56 = .ok (.iload 4, 2) := by decide +kernel
theorem dX0_turnedPlace_58 : decode cX0_turnedPlace 58 = .ok (.iload_n 1, 1) := by decide +kernel
theorem dX0_turnedPlace_59 : decode cX0_turnedPlace 59 = .ok (.isub, 1) := by decide +kernel
theorem dX0_turnedPlace_60 : decode cX0_turnedPlace 60 = .ok (.aload_n 0, 1) := by decide +kernel
theorem dX0_turnedPlace_61 : decode cX0_turnedPlace 61 = .ok (.getfield 30, 3) := by decide +kernel
theorem dX0_turnedPlace_64 : decode cX0_turnedPlace 64 = .ok (.imul, 1) := by decide +kernel
theorem dX0_turnedPlace_65 : decode cX0_turnedPlace 65 = .ok (.iload 5, 2) := by decide +kernel
theorem dX0_turnedPlace_67 : decode cX0_turnedPlace 67 = .ok (.iload_n 2, 1) := by decide +kernel
theorem dX0_turnedPlace_68 : decode cX0_turnedPlace 68 = .ok (.isub, 1) := by decide +kernel
theorem dX0_turnedPlace_69 : decode cX0_turnedPlace 69 = .ok (.iadd, 1) := by decide +kernel
theorem dX0_turnedPlace_70 : decode cX0_turnedPlace 70 = .ok (.ireturn, 1) := by decide +kernel
theorem dX0_turnedPlace_71 : decode cX0_turnedPlace 71 = .ok (.iload 5, 2) := by decide +kernel
theorem dX0_turnedPlace_73 : decode cX0_turnedPlace 73 = .ok (.iload_n 2, 1) := by decide +kernel
theorem dX0_turnedPlace_74 : decode cX0_turnedPlace 74 = .ok (.isub, 1) := by decide +kernel
theorem dX0_turnedPlace_75 : decode cX0_turnedPlace 75 = .ok (.aload_n 0, 1) := by decide +kernel
theorem dX0_turnedPlace_76 : decode cX0_turnedPlace 76 = .ok (.getfield 27, 3) := by decide +kernel
theorem dX0_turnedPlace_79 : decode cX0_turnedPlace 79 = .ok (.imul, 1) := by decide +kernel
theorem dX0_turnedPlace_80 : decode cX0_turnedPlace 80 = .ok (.iload_n 1, 1) := by decide +kernel
theorem dX0_turnedPlace_81 : decode cX0_turnedPlace 81 = .ok (.iadd, 1) := by decide +kernel
theorem dX0_turnedPlace_82 : decode cX0_turnedPlace 82 = .ok (.ireturn, 1) := by decide +kernel
theorem dX0_turnedPlace_83 : decode cX0_turnedPlace 83 = .ok (.iload_n 1, 1) := by decide +kernel
theorem dX0_turnedPlace_84 : decode cX0_turnedPlace 84 = .ok (.aload_n 0, 1) := by decide +kernel
theorem dX0_turnedPlace_85 : decode cX0_turnedPlace 85 = .ok (.getfield 30, 3) := by decide +kernel
theorem dX0_turnedPlace_88 : decode cX0_turnedPlace 88 = .ok (.imul, 1) := by decide +kernel
theorem dX0_turnedPlace_89 : decode cX0_turnedPlace 89 = .ok (.iload_n 2, 1) := by decide +kernel
theorem dX0_turnedPlace_90 : decode cX0_turnedPlace 90 = .ok (.iadd, 1) := by decide +kernel
theorem dX0_turnedPlace_91 : decode cX0_turnedPlace 91 = .ok (.ireturn, 1) := by decide +kernel
set_option maxRecDepth 20000 in
theorem ggX0_crop_X2_below : GoodIn wsX0_crop wsX2_below := goodIn_r _ [5, 6, 7, 8, 9, 4, 10, 11, 12, 40] (by decide +kernel) (by decide +kernel)
set_option maxRecDepth 20000 in
theorem gX0_crop_X2_below : GoodIn wsX0_crop (wsV RX0 33 RX2 yX2_below wsX2_below) := goodIn_app (goodIn_of _ (by decide +kernel)) ggX0_crop_X2_below
set_option maxRecDepth 20000 in
theorem ggX0_crop_X1_becomePicture : GoodIn wsX0_crop wsX1_becomePicture := goodIn_r _ [17, 18, 19, 20, 21, 35, 36, 37, 38, 39] (by decide +kernel) (by decide +kernel)
set_option maxRecDepth 20000 in
theorem gX0_crop_X1_becomePicture : GoodIn wsX0_crop (wsV RX0 56 RX1 yX1_becomePicture wsX1_becomePicture) := goodIn_app (goodIn_of _ (by decide +kernel)) ggX0_crop_X1_becomePicture
set_option maxRecDepth 20000 in
theorem ggX0_crop_X1_item : GoodIn wsX0_crop wsX1_item := goodIn_r _ [25, 26, 27, 28, 29, 16, 30, 21, 35, 36, 37, 38, 39] (by decide +kernel) (by decide +kernel)
set_option maxRecDepth 20000 in
theorem gX0_crop_X1_item : GoodIn wsX0_crop (wsV RX0 64 RX1 yX1_item wsX1_item) := goodIn_app (goodIn_of _ (by decide +kernel)) ggX0_crop_X1_item
set_option maxRecDepth 20000 in
theorem ggX0_crop_X1_put : GoodIn wsX0_crop wsX1_put := goodIn_r _ [34, 26, 27, 28, 29, 16, 30, 21, 35, 36, 37, 38, 39] (by decide +kernel) (by decide +kernel)
set_option maxRecDepth 20000 in
theorem gX0_crop_X1_put : GoodIn wsX0_crop (wsV RX0 67 RX1 yX1_put wsX1_put) := goodIn_app (goodIn_of _ (by decide +kernel)) ggX0_crop_X1_put
theorem dX0_crop_0 : decode cX0_crop 0 = .ok (.aload_n 2, 1) := by decide +kernel
theorem dX0_crop_1 : decode cX0_crop 1 = .ok (.aload_n 0, 1) := by decide +kernel
theorem dX0_crop_2 : decode cX0_crop 2 = .ok (.getfield 27, 3) := by decide +kernel
theorem dX0_crop_5 : decode cX0_crop 5 = .ok (.iload_n 1, 1) := by decide +kernel
theorem dX0_crop_6 : decode cX0_crop 6 = .ok (.isub, 1) := by decide +kernel
theorem dX0_crop_7 : decode cX0_crop 7 = .ok (.iconst 1, 1) := by decide +kernel
theorem dX0_crop_8 : decode cX0_crop 8 = .ok (.iadd, 1) := by decide +kernel
theorem dX0_crop_9 : decode cX0_crop 9 = .ok (.invokevirtual 33, 3) := by decide +kernel
theorem dX0_crop_12 : decode cX0_crop 12 = .ok (.istore 4, 2) := by decide +kernel
theorem dX0_crop_14 : decode cX0_crop 14 = .ok (.aload_n 2, 1) := by decide +kernel
theorem dX0_crop_15 : decode cX0_crop 15 = .ok (.aload_n 0, 1) := by decide +kernel
theorem dX0_crop_16 : decode cX0_crop 16 = .ok (.getfield 30, 3) := by decide +kernel
theorem dX0_crop_19 : decode cX0_crop 19 = .ok (.iload_n 1, 1) := by decide +kernel
theorem dX0_crop_20 : decode cX0_crop 20 = .ok (.isub, 1) := by decide +kernel
theorem dX0_crop_21 : decode cX0_crop 21 = .ok (.iconst 1, 1) := by decide +kernel
theorem dX0_crop_22 : decode cX0_crop 22 = .ok (.iadd, 1) := by decide +kernel
theorem dX0_crop_23 : decode cX0_crop 23 = .ok (.invokevirtual 33, 3) := by decide +kernel
theorem dX0_crop_26 : decode cX0_crop 26 = .ok (.istore 5, 2) := by decide +kernel
theorem dX0_crop_28 : decode cX0_crop 28 = .ok (.aload_n 3, 1) := by decide +kernel
theorem dX0_crop_29 : decode cX0_crop 29 = .ok (.iload_n 1, 1) := by decide +kernel
theorem dX0_crop_30 : decode cX0_crop 30 = .ok (.iload_n 1, 1) := by decide +kernel
theorem dX0_crop_31 : decode cX0_crop 31 = .ok (.invokevirtual 56, 3) := by decide +kernel
theorem dX0_crop_34 : decode cX0_crop 34 = .ok (.iconst 0, 1) := by decide +kernel
theorem dX0_crop_35 : decode cX0_crop 35 = .ok (.istore 6, 2) := by decide +kernel
theorem dX0_crop_37 : decode cX0_crop 37 = .ok (.iload 6, 2) := by decide +kernel
theorem dX0_crop_39 : decode cX0_crop 39 = .ok (.iload_n 1, 1) := by decide +kernel
theorem dX0_crop_40 : decode cX0_crop 40 = .ok (.if_icmp .ge 55, 3) := by decide +kernel
theorem dX0_crop_43 : decode cX0_crop 43 = .ok (.iconst 0, 1) := by decide +kernel
theorem dX0_crop_44 : decode cX0_crop 44 = .ok (.istore 7, 2) := by decide +kernel
theorem dX0_crop_46 : decode cX0_crop 46 = .ok (.iload 7, 2) := by decide +kernel
theorem dX0_crop_48 : decode cX0_crop 48 = .ok (.iload_n 1, 1) := by decide +kernel
theorem dX0_crop_49 : decode cX0_crop 49 = .ok (.if_icmp .ge 40, 3) := by decide +kernel
theorem dX0_crop_52 : decode cX0_crop 52 = .ok (.aload_n 3, 1) := by decide +kernel
theorem dX0_crop_53 : decode cX0_crop 53 = .ok (.iload 6, 2) := by decide +kernel
theorem dX0_crop_55 : decode cX0_crop 55 = .ok (.iload_n 1, 1) := by decide +kernel
theorem dX0_crop_56 : decode cX0_crop 56 = .ok (.imul, 1) := by decide +kernel
theorem dX0_crop_57 : decode cX0_crop 57 = .ok (.iload 7, 2) := by decide +kernel
theorem dX0_crop_59 : decode cX0_crop 59 = .ok (.iadd, 1) := by decide +kernel
theorem dX0_crop_60 : decode cX0_crop 60 = .ok (.aload_n 0, 1) := by decide +kernel
theorem dX0_crop_61 : decode cX0_crop 61 = .ok (.iload 4, 2) := by decide +kernel
theorem dX0_crop_63 : decode cX0_crop 63 = .ok (.iload 6, 2) := by decide +kernel
theorem dX0_crop_65 : decode cX0_crop 65 = .ok (.iadd, 1) := by decide +kernel
theorem dX0_crop_66 : decode cX0_crop 66 = .ok (.aload_n 0, 1) := by decide +kernel
theorem dX0_crop_67 : decode cX0_crop 67 = .ok (.getfield 30, 3) := by decide +kernel
theorem dX0_crop_70 : decode cX0_crop 70 = .ok (.imul, 1) := by decide +kernel
theorem dX0_crop_71 : decode cX0_crop 71 = .ok (.iload 5, 2) := by decide +kernel
theorem dX0_crop_73 : decode cX0_crop 73 = .ok (.iadd, 1) := by decide +kernel
theorem dX0_crop_74 : decode cX0_crop 74 = .ok (.iload 7, 2) := by decide +kernel
theorem dX0_crop_76 : decode cX0_crop 76 = .ok (.iadd, 1) := by decide +kernel
theorem dX0_crop_77 : decode cX0_crop 77 = .ok (.invokevirtual 64, 3) := by decide +kernel
theorem dX0_crop_80 : decode cX0_crop 80 = .ok (.invokevirtual 67, 3) := by decide +kernel
theorem dX0_crop_83 : decode cX0_crop 83 = .ok (.iinc 7 1, 3) := by decide +kernel
theorem dX0_crop_86 : decode cX0_crop 86 = .ok (.goto (-40), 3) := by decide +kernel
theorem dX0_crop_89 : decode cX0_crop 89 = .ok (.iinc 6 1, 3) := by decide +kernel
theorem dX0_crop_92 : decode cX0_crop 92 = .ok (.goto (-55), 3) := by decide +kernel
theorem dX0_crop_95 : decode cX0_crop 95 = .ok (.return_, 1) := by decide +kernel
set_option maxRecDepth 20000 in
theorem ggX0_addNoise_X1_becomePicture : GoodIn wsX0_addNoise wsX1_becomePicture := goodIn_r _ [5, 6, 7, 8, 9, 35, 36, 37, 38, 39] (by decide +kernel) (by decide +kernel)
set_option maxRecDepth 20000 in
theorem gX0_addNoise_X1_becomePicture : GoodIn wsX0_addNoise (wsV RX0 56 RX1 yX1_becomePicture wsX1_becomePicture) := goodIn_app (goodIn_of _ (by decide +kernel)) ggX0_addNoise_X1_becomePicture
set_option maxRecDepth 20000 in
theorem ggX0_addNoise_X1_item : GoodIn wsX0_addNoise wsX1_item := goodIn_r _ [13, 14, 15, 16, 17, 4, 18, 9, 35, 36, 37, 38, 39] (by decide +kernel) (by decide +kernel)
set_option maxRecDepth 20000 in
theorem gX0_addNoise_X1_item : GoodIn wsX0_addNoise (wsV RX0 64 RX1 yX1_item wsX1_item) := goodIn_app (goodIn_of _ (by decide +kernel)) ggX0_addNoise_X1_item
set_option maxRecDepth 20000 in
theorem ggX0_addNoise_X2_below : GoodIn wsX0_addNoise wsX2_below := goodIn_r _ [23, 24, 25, 26, 27, 22, 28, 29, 30, 40] (by decide +kernel) (by decide +kernel)
set_option maxRecDepth 20000 in
theorem gX0_addNoise_X2_below : GoodIn wsX0_addNoise (wsV RX0 33 RX2 yX2_below wsX2_below) := goodIn_app (goodIn_of _ (by decide +kernel)) ggX0_addNoise_X2_below
set_option maxRecDepth 20000 in
theorem ggX0_addNoise_X1_put : GoodIn wsX0_addNoise wsX1_put := goodIn_r _ [34, 14, 15, 16, 17, 4, 18, 9, 35, 36, 37, 38, 39] (by decide +kernel) (by decide +kernel)
set_option maxRecDepth 20000 in
theorem gX0_addNoise_X1_put : GoodIn wsX0_addNoise (wsV RX0 67 RX1 yX1_put wsX1_put) := goodIn_app (goodIn_of _ (by decide +kernel)) ggX0_addNoise_X1_put
theorem dX0_addNoise_0 : decode cX0_addNoise 0 = .ok (.aload_n 3, 1) := by decide +kernel
theorem dX0_addNoise_1 : decode cX0_addNoise 1 = .ok (.aload_n 0, 1) := by decide +kernel
theorem dX0_addNoise_2 : decode cX0_addNoise 2 = .ok (.getfield 27, 3) := by decide +kernel
theorem dX0_addNoise_5 : decode cX0_addNoise 5 = .ok (.aload_n 0, 1) := by decide +kernel
theorem dX0_addNoise_6 : decode cX0_addNoise 6 = .ok (.getfield 30, 3) := by decide +kernel
theorem dX0_addNoise_9 : decode cX0_addNoise 9 = .ok (.invokevirtual 56, 3) := by decide +kernel
theorem dX0_addNoise_12 : decode cX0_addNoise 12 = .ok (.iconst 0, 1) := by decide +kernel
theorem dX0_addNoise_13 : decode cX0_addNoise 13 = .ok (.istore 4, 2) := by decide +kernel
theorem dX0_addNoise_15 : decode cX0_addNoise 15 = .ok (.iload 4, 2) := by decide +kernel
theorem dX0_addNoise_17 : decode cX0_addNoise 17 = .ok (.aload_n 0, 1) := by decide +kernel
theorem dX0_addNoise_18 : decode cX0_addNoise 18 = .ok (.getfield 21, 3) := by decide +kernel
theorem dX0_addNoise_21 : decode cX0_addNoise 21 = .ok (.if_icmp .ge 27, 3) := by decide +kernel
theorem dX0_addNoise_24 : decode cX0_addNoise 24 = .ok (.aload_n 3, 1) := by decide +kernel
theorem dX0_addNoise_25 : decode cX0_addNoise 25 = .ok (.iload 4, 2) := by decide +kernel
theorem dX0_addNoise_27 : decode cX0_addNoise 27 = .ok (.aload_n 0, 1) := by decide +kernel
theorem dX0_addNoise_28 : decode cX0_addNoise 28 = .ok (.iload 4, 2) := by decide +kernel
theorem dX0_addNoise_30 : decode cX0_addNoise 30 = .ok (.invokevirtual 64, 3) := by decide +kernel
theorem dX0_addNoise_33 : decode cX0_addNoise 33 = .ok (.aload_n 2, 1) := by decide +kernel
theorem dX0_addNoise_34 : decode cX0_addNoise 34 = .ok (.iload_n 1, 1) := by decide +kernel
theorem dX0_addNoise_35 : decode cX0_addNoise 35 = .ok (.invokevirtual 33, 3) := by decide +kernel
theorem dX0_addNoise_38 : decode cX0_addNoise 38 = .ok (.ixor, 1) := by decide +kernel
theorem dX0_addNoise_39 : decode cX0_addNoise 39 = .ok (.invokevirtual 67, 3) := by decide +kernel
theorem dX0_addNoise_42 : decode cX0_addNoise 42 = .ok (.iinc 4 1, 3) := by decide +kernel
theorem dX0_addNoise_45 : decode cX0_addNoise 45 = .ok (.goto (-30), 3) := by decide +kernel
theorem dX0_addNoise_48 : decode cX0_addNoise 48 = .ok (.return_, 1) := by decide +kernel
set_option maxRecDepth 20000 in
theorem ggX0_leaveOut_X1_becomeNoWords : GoodIn wsX0_leaveOut wsX1_becomeNoWords := goodIn_r _ [5, 6, 7, 8, 9, 35, 36, 37, 38, 39] (by decide +kernel) (by decide +kernel)
set_option maxRecDepth 20000 in
theorem gX0_leaveOut_X1_becomeNoWords : GoodIn wsX0_leaveOut (wsV RX0 70 RX1 yX1_becomeNoWords wsX1_becomeNoWords) := goodIn_app (goodIn_of _ (by decide +kernel)) ggX0_leaveOut_X1_becomeNoWords
set_option maxRecDepth 20000 in
theorem ggX0_leaveOut_X2_below : GoodIn wsX0_leaveOut wsX2_below := goodIn_r _ [14, 15, 16, 17, 18, 13, 19, 20, 21, 40] (by decide +kernel) (by decide +kernel)
set_option maxRecDepth 20000 in
theorem gX0_leaveOut_X2_below : GoodIn wsX0_leaveOut (wsV RX0 33 RX2 yX2_below wsX2_below) := goodIn_app (goodIn_of _ (by decide +kernel)) ggX0_leaveOut_X2_below
set_option maxRecDepth 20000 in
theorem ggX0_leaveOut_X1_item : GoodIn wsX0_leaveOut wsX1_item := goodIn_r _ [25, 26, 27, 28, 29, 4, 30, 9, 35, 36, 37, 38, 39] (by decide +kernel) (by decide +kernel)
set_option maxRecDepth 20000 in
theorem gX0_leaveOut_X1_item : GoodIn wsX0_leaveOut (wsV RX0 64 RX1 yX1_item wsX1_item) := goodIn_app (goodIn_of _ (by decide +kernel)) ggX0_leaveOut_X1_item
set_option maxRecDepth 20000 in
theorem ggX0_leaveOut_X1_append : GoodIn wsX0_leaveOut wsX1_append := goodIn_r _ [34, 9, 26, 35, 36, 37, 38, 39] (by decide +kernel) (by decide +kernel)
set_option maxRecDepth 20000 in
theorem gX0_leaveOut_X1_append : GoodIn wsX0_leaveOut (wsV RX0 73 RX1 yX1_append wsX1_append) := goodIn_app (goodIn_of _ (by decide +kernel)) ggX0_leaveOut_X1_append
theorem dX0_leaveOut_0 : decode cX0_leaveOut 0 = .ok (.aload_n 3, 1) := by decide +kernel
theorem dX0_leaveOut_1 : decode cX0_leaveOut 1 = .ok (.invokevirtual 70, 3) := by decide +kernel
theorem dX0_leaveOut_4 : decode cX0_leaveOut 4 = .ok (.iconst 0, 1) := by decide +kernel
theorem dX0_leaveOut_5 : decode cX0_leaveOut 5 = .ok (.istore 4, 2) := by decide +kernel
theorem dX0_leaveOut_7 : decode cX0_leaveOut 7 = .ok (.iload 4, 2) := by decide +kernel
theorem dX0_leaveOut_9 : decode cX0_leaveOut 9 = .ok (.aload_n 0, 1) := by decide +kernel
theorem dX0_leaveOut_10 : decode cX0_leaveOut 10 = .ok (.getfield 21, 3) := by decide +kernel
theorem dX0_leaveOut_13 : decode cX0_leaveOut 13 = .ok (.if_icmp .ge 29, 3) := by decide +kernel
theorem dX0_leaveOut_16 : decode cX0_leaveOut 16 = .ok (.aload_n 2, 1) := by decide +kernel
theorem dX0_leaveOut_17 : decode cX0_leaveOut 17 = .ok (.bipush 100, 2) := by decide +kernel
theorem dX0_leaveOut_19 : decode cX0_leaveOut 19 = .ok (.invokevirtual 33, 3) := by decide +kernel
theorem dX0_leaveOut_22 : decode cX0_leaveOut 22 = .ok (.iload_n 1, 1) := by decide +kernel
theorem dX0_leaveOut_23 : decode cX0_leaveOut 23 = .ok (.if_icmp .lt 13, 3) := by decide +kernel
theorem dX0_leaveOut_26 : decode cX0_leaveOut 26 = .ok (.aload_n 3, 1) := by decide +kernel
theorem dX0_leaveOut_27 : decode cX0_leaveOut 27 = .ok (.aload_n 0, 1) := by decide +kernel
theorem dX0_leaveOut_28 : decode cX0_leaveOut 28 = .ok (.iload 4, 2) := by decide +kernel
theorem dX0_leaveOut_30 : decode cX0_leaveOut 30 = .ok (.invokevirtual 64, 3) := by decide +kernel
theorem dX0_leaveOut_33 : decode cX0_leaveOut 33 = .ok (.invokevirtual 73, 3) := by decide +kernel
theorem dX0_leaveOut_36 : decode cX0_leaveOut 36 = .ok (.iinc 4 1, 3) := by decide +kernel
theorem dX0_leaveOut_39 : decode cX0_leaveOut 39 = .ok (.goto (-32), 3) := by decide +kernel
theorem dX0_leaveOut_42 : decode cX0_leaveOut 42 = .ok (.return_, 1) := by decide +kernel
set_option maxRecDepth 20000 in
theorem ggX0_swapSome_X1_becomeNoWords : GoodIn wsX0_swapSome wsX1_becomeNoWords := goodIn_r _ [5, 6, 7, 8, 9, 44, 45, 46, 47, 48] (by decide +kernel) (by decide +kernel)
set_option maxRecDepth 20000 in
theorem gX0_swapSome_X1_becomeNoWords : GoodIn wsX0_swapSome (wsV RX0 70 RX1 yX1_becomeNoWords wsX1_becomeNoWords) := goodIn_app (goodIn_of _ (by decide +kernel)) ggX0_swapSome_X1_becomeNoWords
set_option maxRecDepth 20000 in
theorem ggX0_swapSome_X1_item : GoodIn wsX0_swapSome wsX1_item := goodIn_r _ [13, 14, 15, 16, 17, 4, 18, 9, 44, 45, 46, 47, 48] (by decide +kernel) (by decide +kernel)
set_option maxRecDepth 20000 in
theorem gX0_swapSome_X1_item : GoodIn wsX0_swapSome (wsV RX0 64 RX1 yX1_item wsX1_item) := goodIn_app (goodIn_of _ (by decide +kernel)) ggX0_swapSome_X1_item
set_option maxRecDepth 20000 in
theorem ggX0_swapSome_X1_append : GoodIn wsX0_swapSome wsX1_append := goodIn_r _ [22, 9, 14, 44, 45, 46, 47, 48] (by decide +kernel) (by decide +kernel)
set_option maxRecDepth 20000 in
theorem gX0_swapSome_X1_append : GoodIn wsX0_swapSome (wsV RX0 73 RX1 yX1_append wsX1_append) := goodIn_app (goodIn_of _ (by decide +kernel)) ggX0_swapSome_X1_append
set_option maxRecDepth 20000 in
theorem ggX0_swapSome_X2_below : GoodIn wsX0_swapSome wsX2_below := goodIn_r _ [27, 28, 29, 30, 31, 26, 32, 33, 34, 49] (by decide +kernel) (by decide +kernel)
set_option maxRecDepth 20000 in
theorem gX0_swapSome_X2_below : GoodIn wsX0_swapSome (wsV RX0 33 RX2 yX2_below wsX2_below) := goodIn_app (goodIn_of _ (by decide +kernel)) ggX0_swapSome_X2_below
set_option maxRecDepth 20000 in
theorem ggX0_swapSome_X1_swapWithNext : GoodIn wsX0_swapSome wsX1_swapWithNext := goodIn_r _ [38, 39, 11, 12, 4, 13, 14, 15, 16, 17, 18, 9, 40, 41, 42, 43, 44, 45, 46, 47, 48] (by decide +kernel) (by decide +kernel)
set_option maxRecDepth 20000 in
theorem gX0_swapSome_X1_swapWithNext : GoodIn wsX0_swapSome (wsV RX0 77 RX1 yX1_swapWithNext wsX1_swapWithNext) := goodIn_app (goodIn_of _ (by decide +kernel)) ggX0_swapSome_X1_swapWithNext
theorem dX0_swapSome_0 : decode cX0_swapSome 0 = .ok (.aload_n 3, 1) := by decide +kernel
theorem dX0_swapSome_1 : decode cX0_swapSome 1 = .ok (.invokevirtual 70, 3) := by decide +kernel
theorem dX0_swapSome_4 : decode cX0_swapSome 4 = .ok (.iconst 0, 1) := by decide +kernel
theorem dX0_swapSome_5 : decode cX0_swapSome 5 = .ok (.istore 4, 2) := by decide +kernel
theorem dX0_swapSome_7 : decode cX0_swapSome 7 = .ok (.iload 4, 2) := by decide +kernel
theorem dX0_swapSome_9 : decode cX0_swapSome 9 = .ok (.aload_n 0, 1) := by decide +kernel
theorem dX0_swapSome_10 : decode cX0_swapSome 10 = .ok (.getfield 21, 3) := by decide +kernel
theorem dX0_swapSome_13 : decode cX0_swapSome 13 = .ok (.if_icmp .ge 19, 3) := by decide +kernel
theorem dX0_swapSome_16 : decode cX0_swapSome 16 = .ok (.aload_n 3, 1) := by decide +kernel
theorem dX0_swapSome_17 : decode cX0_swapSome 17 = .ok (.aload_n 0, 1) := by decide +kernel
theorem dX0_swapSome_18 : decode cX0_swapSome 18 = .ok (.iload 4, 2) := by decide +kernel
theorem dX0_swapSome_20 : decode cX0_swapSome 20 = .ok (.invokevirtual 64, 3) := by decide +kernel
theorem dX0_swapSome_23 : decode cX0_swapSome 23 = .ok (.invokevirtual 73, 3) := by decide +kernel
theorem dX0_swapSome_26 : decode cX0_swapSome 26 = .ok (.iinc 4 1, 3) := by decide +kernel
theorem dX0_swapSome_29 : decode cX0_swapSome 29 = .ok (.goto (-22), 3) := by decide +kernel
theorem dX0_swapSome_32 : decode cX0_swapSome 32 = .ok (.iconst 0, 1) := by decide +kernel
theorem dX0_swapSome_33 : decode cX0_swapSome 33 = .ok (.istore 4, 2) := by decide +kernel
theorem dX0_swapSome_35 : decode cX0_swapSome 35 = .ok (.iload 4, 2) := by decide +kernel
theorem dX0_swapSome_37 : decode cX0_swapSome 37 = .ok (.iload_n 1, 1) := by decide +kernel
theorem dX0_swapSome_38 : decode cX0_swapSome 38 = .ok (.if_icmp .ge 23, 3) := by decide +kernel
theorem dX0_swapSome_41 : decode cX0_swapSome 41 = .ok (.aload_n 3, 1) := by decide +kernel
theorem dX0_swapSome_42 : decode cX0_swapSome 42 = .ok (.aload_n 2, 1) := by decide +kernel
theorem dX0_swapSome_43 : decode cX0_swapSome 43 = .ok (.aload_n 0, 1) := by decide +kernel
theorem dX0_swapSome_44 : decode cX0_swapSome 44 = .ok (.getfield 21, 3) := by decide +kernel
theorem dX0_swapSome_47 : decode cX0_swapSome 47 = .ok (.iconst 1, 1) := by decide +kernel
theorem dX0_swapSome_48 : decode cX0_swapSome 48 = .ok (.isub, 1) := by decide +kernel
theorem dX0_swapSome_49 : decode cX0_swapSome 49 = .ok (.invokevirtual 33, 3) := by decide +kernel
theorem dX0_swapSome_52 : decode cX0_swapSome 52 = .ok (.invokevirtual 77, 3) := by decide +kernel
theorem dX0_swapSome_55 : decode cX0_swapSome 55 = .ok (.iinc 4 1, 3) := by decide +kernel
theorem dX0_swapSome_58 : decode cX0_swapSome 58 = .ok (.goto (-23), 3) := by decide +kernel
theorem dX0_swapSome_61 : decode cX0_swapSome 61 = .ok (.return_, 1) := by decide +kernel
theorem dX1_init_0 : decode cX1_init 0 = .ok (.aload_n 0, 1) := by decide +kernel
theorem dX1_init_1 : decode cX1_init 1 = .ok (.invokespecial 3, 3) := by decide +kernel
theorem dX1_init_4 : decode cX1_init 4 = .ok (.aload_n 0, 1) := by decide +kernel
theorem dX1_init_5 : decode cX1_init 5 = .ok (.iconst 0, 1) := by decide +kernel
theorem dX1_init_6 : decode cX1_init 6 = .ok (.iload 4, 2) := by decide +kernel
theorem dX1_init_8 : decode cX1_init 8 = .ok (.invokestatic 9, 3) := by decide +kernel
theorem dX1_init_11 : decode cX1_init 11 = .ok (.newarray .int, 2) := by decide +kernel
theorem dX1_init_13 : decode cX1_init 13 = .ok (.putfield 15, 3) := by decide +kernel
theorem dX1_init_16 : decode cX1_init 16 = .ok (.aload_n 0, 1) := by decide +kernel
theorem dX1_init_17 : decode cX1_init 17 = .ok (.iload_n 1, 1) := by decide +kernel
theorem dX1_init_18 : decode cX1_init 18 = .ok (.putfield 21, 3) := by decide +kernel
theorem dX1_init_21 : decode cX1_init 21 = .ok (.aload_n 0, 1) := by decide +kernel
theorem dX1_init_22 : decode cX1_init 22 = .ok (.iload_n 2, 1) := by decide +kernel
theorem dX1_init_23 : decode cX1_init 23 = .ok (.putfield 25, 3) := by decide +kernel
theorem dX1_init_26 : decode cX1_init 26 = .ok (.aload_n 0, 1) := by decide +kernel
theorem dX1_init_27 : decode cX1_init 27 = .ok (.iload_n 3, 1) := by decide +kernel
theorem dX1_init_28 : decode cX1_init 28 = .ok (.putfield 28, 3) := by decide +kernel
theorem dX1_init_31 : decode cX1_init 31 = .ok (.aload_n 0, 1) := by decide +kernel
theorem dX1_init_32 : decode cX1_init 32 = .ok (.iload_n 2, 1) := by decide +kernel
theorem dX1_init_33 : decode cX1_init 33 = .ok (.iload_n 3, 1) := by decide +kernel
theorem dX1_init_34 : decode cX1_init 34 = .ok (.imul, 1) := by decide +kernel
theorem dX1_init_35 : decode cX1_init 35 = .ok (.putfield 31, 3) := by decide +kernel
theorem dX1_init_38 : decode cX1_init 38 = .ok (.return_, 1) := by decide +kernel
theorem dX1_holds_0 : decode cX1_holds 0 = .ok (.iload_n 1, 1) := by decide +kernel
theorem dX1_holds_1 : decode cX1_holds 1 = .ok (.ifCond .lt 24, 3) := by decide +kernel
theorem dX1_holds_4 : decode cX1_holds 4 = .ok (.iload_n 1, 1) := by decide +kernel
theorem dX1_holds_5 : decode cX1_holds 5 = .ok (.aload_n 0, 1) := by decide +kernel
theorem dX1_holds_6 : decode cX1_holds 6 = .ok (.getfield 31, 3) := by decide +kernel
theorem dX1_holds_9 : decode cX1_holds 9 = .ok (.if_icmp .ge 16, 3) := by decide +kernel
theorem dX1_holds_12 : decode cX1_holds 12 = .ok (.iload_n 1, 1) := by decide +kernel
theorem dX1_holds_13 : decode cX1_holds 13 = .ok (.aload_n 0, 1) := by decide +kernel
theorem dX1_holds_14 : decode cX1_holds 14 = .ok (.getfield 15, 3) := by decide +kernel
theorem dX1_holds_17 : decode cX1_holds 17 = .ok (.arraylength, 1) := by decide +kernel
theorem dX1_holds_18 : decode cX1_holds 18 = .ok (.if_icmp .ge 7, 3) := by decide +kernel
theorem dX1_holds_21 : decode cX1_holds 21 = .ok (.iconst 1, 1) := by decide +kernel
theorem dX1_holds_22 : decode cX1_holds 22 = .ok (.goto 4, 3) := by decide +kernel
theorem dX1_holds_25 : decode cX1_holds 25 = .ok (.iconst 0, 1) := by decide +kernel
theorem dX1_holds_26 : decode cX1_holds 26 = .ok (.ireturn, 1) := by decide +kernel
set_option maxRecDepth 20000 in
theorem ggX1_item_X1_holds : GoodIn wsX1_item wsX1_holds := goodIn_r _ [6, 7, 1, 8, 9, 10, 11, 12] (by decide +kernel) (by decide +kernel)
set_option maxRecDepth 20000 in
theorem gX1_item_X1_holds : GoodIn wsX1_item (wsV RX1 34 RX1 yX1_holds wsX1_holds) := goodIn_app (goodIn_of _ (by decide +kernel)) ggX1_item_X1_holds
theorem dX1_item_0 : decode cX1_item 0 = .ok (.aload_n 0, 1) := by decide +kernel
theorem dX1_item_1 : decode cX1_item 1 = .ok (.iload_n 1, 1) := by decide +kernel
theorem dX1_item_2 : decode cX1_item 2 = .ok (.invokevirtual 34, 3) := by decide +kernel
theorem dX1_item_5 : decode cX1_item 5 = .ok (.ifCond .eq 12, 3) := by decide +kernel
theorem dX1_item_8 : decode cX1_item 8 = .ok (.aload_n 0, 1) := by decide +kernel
theorem dX1_item_9 : decode cX1_item 9 = .ok (.getfield 15, 3) := by decide +kernel
theorem dX1_item_12 : decode cX1_item 12 = .ok (.iload_n 1, 1) := by decide +kernel
theorem dX1_item_13 : decode cX1_item 13 = .ok (.iaload, 1) := by decide +kernel
theorem dX1_item_14 : decode cX1_item 14 = .ok (.goto 4, 3) := by decide +kernel
theorem dX1_item_17 : decode cX1_item 17 = .ok (.iconst 0, 1) := by decide +kernel
theorem dX1_item_18 : decode cX1_item 18 = .ok (.ireturn, 1) := by decide +kernel
set_option maxRecDepth 20000 in
theorem ggX1_put_X1_holds : GoodIn wsX1_put wsX1_holds := goodIn_r _ [6, 7, 1, 8, 9, 10, 11, 12] (by decide +kernel) (by decide +kernel)
set_option maxRecDepth 20000 in
theorem gX1_put_X1_holds : GoodIn wsX1_put (wsV RX1 34 RX1 yX1_holds wsX1_holds) := goodIn_app (goodIn_of _ (by decide +kernel)) ggX1_put_X1_holds
theorem dX1_put_0 : decode cX1_put 0 = .ok (.aload_n 0, 1) := by decide +kernel
theorem dX1_put_1 : decode cX1_put 1 = .ok (.iload_n 1, 1) := by decide +kernel
theorem dX1_put_2 : decode cX1_put 2 = .ok (.invokevirtual 34, 3) := by decide +kernel
theorem dX1_put_5 : decode cX1_put 5 = .ok (.ifCond .eq 10, 3) := by decide +kernel
theorem dX1_put_8 : decode cX1_put 8 = .ok (.aload_n 0, 1) := by decide +kernel
theorem dX1_put_9 : decode cX1_put 9 = .ok (.getfield 15, 3) := by decide +kernel
theorem dX1_put_12 : decode cX1_put 12 = .ok (.iload_n 1, 1) := by decide +kernel
theorem dX1_put_13 : decode cX1_put 13 = .ok (.iload_n 2, 1) := by decide +kernel
theorem dX1_put_14 : decode cX1_put 14 = .ok (.iastore, 1) := by decide +kernel
theorem dX1_put_15 : decode cX1_put 15 = .ok (.return_, 1) := by decide +kernel
theorem dX1_append_0 : decode cX1_append 0 = .ok (.aload_n 0, 1) := by decide +kernel
theorem dX1_append_1 : decode cX1_append 1 = .ok (.getfield 31, 3) := by decide +kernel
theorem dX1_append_4 : decode cX1_append 4 = .ok (.ifCond .lt 35, 3) := by decide +kernel
theorem dX1_append_7 : decode cX1_append 7 = .ok (.aload_n 0, 1) := by decide +kernel
theorem dX1_append_8 : decode cX1_append 8 = .ok (.getfield 31, 3) := by decide +kernel
theorem dX1_append_11 : decode cX1_append 11 = .ok (.aload_n 0, 1) := by decide +kernel
theorem dX1_append_12 : decode cX1_append 12 = .ok (.getfield 15, 3) := by decide +kernel
theorem dX1_append_15 : decode cX1_append 15 = .ok (.arraylength, 1) := by decide +kernel
theorem dX1_append_16 : decode cX1_append 16 = .ok (.if_icmp .ge 23, 3) := by decide +kernel
theorem dX1_append_19 : decode cX1_append 19 = .ok (.aload_n 0, 1) := by decide +kernel
theorem dX1_append_20 : decode cX1_append 20 = .ok (.getfield 15, 3) := by decide +kernel
theorem dX1_append_23 : decode cX1_append 23 = .ok (.aload_n 0, 1) := by decide +kernel
theorem dX1_append_24 : decode cX1_append 24 = .ok (.getfield 31, 3) := by decide +kernel
theorem dX1_append_27 : decode cX1_append 27 = .ok (.iload_n 1, 1) := by decide +kernel
theorem dX1_append_28 : decode cX1_append 28 = .ok (.iastore, 1) := by decide +kernel
theorem dX1_append_29 : decode cX1_append 29 = .ok (.aload_n 0, 1) := by decide +kernel
theorem dX1_append_30 : decode cX1_append 30 = .ok (.dup, 1) := by decide +kernel
theorem dX1_append_31 : decode cX1_append 31 = .ok (.getfield 31, 3) := by decide +kernel
theorem dX1_append_34 : decode cX1_append 34 = .ok (.iconst 1, 1) := by decide +kernel
theorem dX1_append_35 : decode cX1_append 35 = .ok (.iadd, 1) := by decide +kernel
theorem dX1_append_36 : decode cX1_append 36 = .ok (.putfield 31, 3) := by decide +kernel
theorem dX1_append_39 : decode cX1_append 39 = .ok (.return_, 1) := by decide +kernel
theorem dX1_becomePicture_0 : decode cX1_becomePicture 0 = .ok (.aload_n 0, 1) := by decide +kernel
theorem dX1_becomePicture_1 : decode cX1_becomePicture 1 = .ok (.iconst 1, 1) := by decide +kernel
theorem dX1_becomePicture_2 : decode cX1_becomePicture 2 = .ok (.putfield 21, 3) := by decide +kernel
theorem dX1_becomePicture_5 : decode cX1_becomePicture 5 = .ok (.aload_n 0, 1) := by decide +kernel
theorem dX1_becomePicture_6 : decode cX1_becomePicture 6 = .ok (.iload_n 1, 1) := by decide +kernel
theorem dX1_becomePicture_7 : decode cX1_becomePicture 7 = .ok (.putfield 25, 3) := by decide +kernel
theorem dX1_becomePicture_10 : decode cX1_becomePicture 10 = .ok (.aload_n 0, 1) := by decide +kernel
theorem dX1_becomePicture_11 : decode cX1_becomePicture 11 = .ok (.iload_n 2, 1) := by decide +kernel
theorem dX1_becomePicture_12 : decode cX1_becomePicture 12 = .ok (.putfield 28, 3) := by decide +kernel
theorem dX1_becomePicture_15 : decode cX1_becomePicture 15 = .ok (.aload_n 0, 1) := by decide +kernel
theorem dX1_becomePicture_16 : decode cX1_becomePicture 16 = .ok (.iload_n 1, 1) := by decide +kernel
theorem dX1_becomePicture_17 : decode cX1_becomePicture 17 = .ok (.iload_n 2, 1) := by decide +kernel
theorem dX1_becomePicture_18 : decode cX1_becomePicture 18 = .ok (.imul, 1) := by decide +kernel
theorem dX1_becomePicture_19 : decode cX1_becomePicture 19 = .ok (.putfield 31, 3) := by decide +kernel
theorem dX1_becomePicture_22 : decode cX1_becomePicture 22 = .ok (.return_, 1) := by decide +kernel
theorem dX1_becomeNoWords_0 : decode cX1_becomeNoWords 0 = .ok (.aload_n 0, 1) := by decide +kernel
theorem dX1_becomeNoWords_1 : decode cX1_becomeNoWords 1 = .ok (.iconst 0, 1) := by decide +kernel
theorem dX1_becomeNoWords_2 : decode cX1_becomeNoWords 2 = .ok (.putfield 21, 3) := by decide +kernel
theorem dX1_becomeNoWords_5 : decode cX1_becomeNoWords 5 = .ok (.aload_n 0, 1) := by decide +kernel
theorem dX1_becomeNoWords_6 : decode cX1_becomeNoWords 6 = .ok (.iconst 0, 1) := by decide +kernel
theorem dX1_becomeNoWords_7 : decode cX1_becomeNoWords 7 = .ok (.putfield 25, 3) := by decide +kernel
theorem dX1_becomeNoWords_10 : decode cX1_becomeNoWords 10 = .ok (.aload_n 0, 1) := by decide +kernel
theorem dX1_becomeNoWords_11 : decode cX1_becomeNoWords 11 = .ok (.iconst 0, 1) := by decide +kernel
theorem dX1_becomeNoWords_12 : decode cX1_becomeNoWords 12 = .ok (.putfield 28, 3) := by decide +kernel
theorem dX1_becomeNoWords_15 : decode cX1_becomeNoWords 15 = .ok (.aload_n 0, 1) := by decide +kernel
theorem dX1_becomeNoWords_16 : decode cX1_becomeNoWords 16 = .ok (.iconst 0, 1) := by decide +kernel
theorem dX1_becomeNoWords_17 : decode cX1_becomeNoWords 17 = .ok (.putfield 31, 3) := by decide +kernel
theorem dX1_becomeNoWords_20 : decode cX1_becomeNoWords 20 = .ok (.return_, 1) := by decide +kernel
set_option maxRecDepth 20000 in
theorem ggX1_swapWithNext_X1_item : GoodIn wsX1_swapWithNext wsX1_item := goodIn_r _ [5, 6, 7, 8, 9, 4, 10, 11, 16, 17, 18, 19, 20] (by decide +kernel) (by decide +kernel)
set_option maxRecDepth 20000 in
theorem gX1_swapWithNext_X1_item : GoodIn wsX1_swapWithNext (wsV RX1 38 RX1 yX1_item wsX1_item) := goodIn_app (goodIn_of _ (by decide +kernel)) ggX1_swapWithNext_X1_item
set_option maxRecDepth 20000 in
theorem ggX1_swapWithNext_X1_put : GoodIn wsX1_swapWithNext wsX1_put := goodIn_r _ [15, 6, 7, 8, 9, 4, 10, 11, 16, 17, 18, 19, 20] (by decide +kernel) (by decide +kernel)
set_option maxRecDepth 20000 in
theorem gX1_swapWithNext_X1_put : GoodIn wsX1_swapWithNext (wsV RX1 42 RX1 yX1_put wsX1_put) := goodIn_app (goodIn_of _ (by decide +kernel)) ggX1_swapWithNext_X1_put
theorem dX1_swapWithNext_0 : decode cX1_swapWithNext 0 = .ok (.aload_n 0, 1) := by decide +kernel
theorem dX1_swapWithNext_1 : decode cX1_swapWithNext 1 = .ok (.iload_n 1, 1) := by decide +kernel
theorem dX1_swapWithNext_2 : decode cX1_swapWithNext 2 = .ok (.invokevirtual 38, 3) := by decide +kernel
theorem dX1_swapWithNext_5 : decode cX1_swapWithNext 5 = .ok (.istore_n 2, 1) := by decide +kernel
theorem dX1_swapWithNext_6 : decode cX1_swapWithNext 6 = .ok (.aload_n 0, 1) := by decide +kernel
theorem dX1_swapWithNext_7 : decode cX1_swapWithNext 7 = .ok (.iload_n 1, 1) := by decide +kernel
theorem dX1_swapWithNext_8 : decode cX1_swapWithNext 8 = .ok (.aload_n 0, 1) := by decide +kernel
theorem dX1_swapWithNext_9 : decode cX1_swapWithNext 9 = .ok (.iload_n 1, 1) := by decide +kernel
theorem dX1_swapWithNext_10 : decode cX1_swapWithNext 10 = .ok (.iconst 1, 1) := by decide +kernel
theorem dX1_swapWithNext_11 : decode cX1_swapWithNext 11 = .ok (.iadd, 1) := by decide +kernel
theorem dX1_swapWithNext_12 : decode cX1_swapWithNext 12 = .ok (.invokevirtual 38, 3) := by decide +kernel
theorem dX1_swapWithNext_15 : decode cX1_swapWithNext 15 = .ok (.invokevirtual 42, 3) := by decide +kernel
theorem dX1_swapWithNext_18 : decode cX1_swapWithNext 18 = .ok (.aload_n 0, 1) := by decide +kernel
theorem dX1_swapWithNext_19 : decode cX1_swapWithNext 19 = .ok (.iload_n 1, 1) := by decide +kernel
theorem dX1_swapWithNext_20 : decode cX1_swapWithNext 20 = .ok (.iconst 1, 1) := by decide +kernel
theorem dX1_swapWithNext_21 : decode cX1_swapWithNext 21 = .ok (.iadd, 1) := by decide +kernel
theorem dX1_swapWithNext_22 : decode cX1_swapWithNext 22 = .ok (.iload_n 2, 1) := by decide +kernel
theorem dX1_swapWithNext_23 : decode cX1_swapWithNext 23 = .ok (.invokevirtual 42, 3) := by decide +kernel
theorem dX1_swapWithNext_26 : decode cX1_swapWithNext 26 = .ok (.return_, 1) := by decide +kernel
set_option maxRecDepth 20000 in
theorem ggX1_isLike_X1_item : GoodIn wsX1_isLike wsX1_item := goodIn_r _ [9, 10, 11, 12, 13, 8, 14, 4, 15, 16, 17, 18, 19] (by decide +kernel) (by decide +kernel)
set_option maxRecDepth 20000 in
theorem gX1_isLike_X1_item : GoodIn wsX1_isLike (wsV RX1 38 RX1 yX1_item wsX1_item) := goodIn_app (goodIn_of _ (by decide +kernel)) ggX1_isLike_X1_item
theorem dX1_isLike_0 : decode cX1_isLike 0 = .ok (.aload_n 0, 1) := by decide +kernel
theorem dX1_isLike_1 : decode cX1_isLike 1 = .ok (.getfield 21, 3) := by decide +kernel
theorem dX1_isLike_4 : decode cX1_isLike 4 = .ok (.aload_n 1, 1) := by decide +kernel
theorem dX1_isLike_5 : decode cX1_isLike 5 = .ok (.getfield 21, 3) := by decide +kernel
theorem dX1_isLike_8 : decode cX1_isLike 8 = .ok (.if_icmp .ne 36, 3) := by decide +kernel
theorem dX1_isLike_11 : decode cX1_isLike 11 = .ok (.aload_n 0, 1) := by decide +kernel
theorem dX1_isLike_12 : decode cX1_isLike 12 = .ok (.getfield 25, 3) := by decide +kernel
theorem dX1_isLike_15 : decode cX1_isLike 15 = .ok (.aload_n 1, 1) := by decide +kernel
theorem dX1_isLike_16 : decode cX1_isLike 16 = .ok (.getfield 25, 3) := by decide +kernel
theorem dX1_isLike_19 : decode cX1_isLike 19 = .ok (.if_icmp .ne 25, 3) := by decide +kernel
theorem dX1_isLike_22 : decode cX1_isLike 22 = .ok (.aload_n 0, 1) := by decide +kernel
theorem dX1_isLike_23 : decode cX1_isLike 23 = .ok (.getfield 28, 3) := by decide +kernel
theorem dX1_isLike_26 : decode cX1_isLike 26 = .ok (.aload_n 1, 1) := by decide +kernel
theorem dX1_isLike_27 : decode cX1_isLike 27 = .ok (.getfield 28, 3) := by decide +kernel
theorem dX1_isLike_30 : decode cX1_isLike 30 = .ok (.if_icmp .ne 14, 3) := by decide +kernel
theorem dX1_isLike_33 : decode cX1_isLike 33 = .ok (.aload_n 0, 1) := by decide +kernel
theorem dX1_isLike_34 : decode cX1_isLike 34 = .ok (.getfield 31, 3) := by decide +kernel
theorem dX1_isLike_37 : decode cX1_isLike 37 = .ok (.aload_n 1, 1) := by decide +kernel
theorem dX1_isLike_38 : decode cX1_isLike 38 = .ok (.getfield 31, 3) := by decide +kernel
theorem dX1_isLike_41 : decode cX1_isLike 41 = .ok (.if_icmp .eq 5, 3) := by decide +kernel
theorem dX1_isLike_44 : decode cX1_isLike 44 = .ok (.iconst 0, 1) := by decide +kernel
theorem dX1_isLike_45 : decode cX1_isLike 45 = .ok (.ireturn, 1) := by decide +kernel
theorem dX1_isLike_46 : decode cX1_isLike 46 = .ok (.iconst 0, 1) := by decide +kernel
theorem dX1_isLike_47 : decode cX1_isLike 47 = .ok (.istore_n 2, 1) := by decide +kernel
theorem dX1_isLike_48 : decode cX1_isLike 48 = .ok (.iload_n 2, 1) := by decide +kernel
theorem dX1_isLike_49 : decode cX1_isLike 49 = .ok (.aload_n 0, 1) := by decide +kernel
theorem dX1_isLike_50 : decode cX1_isLike 50 = .ok (.getfield 31, 3) := by decide +kernel
theorem dX1_isLike_53 : decode cX1_isLike 53 = .ok (.if_icmp .ge 24, 3) := by decide +kernel
theorem dX1_isLike_56 : decode cX1_isLike 56 = .ok (.aload_n 0, 1) := by decide +kernel
theorem dX1_isLike_57 : decode cX1_isLike 57 = .ok (.iload_n 2, 1) := by decide +kernel
theorem dX1_isLike_58 : decode cX1_isLike 58 = .ok (.invokevirtual 38, 3) := by decide +kernel
theorem dX1_isLike_61 : decode cX1_isLike 61 = .ok (.aload_n 1, 1) := by decide +kernel
theorem dX1_isLike_62 : decode cX1_isLike 62 = .ok (.iload_n 2, 1) := by decide +kernel
theorem dX1_isLike_63 : decode cX1_isLike 63 = .ok (.invokevirtual 38, 3) := by decide +kernel
theorem dX1_isLike_66 : decode cX1_isLike 66 = .ok (.if_icmp .eq 5, 3) := by decide +kernel
theorem dX1_isLike_69 : decode cX1_isLike 69 = .ok (.iconst 0, 1) := by decide +kernel
theorem dX1_isLike_70 : decode cX1_isLike 70 = .ok (.ireturn, 1) := by decide +kernel
theorem dX1_isLike_71 : decode cX1_isLike 71 = .ok (.iinc 2 1, 3) := by decide +kernel
theorem dX1_isLike_74 : decode cX1_isLike 74 = .ok (.goto (-26), 3) := by decide +kernel
theorem dX1_isLike_77 : decode cX1_isLike 77 = .ok (.iconst 1, 1) := by decide +kernel
theorem dX1_isLike_78 : decode cX1_isLike 78 = .ok (.ireturn, 1) := by decide +kernel
theorem dX2_init_0 : decode cX2_init 0 = .ok (.aload_n 0, 1) := by decide +kernel
theorem dX2_init_1 : decode cX2_init 1 = .ok (.invokespecial 1, 3) := by decide +kernel
theorem dX2_init_4 : decode cX2_init 4 = .ok (.aload_n 0, 1) := by decide +kernel
theorem dX2_init_5 : decode cX2_init 5 = .ok (.lconst 0, 1) := by decide +kernel
theorem dX2_init_6 : decode cX2_init 6 = .ok (.putfield 7, 3) := by decide +kernel
theorem dX2_init_9 : decode cX2_init 9 = .ok (.return_, 1) := by decide +kernel
theorem dX2_begin_0 : decode cX2_begin 0 = .ok (.aload_n 0, 1) := by decide +kernel
theorem dX2_begin_1 : decode cX2_begin 1 = .ok (.lload_n 1, 1) := by decide +kernel
theorem dX2_begin_2 : decode cX2_begin 2 = .ok (.putfield 7, 3) := by decide +kernel
theorem dX2_begin_5 : decode cX2_begin 5 = .ok (.return_, 1) := by decide +kernel
set_option maxRecDepth 20000 in
theorem ggX2_key_X2_mixed : GoodIn wsX2_key wsX2_mixed := goodIn_r _ [6, 7, 8] (by decide +kernel) (by decide +kernel)
set_option maxRecDepth 20000 in
theorem gX2_key_X2_mixed : GoodIn wsX2_key (va_wsS RX2 15 yX2_mixed wsX2_mixed) := goodIn_app (goodIn_of _ (by decide +kernel)) ggX2_key_X2_mixed
theorem dX2_key_0 : decode cX2_key 0 = .ok (.aload_n 0, 1) := by decide +kernel
theorem dX2_key_1 : decode cX2_key 1 = .ok (.aload_n 0, 1) := by decide +kernel
theorem dX2_key_2 : decode cX2_key 2 = .ok (.getfield 7, 3) := by decide +kernel
theorem dX2_key_5 : decode cX2_key 5 = .ok (.iload_n 1, 1) := by decide +kernel
theorem dX2_key_6 : decode cX2_key 6 = .ok (.i2l, 1) := by decide +kernel
theorem dX2_key_7 : decode cX2_key 7 = .ok (.ldc2_w 13, 3) := by decide +kernel
theorem dX2_key_10 : decode cX2_key 10 = .ok (.lmul, 1) := by decide +kernel
theorem dX2_key_11 : decode cX2_key 11 = .ok (.lxor, 1) := by decide +kernel
theorem dX2_key_12 : decode cX2_key 12 = .ok (.invokestatic 15, 3) := by decide +kernel
theorem dX2_key_15 : decode cX2_key 15 = .ok (.putfield 7, 3) := by decide +kernel
theorem dX2_key_18 : decode cX2_key 18 = .ok (.return_, 1) := by decide +kernel
set_option maxRecDepth 20000 in
theorem ggX2_below_X2_mixed : GoodIn wsX2_below wsX2_mixed := goodIn_r _ [6, 7, 8] (by decide +kernel) (by decide +kernel)
set_option maxRecDepth 20000 in
theorem gX2_below_X2_mixed : GoodIn wsX2_below (va_wsS RX2 15 yX2_mixed wsX2_mixed) := goodIn_app (goodIn_of _ (by decide +kernel)) ggX2_below_X2_mixed
theorem dX2_below_0 : decode cX2_below 0 = .ok (.iload_n 1, 1) := by decide +kernel
theorem dX2_below_1 : decode cX2_below 1 = .ok (.iconst 1, 1) := by decide +kernel
theorem dX2_below_2 : decode cX2_below 2 = .ok (.if_icmp .ge 5, 3) := by decide +kernel
theorem dX2_below_5 : decode cX2_below 5 = .ok (.iconst 0, 1) := by decide +kernel
theorem dX2_below_6 : decode cX2_below 6 = .ok (.ireturn, 1) := by decide +kernel
theorem dX2_below_7 : decode cX2_below 7 = .ok (.aload_n 0, 1) := by decide +kernel
theorem dX2_below_8 : decode cX2_below 8 = .ok (.dup, 1) := by decide +kernel
theorem dX2_below_9 : decode cX2_below 9 = .ok (.getfield 7, 3) := by decide +kernel
theorem dX2_below_12 : decode cX2_below 12 = .ok (.ldc2_w 13, 3) := by decide +kernel
theorem dX2_below_15 : decode cX2_below 15 = .ok (.ladd, 1) := by decide +kernel
theorem dX2_below_16 : decode cX2_below 16 = .ok (.putfield 7, 3) := by decide +kernel
theorem dX2_below_19 : decode cX2_below 19 = .ok (.aload_n 0, 1) := by decide +kernel
theorem dX2_below_20 : decode cX2_below 20 = .ok (.getfield 7, 3) := by decide +kernel
theorem dX2_below_23 : decode cX2_below 23 = .ok (.invokestatic 15, 3) := by decide +kernel
theorem dX2_below_26 : decode cX2_below 26 = .ok (.iconst 1, 1) := by decide +kernel
theorem dX2_below_27 : decode cX2_below 27 = .ok (.lushr, 1) := by decide +kernel
theorem dX2_below_28 : decode cX2_below 28 = .ok (.iload_n 1, 1) := by decide +kernel
theorem dX2_below_29 : decode cX2_below 29 = .ok (.i2l, 1) := by decide +kernel
theorem dX2_below_30 : decode cX2_below 30 = .ok (.lrem, 1) := by decide +kernel
theorem dX2_below_31 : decode cX2_below 31 = .ok (.l2i, 1) := by decide +kernel
theorem dX2_below_32 : decode cX2_below 32 = .ok (.ireturn, 1) := by decide +kernel
set_option maxRecDepth 20000 in
theorem ggX2_shuffle_X2_below : GoodIn wsX2_shuffle wsX2_below := goodIn_r _ [5, 6, 7, 8, 9, 4, 10, 11, 12, 13] (by decide +kernel) (by decide +kernel)
set_option maxRecDepth 20000 in
theorem gX2_shuffle_X2_below : GoodIn wsX2_shuffle (wsV RX2 19 RX2 yX2_below wsX2_below) := goodIn_app (goodIn_of _ (by decide +kernel)) ggX2_shuffle_X2_below
theorem dX2_shuffle_0 : decode cX2_shuffle 0 = .ok (.iload_n 2, 1) := by decide +kernel
theorem dX2_shuffle_1 : decode cX2_shuffle 1 = .ok (.ifCond .lt 11, 3) := by decide +kernel
theorem dX2_shuffle_4 : decode cX2_shuffle 4 = .ok (.iload_n 3, 1) := by decide +kernel
theorem dX2_shuffle_5 : decode cX2_shuffle 5 = .ok (.aload_n 1, 1) := by decide +kernel
theorem dX2_shuffle_6 : decode cX2_shuffle 6 = .ok (.arraylength, 1) := by decide +kernel
theorem dX2_shuffle_7 : decode cX2_shuffle 7 = .ok (.iload_n 2, 1) := by decide +kernel
theorem dX2_shuffle_8 : decode cX2_shuffle 8 = .ok (.isub, 1) := by decide +kernel
theorem dX2_shuffle_9 : decode cX2_shuffle 9 = .ok (.if_icmp .le 4, 3) := by decide +kernel
theorem dX2_shuffle_12 : decode cX2_shuffle 12 = .ok (.return_, 1) := by decide +kernel
theorem dX2_shuffle_13 : decode cX2_shuffle 13 = .ok (.iload_n 3, 1) := by decide +kernel
theorem dX2_shuffle_14 : decode cX2_shuffle 14 = .ok (.iconst 1, 1) := by decide +kernel
theorem dX2_shuffle_15 : decode cX2_shuffle 15 = .ok (.isub, 1) := by decide +kernel
theorem dX2_shuffle_16 : decode cX2_shuffle 16 = .ok (.istore 4, 2) := by decide +kernel
theorem dX2_shuffle_18 : decode cX2_shuffle 18 = .ok (.iload 4, 2) := by decide +kernel
theorem dX2_shuffle_20 : decode cX2_shuffle 20 = .ok (.iconst 1, 1) := by decide +kernel
theorem dX2_shuffle_21 : decode cX2_shuffle 21 = .ok (.if_icmp .lt 45, 3) := by decide +kernel
theorem dX2_shuffle_24 : decode cX2_shuffle 24 = .ok (.iload_n 2, 1) := by decide +kernel
theorem dX2_shuffle_25 : decode cX2_shuffle 25 = .ok (.aload_n 0, 1) := by decide +kernel
theorem dX2_shuffle_26 : decode cX2_shuffle 26 = .ok (.iload 4, 2) := by decide +kernel
theorem dX2_shuffle_28 : decode cX2_shuffle 28 = .ok (.iconst 1, 1) := by decide +kernel
theorem dX2_shuffle_29 : decode cX2_shuffle 29 = .ok (.iadd, 1) := by decide +kernel
theorem dX2_shuffle_30 : decode cX2_shuffle 30 = .ok (.invokevirtual 19, 3) := by decide +kernel
theorem dX2_shuffle_33 : decode cX2_shuffle 33 = .ok (.iadd, 1) := by decide +kernel
theorem dX2_shuffle_34 : decode cX2_shuffle 34 = .ok (.istore 5, 2) := by decide +kernel
theorem dX2_shuffle_36 : decode cX2_shuffle 36 = .ok (.aload_n 1, 1) := by decide +kernel
theorem dX2_shuffle_37 : decode cX2_shuffle 37 = .ok (.iload_n 2, 1) := by decide +kernel
theorem dX2_shuffle_38 : decode cX2_shuffle 38 = .ok (.iload 4, 2) := by decide +kernel
theorem dX2_shuffle_40 : decode cX2_shuffle 40 = .ok (.iadd, 1) := by decide +kernel
theorem dX2_shuffle_41 : decode cX2_shuffle 41 = .ok (.iaload, 1) := by decide +kernel
theorem dX2_shuffle_42 : decode cX2_shuffle 42 = .ok (.istore 6, 2) := by decide +kernel
theorem dX2_shuffle_44 : decode cX2_shuffle 44 = .ok (.aload_n 1, 1) := by decide +kernel
theorem dX2_shuffle_45 : decode cX2_shuffle 45 = .ok (.iload_n 2, 1) := by decide +kernel
theorem dX2_shuffle_46 : decode cX2_shuffle 46 = .ok (.iload 4, 2) := by decide +kernel
theorem dX2_shuffle_48 : decode cX2_shuffle 48 = .ok (.iadd, 1) := by decide +kernel
theorem dX2_shuffle_49 : decode cX2_shuffle 49 = .ok (.aload_n 1, 1) := by decide +kernel
theorem dX2_shuffle_50 : decode cX2_shuffle 50 = .ok (.iload 5, 2) := by decide +kernel
theorem dX2_shuffle_52 : decode cX2_shuffle 52 = .ok (.iaload, 1) := by decide +kernel
theorem dX2_shuffle_53 : decode cX2_shuffle 53 = .ok (.iastore, 1) := by decide +kernel
theorem dX2_shuffle_54 : decode cX2_shuffle 54 = .ok (.aload_n 1, 1) := by decide +kernel
theorem dX2_shuffle_55 : decode cX2_shuffle 55 = .ok (.iload 5, 2) := by decide +kernel
theorem dX2_shuffle_57 : decode cX2_shuffle 57 = .ok (.iload 6, 2) := by decide +kernel
theorem dX2_shuffle_59 : decode cX2_shuffle 59 = .ok (.iastore, 1) := by decide +kernel
theorem dX2_shuffle_60 : decode cX2_shuffle 60 = .ok (.iinc 4 (-1), 3) := by decide +kernel
theorem dX2_shuffle_63 : decode cX2_shuffle 63 = .ok (.goto (-45), 3) := by decide +kernel
theorem dX2_shuffle_66 : decode cX2_shuffle 66 = .ok (.return_, 1) := by decide +kernel
theorem dX2_mixed_0 : decode cX2_mixed 0 = .ok (.lload_n 0, 1) := by decide +kernel
theorem dX2_mixed_1 : decode cX2_mixed 1 = .ok (.lload_n 0, 1) := by decide +kernel
theorem dX2_mixed_2 : decode cX2_mixed 2 = .ok (.bipush 30, 2) := by decide +kernel
theorem dX2_mixed_4 : decode cX2_mixed 4 = .ok (.lushr, 1) := by decide +kernel
theorem dX2_mixed_5 : decode cX2_mixed 5 = .ok (.lxor, 1) := by decide +kernel
theorem dX2_mixed_6 : decode cX2_mixed 6 = .ok (.ldc2_w 23, 3) := by decide +kernel
theorem dX2_mixed_9 : decode cX2_mixed 9 = .ok (.lmul, 1) := by decide +kernel
theorem dX2_mixed_10 : decode cX2_mixed 10 = .ok (.lstore_n 0, 1) := by decide +kernel
theorem dX2_mixed_11 : decode cX2_mixed 11 = .ok (.lload_n 0, 1) := by decide +kernel
theorem dX2_mixed_12 : decode cX2_mixed 12 = .ok (.lload_n 0, 1) := by decide +kernel
theorem dX2_mixed_13 : decode cX2_mixed 13 = .ok (.bipush 27, 2) := by decide +kernel
theorem dX2_mixed_15 : decode cX2_mixed 15 = .ok (.lushr, 1) := by decide +kernel
theorem dX2_mixed_16 : decode cX2_mixed 16 = .ok (.lxor, 1) := by decide +kernel
theorem dX2_mixed_17 : decode cX2_mixed 17 = .ok (.ldc2_w 25, 3) := by decide +kernel
theorem dX2_mixed_20 : decode cX2_mixed 20 = .ok (.lmul, 1) := by decide +kernel
theorem dX2_mixed_21 : decode cX2_mixed 21 = .ok (.lstore_n 0, 1) := by decide +kernel
theorem dX2_mixed_22 : decode cX2_mixed 22 = .ok (.lload_n 0, 1) := by decide +kernel
theorem dX2_mixed_23 : decode cX2_mixed 23 = .ok (.lload_n 0, 1) := by decide +kernel
theorem dX2_mixed_24 : decode cX2_mixed 24 = .ok (.bipush 31, 2) := by decide +kernel
theorem dX2_mixed_26 : decode cX2_mixed 26 = .ok (.lushr, 1) := by decide +kernel
theorem dX2_mixed_27 : decode cX2_mixed 27 = .ok (.lxor, 1) := by decide +kernel
theorem dX2_mixed_28 : decode cX2_mixed 28 = .ok (.lreturn, 1) := by decide +kernel
theorem dX3_init_0 : decode cX3_init 0 = .ok (.aload_n 0, 1) := by decide +kernel
theorem dX3_init_1 : decode cX3_init 1 = .ok (.invokespecial 3, 3) := by decide +kernel
theorem dX3_init_4 : decode cX3_init 4 = .ok (.aload_n 0, 1) := by decide +kernel
theorem dX3_init_5 : decode cX3_init 5 = .ok (.bipush 60, 2) := by decide +kernel
theorem dX3_init_7 : decode cX3_init 7 = .ok (.newarray .int, 2) := by decide +kernel
theorem dX3_init_9 : decode cX3_init 9 = .ok (.putfield 9, 3) := by decide +kernel
theorem dX3_init_12 : decode cX3_init 12 = .ok (.aload_n 0, 1) := by decide +kernel
theorem dX3_init_13 : decode cX3_init 13 = .ok (.iconst 0, 1) := by decide +kernel
theorem dX3_init_14 : decode cX3_init 14 = .ok (.putfield 15, 3) := by decide +kernel
theorem dX3_init_17 : decode cX3_init 17 = .ok (.aload_n 0, 1) := by decide +kernel
theorem dX3_init_18 : decode cX3_init 18 = .ok (.bipush 60, 2) := by decide +kernel
theorem dX3_init_20 : decode cX3_init 20 = .ok (.newarray .int, 2) := by decide +kernel
theorem dX3_init_22 : decode cX3_init 22 = .ok (.putfield 19, 3) := by decide +kernel
theorem dX3_init_25 : decode cX3_init 25 = .ok (.aload_n 0, 1) := by decide +kernel
theorem dX3_init_26 : decode cX3_init 26 = .ok (.bipush 8, 2) := by decide +kernel
theorem dX3_init_28 : decode cX3_init 28 = .ok (.newarray .int, 2) := by decide +kernel
theorem dX3_init_30 : decode cX3_init 30 = .ok (.putfield 22, 3) := by decide +kernel
theorem dX3_init_33 : decode cX3_init 33 = .ok (.aload_n 0, 1) := by decide +kernel
theorem dX3_init_34 : decode cX3_init 34 = .ok (.bipush 8, 2) := by decide +kernel
theorem dX3_init_36 : decode cX3_init 36 = .ok (.newarray .int, 2) := by decide +kernel
theorem dX3_init_38 : decode cX3_init 38 = .ok (.putfield 25, 3) := by decide +kernel
theorem dX3_init_41 : decode cX3_init 41 = .ok (.aload_n 0, 1) := by decide +kernel
theorem dX3_init_42 : decode cX3_init 42 = .ok (.bipush 8, 2) := by decide +kernel
theorem dX3_init_44 : decode cX3_init 44 = .ok (.newarray .int, 2) := by decide +kernel
theorem dX3_init_46 : decode cX3_init 46 = .ok (.putfield 28, 3) := by decide +kernel
theorem dX3_init_49 : decode cX3_init 49 = .ok (.aload_n 0, 1) := by decide +kernel
theorem dX3_init_50 : decode cX3_init 50 = .ok (.bipush 8, 2) := by decide +kernel
theorem dX3_init_52 : decode cX3_init 52 = .ok (.newarray .int, 2) := by decide +kernel
theorem dX3_init_54 : decode cX3_init 54 = .ok (.putfield 31, 3) := by decide +kernel
theorem dX3_init_57 : decode cX3_init 57 = .ok (.aload_n 0, 1) := by decide +kernel
theorem dX3_init_58 : decode cX3_init 58 = .ok (.aload_n 1, 1) := by decide +kernel
theorem dX3_init_59 : decode cX3_init 59 = .ok (.putfield 34, 3) := by decide +kernel
theorem dX3_init_62 : decode cX3_init 62 = .ok (.aload_n 0, 1) := by decide +kernel
theorem dX3_init_63 : decode cX3_init 63 = .ok (.aload_n 2, 1) := by decide +kernel
theorem dX3_init_64 : decode cX3_init 64 = .ok (.putfield 38, 3) := by decide +kernel
theorem dX3_init_67 : decode cX3_init 67 = .ok (.aload_n 0, 1) := by decide +kernel
theorem dX3_init_68 : decode cX3_init 68 = .ok (.aload_n 3, 1) := by decide +kernel
theorem dX3_init_69 : decode cX3_init 69 = .ok (.putfield 42, 3) := by decide +kernel
theorem dX3_init_72 : decode cX3_init 72 = .ok (.return_, 1) := by decide +kernel
set_option maxRecDepth 20000 in
theorem ggX3_make_X4_sumOfWeights : GoodIn wsX3_make wsX4_sumOfWeights := goodIn_r _ [11, 12, 13, 14, 15, 10, 16, 17, 18, 19, 20, 21, 128, 129, 130, 131] (by decide +kernel) (by decide +kernel)
set_option maxRecDepth 20000 in
theorem gX3_make_X4_sumOfWeights : GoodIn wsX3_make (wsV RX3 55 RX4 yX4_sumOfWeights wsX4_sumOfWeights) := goodIn_app (goodIn_of _ (by decide +kernel)) ggX3_make_X4_sumOfWeights
set_option maxRecDepth 20000 in
theorem ggX3_make_X3_beginStream : GoodIn wsX3_make wsX3_beginStream := goodIn_r _ [26, 27, 28, 29, 30, 31, 32, 33, 34, 35, 36, 37, 38, 39, 40, 41, 42, 43, 44, 118, 119, 120, 121, 122, 123, 124, 125, 126, 127, 132, 133, 134, 135, 136, 137] (by decide +kernel) (by decide +kernel)
set_option maxRecDepth 20000 in
theorem gX3_make_X3_beginStream : GoodIn wsX3_make (wsV RX3 59 RX3 yX3_beginStream wsX3_beginStream) := goodIn_app (goodIn_of _ (by decide +kernel)) ggX3_make_X3_beginStream
set_option maxRecDepth 20000 in
theorem ggX3_make_X3_makePlain : GoodIn wsX3_make wsX3_makePlain := goodIn_r _ [48, 6, 49, 27, 50, 51, 52, 32, 53, 54, 55, 56, 57, 34, 39, 40, 41, 42, 43, 44, 118, 119, 120, 121, 122, 123, 124, 125, 126, 127, 137] (by decide +kernel) (by decide +kernel)
set_option maxRecDepth 20000 in
theorem gX3_make_X3_makePlain : GoodIn wsX3_make (wsV RX3 63 RX3 yX3_makePlain wsX3_makePlain) := goodIn_app (goodIn_of _ (by decide +kernel)) ggX3_make_X3_makePlain
set_option maxRecDepth 20000 in
theorem ggX3_make_X3_sortParts : GoodIn wsX3_make wsX3_sortParts := goodIn_r _ [61, 28, 62, 63, 4, 64, 6, 2, 3, 5, 65, 66, 67, 25, 68, 49, 1, 69, 70, 71, 10, 72, 73, 74, 75, 76, 77, 18, 19, 20, 21, 12, 118, 119, 120, 121, 122, 123, 124, 125, 126, 127, 132, 133, 134, 135, 136, 138, 139, 140, 141, 142, 128, 129, 130, 131] (by decide +kernel) (by decide +kernel)
set_option maxRecDepth 20000 in
theorem gX3_make_X3_sortParts : GoodIn wsX3_make (wsV RX3 66 RX3 yX3_sortParts wsX3_sortParts) := goodIn_app (goodIn_of _ (by decide +kernel)) ggX3_make_X3_sortParts
set_option maxRecDepth 20000 in
theorem ggX3_make_X3_makeWeighted : GoodIn wsX3_make wsX3_makeWeighted := goodIn_r _ [81, 1, 6, 49, 27, 7, 8, 9, 10, 11, 12, 13, 14, 15, 16, 17, 18, 19, 20, 21, 82, 55, 56, 32, 57, 34, 39, 40, 41, 42, 43, 44, 83, 84, 85, 25, 86, 87, 118, 119, 120, 121, 122, 123, 124, 125, 126, 127, 128, 129, 130, 131, 137] (by decide +kernel) (by decide +kernel)
set_option maxRecDepth 20000 in
theorem gX3_make_X3_makeWeighted : GoodIn wsX3_make (wsV RX3 69 RX3 yX3_makeWeighted wsX3_makeWeighted) := goodIn_app (goodIn_of _ (by decide +kernel)) ggX3_make_X3_makeWeighted
set_option maxRecDepth 20000 in
theorem ggX3_make_X3_makeBalanced : GoodIn wsX3_make wsX3_makeBalanced := goodIn_r _ [91, 6, 92, 93, 49, 94, 95, 96, 97, 25, 98, 1, 99, 100, 101, 102, 10, 103, 104, 18, 19, 20, 21, 12, 105, 106, 107, 108, 109, 27, 22, 23, 24, 26, 28, 29, 30, 31, 32, 33, 34, 35, 36, 37, 38, 39, 40, 41, 42, 43, 44, 50, 51, 52, 53, 54, 55, 56, 57, 110, 111, 112, 113, 118, 119, 120, 121, 122, 123, 124, 125, 126, 127, 128, 129, 130, 131, 132, 133, 134, 135, 136, 137] (by decide +kernel) (by decide +kernel)
set_option maxRecDepth 20000 in
theorem gX3_make_X3_makeBalanced : GoodIn wsX3_make (wsV RX3 72 RX3 yX3_makeBalanced wsX3_makeBalanced) := goodIn_app (goodIn_of _ (by decide +kernel)) ggX3_make_X3_makeBalanced
set_option maxRecDepth 20000 in
theorem ggX3_make_X3_makeBuffered : GoodIn wsX3_make wsX3_makeBuffered := goodIn_r _ [117, 6, 28, 2, 3, 4, 5, 109, 27, 49, 82, 55, 56, 32, 57, 34, 39, 40, 41, 42, 43, 44, 118, 119, 120, 121, 122, 123, 124, 125, 126, 127, 132, 133, 134, 135, 136, 137] (by decide +kernel) (by decide +kernel)
set_option maxRecDepth 20000 in
theorem gX3_make_X3_makeBuffered : GoodIn wsX3_make (wsV RX3 76 RX3 yX3_makeBuffered wsX3_makeBuffered) := goodIn_app (goodIn_of _ (by decide +kernel)) ggX3_make_X3_makeBuffered
theorem dX3_make_0 : decode cX3_make 0 = .ok (.aload_n 0, 1) := by decide +kernel
theorem dX3_make_1 : decode cX3_make 1 = .ok (.aload_n 0, 1) := by decide +kernel
theorem dX3_make_2 : decode cX3_make 2 = .ok (.getfield 34, 3) := by decide +kernel
theorem dX3_make_5 : decode cX3_make 5 = .ok (.getfield 46, 3) := by decide +kernel
theorem dX3_make_8 : decode cX3_make 8 = .ok (.bipush 60, 2) := by decide +kernel
theorem dX3_make_10 : decode cX3_make 10 = .ok (.invokestatic 49, 3) := by decide +kernel
theorem dX3_make_13 : decode cX3_make 13 = .ok (.putfield 15, 3) := by decide +kernel
theorem dX3_make_16 : decode cX3_make 16 = .ok (.iload_n 1, 1) := by decide +kernel
theorem dX3_make_17 : decode cX3_make 17 = .ok (.iconst 2, 1) := by decide +kernel
theorem dX3_make_18 : decode cX3_make 18 = .ok (.if_icmp .ne 22, 3) := by decide +kernel
theorem dX3_make_21 : decode cX3_make 21 = .ok (.aload_n 0, 1) := by decide +kernel
theorem dX3_make_22 : decode cX3_make 22 = .ok (.getfield 15, 3) := by decide +kernel
theorem dX3_make_25 : decode cX3_make 25 = .ok (.ifCond .le 15, 3) := by decide +kernel
theorem dX3_make_28 : decode cX3_make 28 = .ok (.aload_n 0, 1) := by decide +kernel
theorem dX3_make_29 : decode cX3_make 29 = .ok (.getfield 34, 3) := by decide +kernel
theorem dX3_make_32 : decode cX3_make 32 = .ok (.invokevirtual 55, 3) := by decide +kernel
theorem dX3_make_35 : decode cX3_make 35 = .ok (.ifCond .ne 5, 3) := by decide +kernel
theorem dX3_make_38 : decode cX3_make 38 = .ok (.iconst 0, 1) := by decide +kernel
theorem dX3_make_39 : decode cX3_make 39 = .ok (.ireturn, 1) := by decide +kernel
theorem dX3_make_40 : decode cX3_make 40 = .ok (.aload_n 0, 1) := by decide +kernel
theorem dX3_make_41 : decode cX3_make 41 = .ok (.iload_n 1, 1) := by decide +kernel
theorem dX3_make_42 : decode cX3_make 42 = .ok (.iload_n 2, 1) := by decide +kernel
theorem dX3_make_43 : decode cX3_make 43 = .ok (.invokevirtual 59, 3) := by decide +kernel
theorem dX3_make_46 : decode cX3_make 46 = .ok (.iload_n 1, 1) := by decide +kernel
theorem dX3_make_47 : decode cX3_make 47 = .ok (.tableswitch 62 1 4 #[29, 40, 47, 55], 29) := by decide +kernel
theorem dX3_make_76 : decode cX3_make 76 = .ok (.aload_n 0, 1) := by decide +kernel
theorem dX3_make_77 : decode cX3_make 77 = .ok (.invokevirtual 63, 3) := by decide +kernel
theorem dX3_make_80 : decode cX3_make 80 = .ok (.aload_n 0, 1) := by decide +kernel
theorem dX3_make_81 : decode cX3_make 81 = .ok (.invokevirtual 66, 3) := by decide +kernel
theorem dX3_make_84 : decode cX3_make 84 = .ok (.goto 29, 3) := by decide +kernel
theorem dX3_make_87 : decode cX3_make 87 = .ok (.aload_n 0, 1) := by decide +kernel
theorem dX3_make_88 : decode cX3_make 88 = .ok (.invokevirtual 69, 3) := by decide +kernel
theorem dX3_make_91 : decode cX3_make 91 = .ok (.goto 22, 3) := by decide +kernel
theorem dX3_make_94 : decode cX3_make 94 = .ok (.aload_n 0, 1) := by decide +kernel
theorem dX3_make_95 : decode cX3_make 95 = .ok (.iload_n 2, 1) := by decide +kernel
theorem dX3_make_96 : decode cX3_make 96 = .ok (.invokevirtual 72, 3) := by decide +kernel
theorem dX3_make_99 : decode cX3_make 99 = .ok (.goto 14, 3) := by decide +kernel
theorem dX3_make_102 : decode cX3_make 102 = .ok (.aload_n 0, 1) := by decide +kernel
theorem dX3_make_103 : decode cX3_make 103 = .ok (.invokevirtual 76, 3) := by decide +kernel
theorem dX3_make_106 : decode cX3_make 106 = .ok (.goto 7, 3) := by decide +kernel
theorem dX3_make_109 : decode cX3_make 109 = .ok (.aload_n 0, 1) := by decide +kernel
theorem dX3_make_110 : decode cX3_make 110 = .ok (.invokevirtual 63, 3) := by decide +kernel
theorem dX3_make_113 : decode cX3_make 113 = .ok (.iconst 1, 1) := by decide +kernel
theorem dX3_make_114 : decode cX3_make 114 = .ok (.ireturn, 1) := by decide +kernel
theorem dX3_rowAt_0 : decode cX3_rowAt 0 = .ok (.iload_n 1, 1) := by decide +kernel
theorem dX3_rowAt_1 : decode cX3_rowAt 1 = .ok (.ifCond .lt 20, 3) := by decide +kernel
theorem dX3_rowAt_4 : decode cX3_rowAt 4 = .ok (.iload_n 1, 1) := by decide +kernel
theorem dX3_rowAt_5 : decode cX3_rowAt 5 = .ok (.aload_n 0, 1) := by decide +kernel
theorem dX3_rowAt_6 : decode cX3_rowAt 6 = .ok (.getfield 15, 3) := by decide +kernel
theorem dX3_rowAt_9 : decode cX3_rowAt 9 = .ok (.if_icmp .ge 12, 3) := by decide +kernel
theorem dX3_rowAt_12 : decode cX3_rowAt 12 = .ok (.aload_n 0, 1) := by decide +kernel
theorem dX3_rowAt_13 : decode cX3_rowAt 13 = .ok (.getfield 9, 3) := by decide +kernel
theorem dX3_rowAt_16 : decode cX3_rowAt 16 = .ok (.iload_n 1, 1) := by decide +kernel
theorem dX3_rowAt_17 : decode cX3_rowAt 17 = .ok (.iaload, 1) := by decide +kernel
theorem dX3_rowAt_18 : decode cX3_rowAt 18 = .ok (.goto 5, 3) := by decide +kernel
theorem dX3_rowAt_21 : decode cX3_rowAt 21 = .ok (.bipush (-3), 2) := by decide +kernel
theorem dX3_rowAt_23 : decode cX3_rowAt 23 = .ok (.ireturn, 1) := by decide +kernel
theorem dX3_hasEachOnce_0 : decode cX3_hasEachOnce 0 = .ok (.iconst 0, 1) := by decide +kernel
theorem dX3_hasEachOnce_1 : decode cX3_hasEachOnce 1 = .ok (.istore_n 1, 1) := by decide +kernel
theorem dX3_hasEachOnce_2 : decode cX3_hasEachOnce 2 = .ok (.iload_n 1, 1) := by decide +kernel
theorem dX3_hasEachOnce_3 : decode cX3_hasEachOnce 3 = .ok (.aload_n 0, 1) := by decide +kernel
theorem dX3_hasEachOnce_4 : decode cX3_hasEachOnce 4 = .ok (.getfield 15, 3) := by decide +kernel
theorem dX3_hasEachOnce_7 : decode cX3_hasEachOnce 7 = .ok (.if_icmp .ge 16, 3) := by decide +kernel
theorem dX3_hasEachOnce_10 : decode cX3_hasEachOnce 10 = .ok (.aload_n 0, 1) := by decide +kernel
theorem dX3_hasEachOnce_11 : decode cX3_hasEachOnce 11 = .ok (.getfield 19, 3) := by decide +kernel
theorem dX3_hasEachOnce_14 : decode cX3_hasEachOnce 14 = .ok (.iload_n 1, 1) := by decide +kernel
theorem dX3_hasEachOnce_15 : decode cX3_hasEachOnce 15 = .ok (.iconst 0, 1) := by decide +kernel
theorem dX3_hasEachOnce_16 : decode cX3_hasEachOnce 16 = .ok (.iastore, 1) := by decide +kernel
theorem dX3_hasEachOnce_17 : decode cX3_hasEachOnce 17 = .ok (.iinc 1 1, 3) := by decide +kernel
theorem dX3_hasEachOnce_20 : decode cX3_hasEachOnce 20 = .ok (.goto (-18), 3) := by decide +kernel
theorem dX3_hasEachOnce_23 : decode cX3_hasEachOnce 23 = .ok (.iconst 0, 1) := by decide +kernel
theorem dX3_hasEachOnce_24 : decode cX3_hasEachOnce 24 = .ok (.istore_n 1, 1) := by decide +kernel
theorem dX3_hasEachOnce_25 : decode cX3_hasEachOnce 25 = .ok (.iload_n 1, 1) := by decide +kernel
theorem dX3_hasEachOnce_26 : decode cX3_hasEachOnce 26 = .ok (.aload_n 0, 1) := by decide +kernel
theorem dX3_hasEachOnce_27 : decode cX3_hasEachOnce 27 = .ok (.getfield 15, 3) := by decide +kernel
theorem dX3_hasEachOnce_30 : decode cX3_hasEachOnce 30 = .ok (.if_icmp .ge 46, 3) := by decide +kernel
theorem dX3_hasEachOnce_33 : decode cX3_hasEachOnce 33 = .ok (.aload_n 0, 1) := by decide +kernel
theorem dX3_hasEachOnce_34 : decode cX3_hasEachOnce 34 = .ok (.getfield 9, 3) := by decide +kernel
theorem dX3_hasEachOnce_37 : decode cX3_hasEachOnce 37 = .ok (.iload_n 1, 1) := by decide +kernel
theorem dX3_hasEachOnce_38 : decode cX3_hasEachOnce 38 = .ok (.iaload, 1) := by decide +kernel
theorem dX3_hasEachOnce_39 : decode cX3_hasEachOnce 39 = .ok (.istore_n 2, 1) := by decide +kernel
theorem dX3_hasEachOnce_40 : decode cX3_hasEachOnce 40 = .ok (.iload_n 2, 1) := by decide +kernel
theorem dX3_hasEachOnce_41 : decode cX3_hasEachOnce 41 = .ok (.ifCond .lt 20, 3) := by decide +kernel
theorem dX3_hasEachOnce_44 : decode cX3_hasEachOnce 44 = .ok (.iload_n 2, 1) := by decide +kernel
theorem dX3_hasEachOnce_45 : decode cX3_hasEachOnce 45 = .ok (.aload_n 0, 1) := by decide +kernel
theorem dX3_hasEachOnce_46 : decode cX3_hasEachOnce 46 = .ok (.getfield 15, 3) := by decide +kernel
theorem dX3_hasEachOnce_49 : decode cX3_hasEachOnce 49 = .ok (.if_icmp .ge 12, 3) := by decide +kernel
theorem dX3_hasEachOnce_52 : decode cX3_hasEachOnce 52 = .ok (.aload_n 0, 1) := by decide +kernel
theorem dX3_hasEachOnce_53 : decode cX3_hasEachOnce 53 = .ok (.getfield 19, 3) := by decide +kernel
theorem dX3_hasEachOnce_56 : decode cX3_hasEachOnce 56 = .ok (.iload_n 2, 1) := by decide +kernel
theorem dX3_hasEachOnce_57 : decode cX3_hasEachOnce 57 = .ok (.iaload, 1) := by decide +kernel
theorem dX3_hasEachOnce_58 : decode cX3_hasEachOnce 58 = .ok (.ifCond .le 5, 3) := by decide +kernel
theorem dX3_hasEachOnce_61 : decode cX3_hasEachOnce 61 = .ok (.iconst 0, 1) := by decide +kernel
theorem dX3_hasEachOnce_62 : decode cX3_hasEachOnce 62 = .ok (.ireturn, 1) := by decide +kernel
theorem dX3_hasEachOnce_63 : decode cX3_hasEachOnce 63 = .ok (.aload_n 0, 1) := by decide +kernel
theorem dX3_hasEachOnce_64 : decode cX3_hasEachOnce 64 = .ok (.getfield 19, 3) := by decide +kernel
theorem dX3_hasEachOnce_67 : decode cX3_hasEachOnce 67 = .ok (.iload_n 2, 1) := by decide +kernel
theorem dX3_hasEachOnce_68 : decode cX3_hasEachOnce 68 = .ok (.iconst 1, 1) := by decide +kernel
theorem dX3_hasEachOnce_69 : decode cX3_hasEachOnce 69 = .ok (.iastore, 1) := by decide +kernel
theorem dX3_hasEachOnce_70 : decode cX3_hasEachOnce 70 = .ok (.iinc 1 1, 3) := by decide +kernel
theorem dX3_hasEachOnce_73 : decode cX3_hasEachOnce 73 = .ok (.goto (-48), 3) := by decide +kernel
theorem dX3_hasEachOnce_76 : decode cX3_hasEachOnce 76 = .ok (.iconst 1, 1) := by decide +kernel
theorem dX3_hasEachOnce_77 : decode cX3_hasEachOnce 77 = .ok (.ireturn, 1) := by decide +kernel
set_option maxRecDepth 20000 in
theorem ggX3_beginStream_X2_begin : GoodIn wsX3_beginStream wsX2_begin := goodIn_r _ [7, 8, 34] (by decide +kernel) (by decide +kernel)
set_option maxRecDepth 20000 in
theorem gX3_beginStream_X2_begin : GoodIn wsX3_beginStream (wsV RX3 85 RX2 yX2_begin wsX2_begin) := goodIn_app (goodIn_of _ (by decide +kernel)) ggX3_beginStream_X2_begin
set_option maxRecDepth 20000 in
theorem ggX3_beginStream_X2_key : GoodIn wsX3_beginStream wsX2_key := goodIn_r _ [12, 8, 13, 14, 15, 6, 16, 17, 18, 34] (by decide +kernel) (by decide +kernel)
set_option maxRecDepth 20000 in
theorem gX3_beginStream_X2_key : GoodIn wsX3_beginStream (wsV RX3 91 RX2 yX2_key wsX2_key) := goodIn_app (goodIn_of _ (by decide +kernel)) ggX3_beginStream_X2_key
theorem dX3_beginStream_0 : decode cX3_beginStream 0 = .ok (.aload_n 0, 1) := by decide +kernel
theorem dX3_beginStream_1 : decode cX3_beginStream 1 = .ok (.getfield 42, 3) := by decide +kernel
theorem dX3_beginStream_4 : decode cX3_beginStream 4 = .ok (.aload_n 0, 1) := by decide +kernel
theorem dX3_beginStream_5 : decode cX3_beginStream 5 = .ok (.getfield 38, 3) := by decide +kernel
theorem dX3_beginStream_8 : decode cX3_beginStream 8 = .ok (.getfield 79, 3) := by decide +kernel
theorem dX3_beginStream_11 : decode cX3_beginStream 11 = .ok (.invokevirtual 85, 3) := by decide +kernel
theorem dX3_beginStream_14 : decode cX3_beginStream 14 = .ok (.aload_n 0, 1) := by decide +kernel
theorem dX3_beginStream_15 : decode cX3_beginStream 15 = .ok (.getfield 42, 3) := by decide +kernel
theorem dX3_beginStream_18 : decode cX3_beginStream 18 = .ok (.iload_n 1, 1) := by decide +kernel
theorem dX3_beginStream_19 : decode cX3_beginStream 19 = .ok (.invokevirtual 91, 3) := by decide +kernel
theorem dX3_beginStream_22 : decode cX3_beginStream 22 = .ok (.aload_n 0, 1) := by decide +kernel
theorem dX3_beginStream_23 : decode cX3_beginStream 23 = .ok (.getfield 42, 3) := by decide +kernel
theorem dX3_beginStream_26 : decode cX3_beginStream 26 = .ok (.iload_n 2, 1) := by decide +kernel
theorem dX3_beginStream_27 : decode cX3_beginStream 27 = .ok (.invokevirtual 91, 3) := by decide +kernel
theorem dX3_beginStream_30 : decode cX3_beginStream 30 = .ok (.return_, 1) := by decide +kernel
set_option maxRecDepth 20000 in
theorem ggX3_makePlain_X2_shuffle : GoodIn wsX3_makePlain wsX2_shuffle := goodIn_r _ [8, 9, 10, 11, 7, 12, 13, 14, 15, 16, 17, 18, 19, 30] (by decide +kernel) (by decide +kernel)
set_option maxRecDepth 20000 in
theorem gX3_makePlain_X2_shuffle : GoodIn wsX3_makePlain (wsV RX3 94 RX2 yX2_shuffle wsX2_shuffle) := goodIn_app (goodIn_of _ (by decide +kernel)) ggX3_makePlain_X2_shuffle
theorem dX3_makePlain_0 : decode cX3_makePlain 0 = .ok (.iconst 0, 1) := by decide +kernel
theorem dX3_makePlain_1 : decode cX3_makePlain 1 = .ok (.istore_n 1, 1) := by decide +kernel
theorem dX3_makePlain_2 : decode cX3_makePlain 2 = .ok (.iload_n 1, 1) := by decide +kernel
theorem dX3_makePlain_3 : decode cX3_makePlain 3 = .ok (.aload_n 0, 1) := by decide +kernel
theorem dX3_makePlain_4 : decode cX3_makePlain 4 = .ok (.getfield 15, 3) := by decide +kernel
theorem dX3_makePlain_7 : decode cX3_makePlain 7 = .ok (.if_icmp .ge 16, 3) := by decide +kernel
theorem dX3_makePlain_10 : decode cX3_makePlain 10 = .ok (.aload_n 0, 1) := by decide +kernel
theorem dX3_makePlain_11 : decode cX3_makePlain 11 = .ok (.getfield 9, 3) := by decide +kernel
theorem dX3_makePlain_14 : decode cX3_makePlain 14 = .ok (.iload_n 1, 1) := by decide +kernel
theorem dX3_makePlain_15 : decode cX3_makePlain 15 = .ok (.iload_n 1, 1) := by decide +kernel
theorem dX3_makePlain_16 : decode cX3_makePlain 16 = .ok (.iastore, 1) := by decide +kernel
theorem dX3_makePlain_17 : decode cX3_makePlain 17 = .ok (.iinc 1 1, 3) := by decide +kernel
theorem dX3_makePlain_20 : decode cX3_makePlain 20 = .ok (.goto (-18), 3) := by decide +kernel
theorem dX3_makePlain_23 : decode cX3_makePlain 23 = .ok (.aload_n 0, 1) := by decide +kernel
theorem dX3_makePlain_24 : decode cX3_makePlain 24 = .ok (.getfield 42, 3) := by decide +kernel
theorem dX3_makePlain_27 : decode cX3_makePlain 27 = .ok (.aload_n 0, 1) := by decide +kernel
theorem dX3_makePlain_28 : decode cX3_makePlain 28 = .ok (.getfield 9, 3) := by decide +kernel
theorem dX3_makePlain_31 : decode cX3_makePlain 31 = .ok (.iconst 0, 1) := by decide +kernel
theorem dX3_makePlain_32 : decode cX3_makePlain 32 = .ok (.aload_n 0, 1) := by decide +kernel
theorem dX3_makePlain_33 : decode cX3_makePlain 33 = .ok (.getfield 15, 3) := by decide +kernel
theorem dX3_makePlain_36 : decode cX3_makePlain 36 = .ok (.invokevirtual 94, 3) := by decide +kernel
theorem dX3_makePlain_39 : decode cX3_makePlain 39 = .ok (.return_, 1) := by decide +kernel
set_option maxRecDepth 20000 in
theorem ggX3_sortParts_X3_sortByLength : GoodIn wsX3_sortParts wsX3_sortByLength := goodIn_r _ [14, 15, 16, 17, 18, 19, 20, 21, 22, 23, 24, 25, 26, 27, 28, 29, 30, 31, 32, 33, 34, 35, 36, 37, 38, 39, 40, 41, 47, 48, 49, 50, 51, 52, 53, 54, 55] (by decide +kernel) (by decide +kernel)
set_option maxRecDepth 20000 in
theorem gX3_sortParts_X3_sortByLength : GoodIn wsX3_sortParts (wsV RX3 104 RX3 yX3_sortByLength wsX3_sortByLength) := goodIn_app (goodIn_of _ (by decide +kernel)) ggX3_sortParts_X3_sortByLength
theorem dX3_sortParts_0 : decode cX3_sortParts 0 = .ok (.iconst 1, 1) := by decide +kernel
theorem dX3_sortParts_1 : decode cX3_sortParts 1 = .ok (.aload_n 0, 1) := by decide +kernel
theorem dX3_sortParts_2 : decode cX3_sortParts 2 = .ok (.getfield 38, 3) := by decide +kernel
theorem dX3_sortParts_5 : decode cX3_sortParts 5 = .ok (.getfield 98, 3) := by decide +kernel
theorem dX3_sortParts_8 : decode cX3_sortParts 8 = .ok (.invokestatic 101, 3) := by decide +kernel
theorem dX3_sortParts_11 : decode cX3_sortParts 11 = .ok (.istore_n 1, 1) := by decide +kernel
theorem dX3_sortParts_12 : decode cX3_sortParts 12 = .ok (.iconst 0, 1) := by decide +kernel
theorem dX3_sortParts_13 : decode cX3_sortParts 13 = .ok (.istore_n 2, 1) := by decide +kernel
theorem dX3_sortParts_14 : decode cX3_sortParts 14 = .ok (.iload_n 2, 1) := by decide +kernel
theorem dX3_sortParts_15 : decode cX3_sortParts 15 = .ok (.aload_n 0, 1) := by decide +kernel
theorem dX3_sortParts_16 : decode cX3_sortParts 16 = .ok (.getfield 15, 3) := by decide +kernel
theorem dX3_sortParts_19 : decode cX3_sortParts 19 = .ok (.if_icmp .ge 25, 3) := by decide +kernel
theorem dX3_sortParts_22 : decode cX3_sortParts 22 = .ok (.aload_n 0, 1) := by decide +kernel
theorem dX3_sortParts_23 : decode cX3_sortParts 23 = .ok (.iload_n 2, 1) := by decide +kernel
theorem dX3_sortParts_24 : decode cX3_sortParts 24 = .ok (.aload_n 0, 1) := by decide +kernel
theorem dX3_sortParts_25 : decode cX3_sortParts 25 = .ok (.getfield 15, 3) := by decide +kernel
theorem dX3_sortParts_28 : decode cX3_sortParts 28 = .ok (.iload_n 2, 1) := by decide +kernel
theorem dX3_sortParts_29 : decode cX3_sortParts 29 = .ok (.iload_n 1, 1) := by decide +kernel
theorem dX3_sortParts_30 : decode cX3_sortParts 30 = .ok (.iadd, 1) := by decide +kernel
theorem dX3_sortParts_31 : decode cX3_sortParts 31 = .ok (.invokestatic 49, 3) := by decide +kernel
theorem dX3_sortParts_34 : decode cX3_sortParts 34 = .ok (.invokevirtual 104, 3) := by decide +kernel
theorem dX3_sortParts_37 : decode cX3_sortParts 37 = .ok (.iload_n 2, 1) := by decide +kernel
theorem dX3_sortParts_38 : decode cX3_sortParts 38 = .ok (.iload_n 1, 1) := by decide +kernel
theorem dX3_sortParts_39 : decode cX3_sortParts 39 = .ok (.iadd, 1) := by decide +kernel
theorem dX3_sortParts_40 : decode cX3_sortParts 40 = .ok (.istore_n 2, 1) := by decide +kernel
theorem dX3_sortParts_41 : decode cX3_sortParts 41 = .ok (.goto (-27), 3) := by decide +kernel
theorem dX3_sortParts_44 : decode cX3_sortParts 44 = .ok (.return_, 1) := by decide +kernel
set_option maxRecDepth 20000 in
theorem ggX3_sortByLength_X4_length : GoodIn wsX3_sortByLength wsX4_length := goodIn_r _ [7, 8, 9, 10, 6, 11, 12, 13, 14, 15, 16, 17, 28, 29, 30, 31, 32, 33, 34, 35, 36] (by decide +kernel) (by decide +kernel)
set_option maxRecDepth 20000 in
theorem gX3_sortByLength_X4_length : GoodIn wsX3_sortByLength (wsV RX3 107 RX4 yX4_length wsX4_length) := goodIn_app (goodIn_of _ (by decide +kernel)) ggX3_sortByLength_X4_length
theorem dX3_sortByLength_0 : decode cX3_sortByLength 0 = .ok (.iload_n 1, 1) := by decide +kernel
theorem dX3_sortByLength_1 : decode cX3_sortByLength 1 = .ok (.iconst 1, 1) := by decide +kernel
theorem dX3_sortByLength_2 : decode cX3_sortByLength 2 = .ok (.iadd, 1) := by decide +kernel
theorem dX3_sortByLength_3 : decode cX3_sortByLength 3 = .ok (.istore_n 3, 1) := by decide +kernel
theorem dX3_sortByLength_4 : decode cX3_sortByLength 4 = .ok (.iload_n 3, 1) := by decide +kernel
theorem dX3_sortByLength_5 : decode cX3_sortByLength 5 = .ok (.iload_n 2, 1) := by decide +kernel
theorem dX3_sortByLength_6 : decode cX3_sortByLength 6 = .ok (.if_icmp .ge 89, 3) := by decide +kernel
theorem dX3_sortByLength_9 : decode cX3_sortByLength 9 = .ok (.aload_n 0, 1) := by decide +kernel
theorem dX3_sortByLength_10 : decode cX3_sortByLength 10 = .ok (.getfield 9, 3) := by decide +kernel
theorem dX3_sortByLength_13 : decode cX3_sortByLength 13 = .ok (.iload_n 3, 1) := by decide +kernel
theorem dX3_sortByLength_14 : decode cX3_sortByLength 14 = .ok (.iaload, 1) := by decide +kernel
theorem dX3_sortByLength_15 : decode cX3_sortByLength 15 = .ok (.istore 4, 2) := by decide +kernel
theorem dX3_sortByLength_17 : decode cX3_sortByLength 17 = .ok (.aload_n 0, 1) := by decide +kernel
theorem dX3_sortByLength_18 : decode cX3_sortByLength 18 = .ok (.getfield 34, 3) := by decide +kernel
theorem dX3_sortByLength_21 : decode cX3_sortByLength 21 = .ok (.iload 4, 2) := by decide +kernel
theorem dX3_sortByLength_23 : decode cX3_sortByLength 23 = .ok (.invokevirtual 107, 3) := by decide +kernel
theorem dX3_sortByLength_26 : decode cX3_sortByLength 26 = .ok (.istore 5, 2) := by decide +kernel
theorem dX3_sortByLength_28 : decode cX3_sortByLength 28 = .ok (.iload_n 3, 1) := by decide +kernel
theorem dX3_sortByLength_29 : decode cX3_sortByLength 29 = .ok (.istore 6, 2) := by decide +kernel
theorem dX3_sortByLength_31 : decode cX3_sortByLength 31 = .ok (.iload 6, 2) := by decide +kernel
theorem dX3_sortByLength_33 : decode cX3_sortByLength 33 = .ok (.iload_n 1, 1) := by decide +kernel
theorem dX3_sortByLength_34 : decode cX3_sortByLength 34 = .ok (.if_icmp .le 46, 3) := by decide +kernel
theorem dX3_sortByLength_37 : decode cX3_sortByLength 37 = .ok (.aload_n 0, 1) := by decide +kernel
theorem dX3_sortByLength_38 : decode cX3_sortByLength 38 = .ok (.getfield 34, 3) := by decide +kernel
theorem dX3_sortByLength_41 : decode cX3_sortByLength 41 = .ok (.aload_n 0, 1) := by decide +kernel
theorem dX3_sortByLength_42 : decode cX3_sortByLength 42 = .ok (.getfield 9, 3) := by decide +kernel
theorem dX3_sortByLength_45 : decode cX3_sortByLength 45 = .ok (.iload 6, 2) := by decide +kernel
theorem dX3_sortByLength_47 : decode cX3_sortByLength 47 = .ok (.iconst 1, 1) := by decide +kernel
theorem dX3_sortByLength_48 : decode cX3_sortByLength 48 = .ok (.isub, 1) := by decide +kernel
theorem dX3_sortByLength_49 : decode cX3_sortByLength 49 = .ok (.iaload, 1) := by decide +kernel
theorem dX3_sortByLength_50 : decode cX3_sortByLength 50 = .ok (.invokevirtual 107, 3) := by decide +kernel
theorem dX3_sortByLength_53 : decode cX3_sortByLength 53 = .ok (.iload 5, 2) := by decide +kernel
theorem dX3_sortByLength_55 : decode cX3_sortByLength 55 = .ok (.if_icmp .le 25, 3) := by decide +kernel
theorem dX3_sortByLength_58 : decode cX3_sortByLength 58 = .ok (.aload_n 0, 1) := by decide +kernel
theorem dX3_sortByLength_59 : decode cX3_sortByLength 59 = .ok (.getfield 9, 3) := by decide +kernel
theorem dX3_sortByLength_62 : decode cX3_sortByLength 62 = .ok (.iload 6, 2) := by decide +kernel
theorem dX3_sortByLength_64 : decode cX3_sortByLength 64 = .ok (.aload_n 0, 1) := by decide +kernel
theorem dX3_sortByLength_65 : decode cX3_sortByLength 65 = .ok (.getfield 9, 3) := by decide +kernel
theorem dX3_sortByLength_68 : decode cX3_sortByLength 68 = .ok (.iload 6, 2) := by decide +kernel
theorem dX3_sortByLength_70 : decode cX3_sortByLength 70 = .ok (.iconst 1, 1) := by decide +kernel
theorem dX3_sortByLength_71 : decode cX3_sortByLength 71 = .ok (.isub, 1) := by decide +kernel
theorem dX3_sortByLength_72 : decode cX3_sortByLength 72 = .ok (.iaload, 1) := by decide +kernel
theorem dX3_sortByLength_73 : decode cX3_sortByLength 73 = .ok (.iastore, 1) := by decide +kernel
theorem dX3_sortByLength_74 : decode cX3_sortByLength 74 = .ok (.iinc 6 (-1), 3) := by decide +kernel
theorem dX3_sortByLength_77 : decode cX3_sortByLength 77 = .ok (.goto (-46), 3) := by decide +kernel
theorem dX3_sortByLength_80 : decode cX3_sortByLength 80 = .ok (.aload_n 0, 1) := by decide +kernel
theorem dX3_sortByLength_81 : decode cX3_sortByLength 81 = .ok (.getfield 9, 3) := by decide +kernel
theorem dX3_sortByLength_84 : decode cX3_sortByLength 84 = .ok (.iload 6, 2) := by decide +kernel
theorem dX3_sortByLength_86 : decode cX3_sortByLength 86 = .ok (.iload 4, 2) := by decide +kernel
theorem dX3_sortByLength_88 : decode cX3_sortByLength 88 = .ok (.iastore, 1) := by decide +kernel
theorem dX3_sortByLength_89 : decode cX3_sortByLength 89 = .ok (.iinc 3 1, 3) := by decide +kernel
theorem dX3_sortByLength_92 : decode cX3_sortByLength 92 = .ok (.goto (-88), 3) := by decide +kernel
theorem dX3_sortByLength_95 : decode cX3_sortByLength 95 = .ok (.return_, 1) := by decide +kernel
set_option maxRecDepth 20000 in
theorem ggX3_makeWeighted_X4_sumOfWeights : GoodIn wsX3_makeWeighted wsX4_sumOfWeights := goodIn_r _ [9, 10, 11, 12, 13, 8, 14, 15, 16, 17, 18, 19, 48, 49, 50, 51] (by decide +kernel) (by decide +kernel)
set_option maxRecDepth 20000 in
theorem gX3_makeWeighted_X4_sumOfWeights : GoodIn wsX3_makeWeighted (wsV RX3 55 RX4 yX4_sumOfWeights wsX4_sumOfWeights) := goodIn_app (goodIn_of _ (by decide +kernel)) ggX3_makeWeighted_X4_sumOfWeights
set_option maxRecDepth 20000 in
theorem ggX3_makeWeighted_X2_below : GoodIn wsX3_makeWeighted wsX2_below := goodIn_r _ [24, 25, 26, 27, 28, 23, 29, 30, 31, 52] (by decide +kernel) (by decide +kernel)
set_option maxRecDepth 20000 in
theorem gX3_makeWeighted_X2_below : GoodIn wsX3_makeWeighted (wsV RX3 111 RX2 yX2_below wsX2_below) := goodIn_app (goodIn_of _ (by decide +kernel)) ggX3_makeWeighted_X2_below
set_option maxRecDepth 20000 in
theorem ggX3_makeWeighted_X3_rowAbove : GoodIn wsX3_makeWeighted wsX3_rowAbove := goodIn_r _ [36, 2, 1, 37, 12, 13, 8, 14, 15, 16, 17, 18, 19, 10, 38, 39, 40, 41, 42, 43, 44, 45, 46, 47, 48, 49, 50, 51] (by decide +kernel) (by decide +kernel)
set_option maxRecDepth 20000 in
theorem gX3_makeWeighted_X3_rowAbove : GoodIn wsX3_makeWeighted (wsV RX3 114 RX3 yX3_rowAbove wsX3_rowAbove) := goodIn_app (goodIn_of _ (by decide +kernel)) ggX3_makeWeighted_X3_rowAbove
theorem dX3_makeWeighted_0 : decode cX3_makeWeighted 0 = .ok (.aload_n 0, 1) := by decide +kernel
theorem dX3_makeWeighted_1 : decode cX3_makeWeighted 1 = .ok (.getfield 34, 3) := by decide +kernel
theorem dX3_makeWeighted_4 : decode cX3_makeWeighted 4 = .ok (.invokevirtual 55, 3) := by decide +kernel
theorem dX3_makeWeighted_7 : decode cX3_makeWeighted 7 = .ok (.istore_n 1, 1) := by decide +kernel
theorem dX3_makeWeighted_8 : decode cX3_makeWeighted 8 = .ok (.iconst 0, 1) := by decide +kernel
theorem dX3_makeWeighted_9 : decode cX3_makeWeighted 9 = .ok (.istore_n 2, 1) := by decide +kernel
theorem dX3_makeWeighted_10 : decode cX3_makeWeighted 10 = .ok (.iload_n 2, 1) := by decide +kernel
theorem dX3_makeWeighted_11 : decode cX3_makeWeighted 11 = .ok (.aload_n 0, 1) := by decide +kernel
theorem dX3_makeWeighted_12 : decode cX3_makeWeighted 12 = .ok (.getfield 15, 3) := by decide +kernel
theorem dX3_makeWeighted_15 : decode cX3_makeWeighted 15 = .ok (.if_icmp .ge 27, 3) := by decide +kernel
theorem dX3_makeWeighted_18 : decode cX3_makeWeighted 18 = .ok (.aload_n 0, 1) := by decide +kernel
theorem dX3_makeWeighted_19 : decode cX3_makeWeighted 19 = .ok (.getfield 9, 3) := by decide +kernel
theorem dX3_makeWeighted_22 : decode cX3_makeWeighted 22 = .ok (.iload_n 2, 1) := by decide +kernel
theorem dX3_makeWeighted_23 : decode cX3_makeWeighted 23 = .ok (.aload_n 0, 1) := by decide +kernel
theorem dX3_makeWeighted_24 : decode cX3_makeWeighted 24 = .ok (.aload_n 0, 1) := by decide +kernel
theorem dX3_makeWeighted_25 : decode cX3_makeWeighted 25 = .ok (.getfield 42, 3) := by decide +kernel
theorem dX3_makeWeighted_28 : decode cX3_makeWeighted 28 = .ok (.iload_n 1, 1) := by decide +kernel
theorem dX3_makeWeighted_29 : decode cX3_makeWeighted 29 = .ok (.invokevirtual 111, 3) := by decide +kernel
theorem dX3_makeWeighted_32 : decode cX3_makeWeighted 32 = .ok (.invokevirtual 114, 3) := by decide +kernel
theorem dX3_makeWeighted_35 : decode cX3_makeWeighted 35 = .ok (.iastore, 1) := by decide +kernel
theorem dX3_makeWeighted_36 : decode cX3_makeWeighted 36 = .ok (.iinc 2 1, 3) := by decide +kernel
theorem dX3_makeWeighted_39 : decode cX3_makeWeighted 39 = .ok (.goto (-29), 3) := by decide +kernel
theorem dX3_makeWeighted_42 : decode cX3_makeWeighted 42 = .ok (.return_, 1) := by decide +kernel
set_option maxRecDepth 20000 in
theorem ggX3_rowAbove_X4_weight : GoodIn wsX3_rowAbove wsX4_weight := goodIn_r _ [7, 8, 9, 10, 11, 6, 12, 13, 24, 25, 26, 27] (by decide +kernel) (by decide +kernel)
set_option maxRecDepth 20000 in
theorem gX3_rowAbove_X4_weight : GoodIn wsX3_rowAbove (wsV RX3 117 RX4 yX4_weight wsX4_weight) := goodIn_app (goodIn_of _ (by decide +kernel)) ggX3_rowAbove_X4_weight
theorem dX3_rowAbove_0 : decode cX3_rowAbove 0 = .ok (.iconst 0, 1) := by decide +kernel
theorem dX3_rowAbove_1 : decode cX3_rowAbove 1 = .ok (.istore_n 2, 1) := by decide +kernel
theorem dX3_rowAbove_2 : decode cX3_rowAbove 2 = .ok (.iconst 0, 1) := by decide +kernel
theorem dX3_rowAbove_3 : decode cX3_rowAbove 3 = .ok (.istore_n 3, 1) := by decide +kernel
theorem dX3_rowAbove_4 : decode cX3_rowAbove 4 = .ok (.iload_n 3, 1) := by decide +kernel
theorem dX3_rowAbove_5 : decode cX3_rowAbove 5 = .ok (.aload_n 0, 1) := by decide +kernel
theorem dX3_rowAbove_6 : decode cX3_rowAbove 6 = .ok (.getfield 15, 3) := by decide +kernel
theorem dX3_rowAbove_9 : decode cX3_rowAbove 9 = .ok (.if_icmp .ge 27, 3) := by decide +kernel
theorem dX3_rowAbove_12 : decode cX3_rowAbove 12 = .ok (.iload_n 2, 1) := by decide +kernel
theorem dX3_rowAbove_13 : decode cX3_rowAbove 13 = .ok (.aload_n 0, 1) := by decide +kernel
theorem dX3_rowAbove_14 : decode cX3_rowAbove 14 = .ok (.getfield 34, 3) := by decide +kernel
theorem dX3_rowAbove_17 : decode cX3_rowAbove 17 = .ok (.iload_n 3, 1) := by decide +kernel
theorem dX3_rowAbove_18 : decode cX3_rowAbove 18 = .ok (.invokevirtual 117, 3) := by decide +kernel
theorem dX3_rowAbove_21 : decode cX3_rowAbove 21 = .ok (.iadd, 1) := by decide +kernel
theorem dX3_rowAbove_22 : decode cX3_rowAbove 22 = .ok (.istore_n 2, 1) := by decide +kernel
theorem dX3_rowAbove_23 : decode cX3_rowAbove 23 = .ok (.iload_n 2, 1) := by decide +kernel
theorem dX3_rowAbove_24 : decode cX3_rowAbove 24 = .ok (.iload_n 1, 1) := by decide +kernel
theorem dX3_rowAbove_25 : decode cX3_rowAbove 25 = .ok (.if_icmp .le 5, 3) := by decide +kernel
theorem dX3_rowAbove_28 : decode cX3_rowAbove 28 = .ok (.iload_n 3, 1) := by decide +kernel
theorem dX3_rowAbove_29 : decode cX3_rowAbove 29 = .ok (.ireturn, 1) := by decide +kernel
theorem dX3_rowAbove_30 : decode cX3_rowAbove 30 = .ok (.iinc 3 1, 3) := by decide +kernel
theorem dX3_rowAbove_33 : decode cX3_rowAbove 33 = .ok (.goto (-29), 3) := by decide +kernel
theorem dX3_rowAbove_36 : decode cX3_rowAbove 36 = .ok (.bipush (-3), 2) := by decide +kernel
theorem dX3_rowAbove_38 : decode cX3_rowAbove 38 = .ok (.ireturn, 1) := by decide +kernel
set_option maxRecDepth 20000 in
theorem ggX3_makeBalanced_X3_layOutLabels : GoodIn wsX3_makeBalanced wsX3_layOutLabels := goodIn_r _ [10, 1, 11, 5, 2, 3, 12, 13, 14, 15, 16, 17, 18, 19, 20, 21, 22, 23, 63, 64, 65, 66, 67, 68, 69, 70, 71, 72, 73, 74, 75, 76] (by decide +kernel) (by decide +kernel)
set_option maxRecDepth 20000 in
theorem gX3_makeBalanced_X3_layOutLabels : GoodIn wsX3_makeBalanced (wsV RX3 120 RX3 yX3_layOutLabels wsX3_layOutLabels) := goodIn_app (goodIn_of _ (by decide +kernel)) ggX3_makeBalanced_X3_layOutLabels
set_option maxRecDepth 20000 in
theorem ggX3_makeBalanced_X3_mixLabel : GoodIn wsX3_makeBalanced wsX3_mixLabel := goodIn_r _ [27, 5, 1, 11, 28, 29, 12, 2, 3, 13, 14, 15, 16, 17, 18, 19, 20, 21, 22, 23, 30, 31, 32, 9, 33, 34, 35, 36, 37, 38, 39, 40, 41, 42, 43, 44, 45, 46, 47, 48, 49, 50, 51, 52, 53, 54, 55, 56, 57, 58, 63, 64, 65, 66, 67, 68, 69, 70, 71, 72, 73, 74, 75, 76, 77, 78, 79, 80, 81, 82] (by decide +kernel) (by decide +kernel)
set_option maxRecDepth 20000 in
theorem gX3_makeBalanced_X3_mixLabel : GoodIn wsX3_makeBalanced (wsV RX3 123 RX3 yX3_mixLabel wsX3_mixLabel) := goodIn_app (goodIn_of _ (by decide +kernel)) ggX3_makeBalanced_X3_mixLabel
set_option maxRecDepth 20000 in
theorem ggX3_makeBalanced_X3_rowHeld : GoodIn wsX3_makeBalanced wsX3_rowHeld := goodIn_r _ [62, 28, 63, 64, 65, 66, 67, 68, 69, 70, 71, 72] (by decide +kernel) (by decide +kernel)
set_option maxRecDepth 20000 in
theorem gX3_makeBalanced_X3_rowHeld : GoodIn wsX3_makeBalanced (wsV RX3 126 RX3 yX3_rowHeld wsX3_rowHeld) := goodIn_app (goodIn_of _ (by decide +kernel)) ggX3_makeBalanced_X3_rowHeld
theorem dX3_makeBalanced_0 : decode cX3_makeBalanced 0 = .ok (.aload_n 0, 1) := by decide +kernel
theorem dX3_makeBalanced_1 : decode cX3_makeBalanced 1 = .ok (.invokevirtual 120, 3) := by decide +kernel
theorem dX3_makeBalanced_4 : decode cX3_makeBalanced 4 = .ok (.iconst 0, 1) := by decide +kernel
theorem dX3_makeBalanced_5 : decode cX3_makeBalanced 5 = .ok (.istore_n 2, 1) := by decide +kernel
theorem dX3_makeBalanced_6 : decode cX3_makeBalanced 6 = .ok (.iconst 0, 1) := by decide +kernel
theorem dX3_makeBalanced_7 : decode cX3_makeBalanced 7 = .ok (.istore_n 3, 1) := by decide +kernel
theorem dX3_makeBalanced_8 : decode cX3_makeBalanced 8 = .ok (.iload_n 3, 1) := by decide +kernel
theorem dX3_makeBalanced_9 : decode cX3_makeBalanced 9 = .ok (.sipush 480, 3) := by decide +kernel
theorem dX3_makeBalanced_12 : decode cX3_makeBalanced 12 = .ok (.if_icmp .ge 100, 3) := by decide +kernel
theorem dX3_makeBalanced_15 : decode cX3_makeBalanced 15 = .ok (.iload_n 2, 1) := by decide +kernel
theorem dX3_makeBalanced_16 : decode cX3_makeBalanced 16 = .ok (.aload_n 0, 1) := by decide +kernel
theorem dX3_makeBalanced_17 : decode cX3_makeBalanced 17 = .ok (.getfield 15, 3) := by decide +kernel
theorem dX3_makeBalanced_20 : decode cX3_makeBalanced 20 = .ok (.if_icmp .ge 92, 3) := by decide +kernel
theorem dX3_makeBalanced_23 : decode cX3_makeBalanced 23 = .ok (.iload_n 3, 1) := by decide +kernel
theorem dX3_makeBalanced_24 : decode cX3_makeBalanced 24 = .ok (.bipush 8, 2) := by decide +kernel
theorem dX3_makeBalanced_26 : decode cX3_makeBalanced 26 = .ok (.irem, 1) := by decide +kernel
theorem dX3_makeBalanced_27 : decode cX3_makeBalanced 27 = .ok (.istore 4, 2) := by decide +kernel
theorem dX3_makeBalanced_29 : decode cX3_makeBalanced 29 = .ok (.aload_n 0, 1) := by decide +kernel
theorem dX3_makeBalanced_30 : decode cX3_makeBalanced 30 = .ok (.getfield 25, 3) := by decide +kernel
theorem dX3_makeBalanced_33 : decode cX3_makeBalanced 33 = .ok (.iload 4, 2) := by decide +kernel
theorem dX3_makeBalanced_35 : decode cX3_makeBalanced 35 = .ok (.iaload, 1) := by decide +kernel
theorem dX3_makeBalanced_36 : decode cX3_makeBalanced 36 = .ok (.iconst 1, 1) := by decide +kernel
theorem dX3_makeBalanced_37 : decode cX3_makeBalanced 37 = .ok (.if_icmp .ge 6, 3) := by decide +kernel
theorem dX3_makeBalanced_40 : decode cX3_makeBalanced 40 = .ok (.goto 66, 3) := by decide +kernel
theorem dX3_makeBalanced_43 : decode cX3_makeBalanced 43 = .ok (.aload_n 0, 1) := by decide +kernel
theorem dX3_makeBalanced_44 : decode cX3_makeBalanced 44 = .ok (.getfield 28, 3) := by decide +kernel
theorem dX3_makeBalanced_47 : decode cX3_makeBalanced 47 = .ok (.iload 4, 2) := by decide +kernel
theorem dX3_makeBalanced_49 : decode cX3_makeBalanced 49 = .ok (.iaload, 1) := by decide +kernel
theorem dX3_makeBalanced_50 : decode cX3_makeBalanced 50 = .ok (.aload_n 0, 1) := by decide +kernel
theorem dX3_makeBalanced_51 : decode cX3_makeBalanced 51 = .ok (.getfield 25, 3) := by decide +kernel
theorem dX3_makeBalanced_54 : decode cX3_makeBalanced 54 = .ok (.iload 4, 2) := by decide +kernel
theorem dX3_makeBalanced_56 : decode cX3_makeBalanced 56 = .ok (.iaload, 1) := by decide +kernel
theorem dX3_makeBalanced_57 : decode cX3_makeBalanced 57 = .ok (.if_icmp .lt 10, 3) := by decide +kernel
theorem dX3_makeBalanced_60 : decode cX3_makeBalanced 60 = .ok (.aload_n 0, 1) := by decide +kernel
theorem dX3_makeBalanced_61 : decode cX3_makeBalanced 61 = .ok (.iload 4, 2) := by decide +kernel
theorem dX3_makeBalanced_63 : decode cX3_makeBalanced 63 = .ok (.iload_n 1, 1) := by decide +kernel
theorem dX3_makeBalanced_64 : decode cX3_makeBalanced 64 = .ok (.invokevirtual 123, 3) := by decide +kernel
theorem dX3_makeBalanced_67 : decode cX3_makeBalanced 67 = .ok (.aload_n 0, 1) := by decide +kernel
theorem dX3_makeBalanced_68 : decode cX3_makeBalanced 68 = .ok (.getfield 9, 3) := by decide +kernel
theorem dX3_makeBalanced_71 : decode cX3_makeBalanced 71 = .ok (.iload_n 2, 1) := by decide +kernel
theorem dX3_makeBalanced_72 : decode cX3_makeBalanced 72 = .ok (.aload_n 0, 1) := by decide +kernel
theorem dX3_makeBalanced_73 : decode cX3_makeBalanced 73 = .ok (.aload_n 0, 1) := by decide +kernel
theorem dX3_makeBalanced_74 : decode cX3_makeBalanced 74 = .ok (.getfield 22, 3) := by decide +kernel
theorem dX3_makeBalanced_77 : decode cX3_makeBalanced 77 = .ok (.iload 4, 2) := by decide +kernel
theorem dX3_makeBalanced_79 : decode cX3_makeBalanced 79 = .ok (.iaload, 1) := by decide +kernel
theorem dX3_makeBalanced_80 : decode cX3_makeBalanced 80 = .ok (.aload_n 0, 1) := by decide +kernel
theorem dX3_makeBalanced_81 : decode cX3_makeBalanced 81 = .ok (.getfield 28, 3) := by decide +kernel
theorem dX3_makeBalanced_84 : decode cX3_makeBalanced 84 = .ok (.iload 4, 2) := by decide +kernel
theorem dX3_makeBalanced_86 : decode cX3_makeBalanced 86 = .ok (.iaload, 1) := by decide +kernel
theorem dX3_makeBalanced_87 : decode cX3_makeBalanced 87 = .ok (.iadd, 1) := by decide +kernel
theorem dX3_makeBalanced_88 : decode cX3_makeBalanced 88 = .ok (.invokevirtual 126, 3) := by decide +kernel
theorem dX3_makeBalanced_91 : decode cX3_makeBalanced 91 = .ok (.iastore, 1) := by decide +kernel
theorem dX3_makeBalanced_92 : decode cX3_makeBalanced 92 = .ok (.aload_n 0, 1) := by decide +kernel
theorem dX3_makeBalanced_93 : decode cX3_makeBalanced 93 = .ok (.getfield 28, 3) := by decide +kernel
theorem dX3_makeBalanced_96 : decode cX3_makeBalanced 96 = .ok (.iload 4, 2) := by decide +kernel
theorem dX3_makeBalanced_98 : decode cX3_makeBalanced 98 = .ok (.dup2, 1) := by decide +kernel
theorem dX3_makeBalanced_99 : decode cX3_makeBalanced 99 = .ok (.iaload, 1) := by decide +kernel
theorem dX3_makeBalanced_100 : decode cX3_makeBalanced 100 = .ok (.iconst 1, 1) := by decide +kernel
theorem dX3_makeBalanced_101 : decode cX3_makeBalanced 101 = .ok (.iadd, 1) := by decide +kernel
theorem dX3_makeBalanced_102 : decode cX3_makeBalanced 102 = .ok (.iastore, 1) := by decide +kernel
theorem dX3_makeBalanced_103 : decode cX3_makeBalanced 103 = .ok (.iinc 2 1, 3) := by decide +kernel
theorem dX3_makeBalanced_106 : decode cX3_makeBalanced 106 = .ok (.iinc 3 1, 3) := by decide +kernel
theorem dX3_makeBalanced_109 : decode cX3_makeBalanced 109 = .ok (.goto (-101), 3) := by decide +kernel
theorem dX3_makeBalanced_112 : decode cX3_makeBalanced 112 = .ok (.return_, 1) := by decide +kernel
set_option maxRecDepth 20000 in
theorem ggX3_layOutLabels_X4_label : GoodIn wsX3_layOutLabels wsX4_label := goodIn_r _ [11, 12, 13, 14, 15, 10, 16, 17, 28, 29, 30, 31] (by decide +kernel) (by decide +kernel)
set_option maxRecDepth 20000 in
theorem gX3_layOutLabels_X4_label : GoodIn wsX3_layOutLabels (wsV RX3 129 RX4 yX4_label wsX4_label) := goodIn_app (goodIn_of _ (by decide +kernel)) ggX3_layOutLabels_X4_label
theorem dX3_layOutLabels_0 : decode cX3_layOutLabels 0 = .ok (.iconst 0, 1) := by decide +kernel
theorem dX3_layOutLabels_1 : decode cX3_layOutLabels 1 = .ok (.istore_n 1, 1) := by decide +kernel
theorem dX3_layOutLabels_2 : decode cX3_layOutLabels 2 = .ok (.iconst 0, 1) := by decide +kernel
theorem dX3_layOutLabels_3 : decode cX3_layOutLabels 3 = .ok (.istore_n 2, 1) := by decide +kernel
theorem dX3_layOutLabels_4 : decode cX3_layOutLabels 4 = .ok (.iload_n 2, 1) := by decide +kernel
theorem dX3_layOutLabels_5 : decode cX3_layOutLabels 5 = .ok (.bipush 8, 2) := by decide +kernel
theorem dX3_layOutLabels_7 : decode cX3_layOutLabels 7 = .ok (.if_icmp .ge 77, 3) := by decide +kernel
theorem dX3_layOutLabels_10 : decode cX3_layOutLabels 10 = .ok (.iconst 0, 1) := by decide +kernel
theorem dX3_layOutLabels_11 : decode cX3_layOutLabels 11 = .ok (.istore_n 3, 1) := by decide +kernel
theorem dX3_layOutLabels_12 : decode cX3_layOutLabels 12 = .ok (.iconst 0, 1) := by decide +kernel
theorem dX3_layOutLabels_13 : decode cX3_layOutLabels 13 = .ok (.istore 4, 2) := by decide +kernel
theorem dX3_layOutLabels_15 : decode cX3_layOutLabels 15 = .ok (.iload 4, 2) := by decide +kernel
theorem dX3_layOutLabels_17 : decode cX3_layOutLabels 17 = .ok (.aload_n 0, 1) := by decide +kernel
theorem dX3_layOutLabels_18 : decode cX3_layOutLabels 18 = .ok (.getfield 15, 3) := by decide +kernel
theorem dX3_layOutLabels_21 : decode cX3_layOutLabels 21 = .ok (.if_icmp .ge 25, 3) := by decide +kernel
theorem dX3_layOutLabels_24 : decode cX3_layOutLabels 24 = .ok (.aload_n 0, 1) := by decide +kernel
theorem dX3_layOutLabels_25 : decode cX3_layOutLabels 25 = .ok (.getfield 34, 3) := by decide +kernel
theorem dX3_layOutLabels_28 : decode cX3_layOutLabels 28 = .ok (.iload 4, 2) := by decide +kernel
theorem dX3_layOutLabels_30 : decode cX3_layOutLabels 30 = .ok (.invokevirtual 129, 3) := by decide +kernel
theorem dX3_layOutLabels_33 : decode cX3_layOutLabels 33 = .ok (.iload_n 2, 1) := by decide +kernel
theorem dX3_layOutLabels_34 : decode cX3_layOutLabels 34 = .ok (.if_icmp .ne 6, 3) := by decide +kernel
theorem dX3_layOutLabels_37 : decode cX3_layOutLabels 37 = .ok (.iinc 3 1, 3) := by decide +kernel
theorem dX3_layOutLabels_40 : decode cX3_layOutLabels 40 = .ok (.iinc 4 1, 3) := by decide +kernel
theorem dX3_layOutLabels_43 : decode cX3_layOutLabels 43 = .ok (.goto (-28), 3) := by decide +kernel
theorem dX3_layOutLabels_46 : decode cX3_layOutLabels 46 = .ok (.aload_n 0, 1) := by decide +kernel
theorem dX3_layOutLabels_47 : decode cX3_layOutLabels 47 = .ok (.getfield 22, 3) := by decide +kernel
theorem dX3_layOutLabels_50 : decode cX3_layOutLabels 50 = .ok (.iload_n 2, 1) := by decide +kernel
theorem dX3_layOutLabels_51 : decode cX3_layOutLabels 51 = .ok (.iload_n 1, 1) := by decide +kernel
theorem dX3_layOutLabels_52 : decode cX3_layOutLabels 52 = .ok (.iastore, 1) := by decide +kernel
theorem dX3_layOutLabels_53 : decode cX3_layOutLabels 53 = .ok (.aload_n 0, 1) := by decide +kernel
theorem dX3_layOutLabels_54 : decode cX3_layOutLabels 54 = .ok (.getfield 25, 3) := by decide +kernel
theorem dX3_layOutLabels_57 : decode cX3_layOutLabels 57 = .ok (.iload_n 2, 1) := by decide +kernel
theorem dX3_layOutLabels_58 : decode cX3_layOutLabels 58 = .ok (.iload_n 3, 1) := by decide +kernel
theorem dX3_layOutLabels_59 : decode cX3_layOutLabels 59 = .ok (.iastore, 1) := by decide +kernel
theorem dX3_layOutLabels_60 : decode cX3_layOutLabels 60 = .ok (.aload_n 0, 1) := by decide +kernel
theorem dX3_layOutLabels_61 : decode cX3_layOutLabels 61 = .ok (.getfield 28, 3) := by decide +kernel
theorem dX3_layOutLabels_64 : decode cX3_layOutLabels 64 = .ok (.iload_n 2, 1) := by decide +kernel
theorem dX3_layOutLabels_65 : decode cX3_layOutLabels 65 = .ok (.iload_n 3, 1) := by decide +kernel
theorem dX3_layOutLabels_66 : decode cX3_layOutLabels 66 = .ok (.iastore, 1) := by decide +kernel
theorem dX3_layOutLabels_67 : decode cX3_layOutLabels 67 = .ok (.aload_n 0, 1) := by decide +kernel
theorem dX3_layOutLabels_68 : decode cX3_layOutLabels 68 = .ok (.getfield 31, 3) := by decide +kernel
theorem dX3_layOutLabels_71 : decode cX3_layOutLabels 71 = .ok (.iload_n 2, 1) := by decide +kernel
theorem dX3_layOutLabels_72 : decode cX3_layOutLabels 72 = .ok (.iconst 0, 1) := by decide +kernel
theorem dX3_layOutLabels_73 : decode cX3_layOutLabels 73 = .ok (.iastore, 1) := by decide +kernel
theorem dX3_layOutLabels_74 : decode cX3_layOutLabels 74 = .ok (.iload_n 1, 1) := by decide +kernel
theorem dX3_layOutLabels_75 : decode cX3_layOutLabels 75 = .ok (.iload_n 3, 1) := by decide +kernel
theorem dX3_layOutLabels_76 : decode cX3_layOutLabels 76 = .ok (.iadd, 1) := by decide +kernel
theorem dX3_layOutLabels_77 : decode cX3_layOutLabels 77 = .ok (.istore_n 1, 1) := by decide +kernel
theorem dX3_layOutLabels_78 : decode cX3_layOutLabels 78 = .ok (.iinc 2 1, 3) := by decide +kernel
theorem dX3_layOutLabels_81 : decode cX3_layOutLabels 81 = .ok (.goto (-77), 3) := by decide +kernel
theorem dX3_layOutLabels_84 : decode cX3_layOutLabels 84 = .ok (.return_, 1) := by decide +kernel
theorem dX3_rowHeld_0 : decode cX3_rowHeld 0 = .ok (.iload_n 1, 1) := by decide +kernel
theorem dX3_rowHeld_1 : decode cX3_rowHeld 1 = .ok (.ifCond .lt 21, 3) := by decide +kernel
theorem dX3_rowHeld_4 : decode cX3_rowHeld 4 = .ok (.iload_n 1, 1) := by decide +kernel
theorem dX3_rowHeld_5 : decode cX3_rowHeld 5 = .ok (.aload_n 0, 1) := by decide +kernel
theorem dX3_rowHeld_6 : decode cX3_rowHeld 6 = .ok (.getfield 19, 3) := by decide +kernel
theorem dX3_rowHeld_9 : decode cX3_rowHeld 9 = .ok (.arraylength, 1) := by decide +kernel
theorem dX3_rowHeld_10 : decode cX3_rowHeld 10 = .ok (.if_icmp .ge 12, 3) := by decide +kernel
theorem dX3_rowHeld_13 : decode cX3_rowHeld 13 = .ok (.aload_n 0, 1) := by decide +kernel
theorem dX3_rowHeld_14 : decode cX3_rowHeld 14 = .ok (.getfield 19, 3) := by decide +kernel
theorem dX3_rowHeld_17 : decode cX3_rowHeld 17 = .ok (.iload_n 1, 1) := by decide +kernel
theorem dX3_rowHeld_18 : decode cX3_rowHeld 18 = .ok (.iaload, 1) := by decide +kernel
theorem dX3_rowHeld_19 : decode cX3_rowHeld 19 = .ok (.goto 5, 3) := by decide +kernel
theorem dX3_rowHeld_22 : decode cX3_rowHeld 22 = .ok (.bipush (-3), 2) := by decide +kernel
theorem dX3_rowHeld_24 : decode cX3_rowHeld 24 = .ok (.ireturn, 1) := by decide +kernel
set_option maxRecDepth 20000 in
theorem ggX3_mixLabel_X4_label : GoodIn wsX3_mixLabel wsX4_label := goodIn_r _ [13, 14, 15, 16, 17, 12, 18, 19, 60, 61, 62, 63] (by decide +kernel) (by decide +kernel)
set_option maxRecDepth 20000 in
theorem gX3_mixLabel_X4_label : GoodIn wsX3_mixLabel (wsV RX3 129 RX4 yX4_label wsX4_label) := goodIn_app (goodIn_of _ (by decide +kernel)) ggX3_mixLabel_X4_label
set_option maxRecDepth 20000 in
theorem ggX3_mixLabel_X3_beginStream : GoodIn wsX3_mixLabel wsX3_beginStream := goodIn_r _ [24, 5, 25, 26, 27, 28, 29, 30, 31, 32, 33, 34, 35, 36, 37, 38, 39, 40, 41, 50, 51, 52, 53, 54, 55, 56, 57, 58, 59, 64, 65, 66, 67, 68, 69] (by decide +kernel) (by decide +kernel)
set_option maxRecDepth 20000 in
theorem gX3_mixLabel_X3_beginStream : GoodIn wsX3_mixLabel (wsV RX3 59 RX3 yX3_beginStream wsX3_beginStream) := goodIn_app (goodIn_of _ (by decide +kernel)) ggX3_mixLabel_X3_beginStream
set_option maxRecDepth 20000 in
theorem ggX3_mixLabel_X2_key : GoodIn wsX3_mixLabel wsX2_key := goodIn_r _ [35, 31, 36, 37, 38, 29, 39, 40, 41, 69] (by decide +kernel) (by decide +kernel)
set_option maxRecDepth 20000 in
theorem gX3_mixLabel_X2_key : GoodIn wsX3_mixLabel (wsV RX3 91 RX2 yX2_key wsX2_key) := goodIn_app (goodIn_of _ (by decide +kernel)) ggX3_mixLabel_X2_key
set_option maxRecDepth 20000 in
theorem ggX3_mixLabel_X2_shuffle : GoodIn wsX3_mixLabel wsX2_shuffle := goodIn_r _ [45, 46, 47, 48, 29, 49, 31, 36, 37, 38, 39, 40, 41, 69] (by decide +kernel) (by decide +kernel)
set_option maxRecDepth 20000 in
theorem gX3_mixLabel_X2_shuffle : GoodIn wsX3_mixLabel (wsV RX3 94 RX2 yX2_shuffle wsX2_shuffle) := goodIn_app (goodIn_of _ (by decide +kernel)) ggX3_mixLabel_X2_shuffle
theorem dX3_mixLabel_0 : decode cX3_mixLabel 0 = .ok (.aload_n 0, 1) := by decide +kernel
theorem dX3_mixLabel_1 : decode cX3_mixLabel 1 = .ok (.getfield 22, 3) := by decide +kernel
theorem dX3_mixLabel_4 : decode cX3_mixLabel 4 = .ok (.iload_n 1, 1) := by decide +kernel
theorem dX3_mixLabel_5 : decode cX3_mixLabel 5 = .ok (.iaload, 1) := by decide +kernel
theorem dX3_mixLabel_6 : decode cX3_mixLabel 6 = .ok (.istore_n 3, 1) := by decide +kernel
theorem dX3_mixLabel_7 : decode cX3_mixLabel 7 = .ok (.iconst 0, 1) := by decide +kernel
theorem dX3_mixLabel_8 : decode cX3_mixLabel 8 = .ok (.istore 4, 2) := by decide +kernel
theorem dX3_mixLabel_10 : decode cX3_mixLabel 10 = .ok (.iload 4, 2) := by decide +kernel
theorem dX3_mixLabel_12 : decode cX3_mixLabel 12 = .ok (.aload_n 0, 1) := by decide +kernel
theorem dX3_mixLabel_13 : decode cX3_mixLabel 13 = .ok (.getfield 15, 3) := by decide +kernel
theorem dX3_mixLabel_16 : decode cX3_mixLabel 16 = .ok (.if_icmp .ge 42, 3) := by decide +kernel
theorem dX3_mixLabel_19 : decode cX3_mixLabel 19 = .ok (.aload_n 0, 1) := by decide +kernel
theorem dX3_mixLabel_20 : decode cX3_mixLabel 20 = .ok (.getfield 34, 3) := by decide +kernel
theorem dX3_mixLabel_23 : decode cX3_mixLabel 23 = .ok (.iload 4, 2) := by decide +kernel
theorem dX3_mixLabel_25 : decode cX3_mixLabel 25 = .ok (.invokevirtual 129, 3) := by decide +kernel
theorem dX3_mixLabel_28 : decode cX3_mixLabel 28 = .ok (.iload_n 1, 1) := by decide +kernel
theorem dX3_mixLabel_29 : decode cX3_mixLabel 29 = .ok (.if_icmp .ne 23, 3) := by decide +kernel
theorem dX3_mixLabel_32 : decode cX3_mixLabel 32 = .ok (.iload_n 3, 1) := by decide +kernel
theorem dX3_mixLabel_33 : decode cX3_mixLabel 33 = .ok (.aload_n 0, 1) := by decide +kernel
theorem dX3_mixLabel_34 : decode cX3_mixLabel 34 = .ok (.getfield 19, 3) := by decide +kernel
theorem dX3_mixLabel_37 : decode cX3_mixLabel 37 = .ok (.arraylength, 1) := by decide +kernel
theorem dX3_mixLabel_38 : decode cX3_mixLabel 38 = .ok (.if_icmp .ge 14, 3) := by decide +kernel
theorem dX3_mixLabel_41 : decode cX3_mixLabel 41 = .ok (.aload_n 0, 1) := by decide +kernel
theorem dX3_mixLabel_42 : decode cX3_mixLabel 42 = .ok (.getfield 19, 3) := by decide +kernel
theorem dX3_mixLabel_45 : decode cX3_mixLabel 45 = .ok (.iload_n 3, 1) := by decide +kernel
theorem dX3_mixLabel_46 : decode cX3_mixLabel 46 = .ok (.iload 4, 2) := by decide +kernel
theorem dX3_mixLabel_48 : decode cX3_mixLabel 48 = .ok (.iastore, 1) := by decide +kernel
theorem dX3_mixLabel_49 : decode cX3_mixLabel 49 = .ok (.iinc 3 1, 3) := by decide +kernel
theorem dX3_mixLabel_52 : decode cX3_mixLabel 52 = .ok (.iinc 4 1, 3) := by decide +kernel
theorem dX3_mixLabel_55 : decode cX3_mixLabel 55 = .ok (.goto (-45), 3) := by decide +kernel
theorem dX3_mixLabel_58 : decode cX3_mixLabel 58 = .ok (.aload_n 0, 1) := by decide +kernel
theorem dX3_mixLabel_59 : decode cX3_mixLabel 59 = .ok (.iconst 3, 1) := by decide +kernel
theorem dX3_mixLabel_60 : decode cX3_mixLabel 60 = .ok (.iload_n 2, 1) := by decide +kernel
theorem dX3_mixLabel_61 : decode cX3_mixLabel 61 = .ok (.invokevirtual 59, 3) := by decide +kernel
theorem dX3_mixLabel_64 : decode cX3_mixLabel 64 = .ok (.aload_n 0, 1) := by decide +kernel
theorem dX3_mixLabel_65 : decode cX3_mixLabel 65 = .ok (.getfield 42, 3) := by decide +kernel
theorem dX3_mixLabel_68 : decode cX3_mixLabel 68 = .ok (.iload_n 1, 1) := by decide +kernel
theorem dX3_mixLabel_69 : decode cX3_mixLabel 69 = .ok (.invokevirtual 91, 3) := by decide +kernel
theorem dX3_mixLabel_72 : decode cX3_mixLabel 72 = .ok (.aload_n 0, 1) := by decide +kernel
theorem dX3_mixLabel_73 : decode cX3_mixLabel 73 = .ok (.getfield 42, 3) := by decide +kernel
theorem dX3_mixLabel_76 : decode cX3_mixLabel 76 = .ok (.aload_n 0, 1) := by decide +kernel
theorem dX3_mixLabel_77 : decode cX3_mixLabel 77 = .ok (.getfield 31, 3) := by decide +kernel
theorem dX3_mixLabel_80 : decode cX3_mixLabel 80 = .ok (.iload_n 1, 1) := by decide +kernel
theorem dX3_mixLabel_81 : decode cX3_mixLabel 81 = .ok (.iaload, 1) := by decide +kernel
theorem dX3_mixLabel_82 : decode cX3_mixLabel 82 = .ok (.invokevirtual 91, 3) := by decide +kernel
theorem dX3_mixLabel_85 : decode cX3_mixLabel 85 = .ok (.aload_n 0, 1) := by decide +kernel
theorem dX3_mixLabel_86 : decode cX3_mixLabel 86 = .ok (.getfield 42, 3) := by decide +kernel
theorem dX3_mixLabel_89 : decode cX3_mixLabel 89 = .ok (.aload_n 0, 1) := by decide +kernel
theorem dX3_mixLabel_90 : decode cX3_mixLabel 90 = .ok (.getfield 19, 3) := by decide +kernel
theorem dX3_mixLabel_93 : decode cX3_mixLabel 93 = .ok (.aload_n 0, 1) := by decide +kernel
theorem dX3_mixLabel_94 : decode cX3_mixLabel 94 = .ok (.getfield 22, 3) := by decide +kernel
theorem dX3_mixLabel_97 : decode cX3_mixLabel 97 = .ok (.iload_n 1, 1) := by decide +kernel
theorem dX3_mixLabel_98 : decode cX3_mixLabel 98 = .ok (.iaload, 1) := by decide +kernel
theorem dX3_mixLabel_99 : decode cX3_mixLabel 99 = .ok (.aload_n 0, 1) := by decide +kernel
theorem dX3_mixLabel_100 : decode cX3_mixLabel 100 = .ok (.getfield 25, 3) := by decide +kernel
theorem dX3_mixLabel_103 : decode cX3_mixLabel 103 = .ok (.iload_n 1, 1) := by decide +kernel
theorem dX3_mixLabel_104 : decode cX3_mixLabel 104 = .ok (.iaload, 1) := by decide +kernel
theorem dX3_mixLabel_105 : decode cX3_mixLabel 105 = .ok (.invokevirtual 94, 3) := by decide +kernel
theorem dX3_mixLabel_108 : decode cX3_mixLabel 108 = .ok (.aload_n 0, 1) := by decide +kernel
theorem dX3_mixLabel_109 : decode cX3_mixLabel 109 = .ok (.getfield 31, 3) := by decide +kernel
theorem dX3_mixLabel_112 : decode cX3_mixLabel 112 = .ok (.iload_n 1, 1) := by decide +kernel
theorem dX3_mixLabel_113 : decode cX3_mixLabel 113 = .ok (.dup2, 1) := by decide +kernel
theorem dX3_mixLabel_114 : decode cX3_mixLabel 114 = .ok (.iaload, 1) := by decide +kernel
theorem dX3_mixLabel_115 : decode cX3_mixLabel 115 = .ok (.iconst 1, 1) := by decide +kernel
theorem dX3_mixLabel_116 : decode cX3_mixLabel 116 = .ok (.iadd, 1) := by decide +kernel
theorem dX3_mixLabel_117 : decode cX3_mixLabel 117 = .ok (.iastore, 1) := by decide +kernel
theorem dX3_mixLabel_118 : decode cX3_mixLabel 118 = .ok (.aload_n 0, 1) := by decide +kernel
theorem dX3_mixLabel_119 : decode cX3_mixLabel 119 = .ok (.getfield 28, 3) := by decide +kernel
theorem dX3_mixLabel_122 : decode cX3_mixLabel 122 = .ok (.iload_n 1, 1) := by decide +kernel
theorem dX3_mixLabel_123 : decode cX3_mixLabel 123 = .ok (.iconst 0, 1) := by decide +kernel
theorem dX3_mixLabel_124 : decode cX3_mixLabel 124 = .ok (.iastore, 1) := by decide +kernel
theorem dX3_mixLabel_125 : decode cX3_mixLabel 125 = .ok (.return_, 1) := by decide +kernel
set_option maxRecDepth 20000 in
theorem ggX3_makeBuffered_X2_below : GoodIn wsX3_makeBuffered wsX2_below := goodIn_r _ [14, 15, 16, 17, 18, 13, 19, 20, 21, 37] (by decide +kernel) (by decide +kernel)
set_option maxRecDepth 20000 in
theorem gX3_makeBuffered_X2_below : GoodIn wsX3_makeBuffered (wsV RX3 111 RX2 yX2_below wsX2_below) := goodIn_app (goodIn_of _ (by decide +kernel)) ggX3_makeBuffered_X2_below
theorem dX3_makeBuffered_0 : decode cX3_makeBuffered 0 = .ok (.aload_n 0, 1) := by decide +kernel
theorem dX3_makeBuffered_1 : decode cX3_makeBuffered 1 = .ok (.getfield 15, 3) := by decide +kernel
theorem dX3_makeBuffered_4 : decode cX3_makeBuffered 4 = .ok (.aload_n 0, 1) := by decide +kernel
theorem dX3_makeBuffered_5 : decode cX3_makeBuffered 5 = .ok (.getfield 38, 3) := by decide +kernel
theorem dX3_makeBuffered_8 : decode cX3_makeBuffered 8 = .ok (.getfield 132, 3) := by decide +kernel
theorem dX3_makeBuffered_11 : decode cX3_makeBuffered 11 = .ok (.invokestatic 49, 3) := by decide +kernel
theorem dX3_makeBuffered_14 : decode cX3_makeBuffered 14 = .ok (.istore_n 1, 1) := by decide +kernel
theorem dX3_makeBuffered_15 : decode cX3_makeBuffered 15 = .ok (.iconst 0, 1) := by decide +kernel
theorem dX3_makeBuffered_16 : decode cX3_makeBuffered 16 = .ok (.istore_n 2, 1) := by decide +kernel
theorem dX3_makeBuffered_17 : decode cX3_makeBuffered 17 = .ok (.iload_n 2, 1) := by decide +kernel
theorem dX3_makeBuffered_18 : decode cX3_makeBuffered 18 = .ok (.iload_n 1, 1) := by decide +kernel
theorem dX3_makeBuffered_19 : decode cX3_makeBuffered 19 = .ok (.if_icmp .ge 16, 3) := by decide +kernel
theorem dX3_makeBuffered_22 : decode cX3_makeBuffered 22 = .ok (.aload_n 0, 1) := by decide +kernel
theorem dX3_makeBuffered_23 : decode cX3_makeBuffered 23 = .ok (.getfield 19, 3) := by decide +kernel
theorem dX3_makeBuffered_26 : decode cX3_makeBuffered 26 = .ok (.iload_n 2, 1) := by decide +kernel
theorem dX3_makeBuffered_27 : decode cX3_makeBuffered 27 = .ok (.iload_n 2, 1) := by decide +kernel
theorem dX3_makeBuffered_28 : decode cX3_makeBuffered 28 = .ok (.iastore, 1) := by decide +kernel
theorem dX3_makeBuffered_29 : decode cX3_makeBuffered 29 = .ok (.iinc 2 1, 3) := by decide +kernel
theorem dX3_makeBuffered_32 : decode cX3_makeBuffered 32 = .ok (.goto (-15), 3) := by decide +kernel
theorem dX3_makeBuffered_35 : decode cX3_makeBuffered 35 = .ok (.iload_n 1, 1) := by decide +kernel
theorem dX3_makeBuffered_36 : decode cX3_makeBuffered 36 = .ok (.istore_n 2, 1) := by decide +kernel
theorem dX3_makeBuffered_37 : decode cX3_makeBuffered 37 = .ok (.iconst 0, 1) := by decide +kernel
theorem dX3_makeBuffered_38 : decode cX3_makeBuffered 38 = .ok (.istore_n 3, 1) := by decide +kernel
theorem dX3_makeBuffered_39 : decode cX3_makeBuffered 39 = .ok (.iload_n 3, 1) := by decide +kernel
theorem dX3_makeBuffered_40 : decode cX3_makeBuffered 40 = .ok (.aload_n 0, 1) := by decide +kernel
theorem dX3_makeBuffered_41 : decode cX3_makeBuffered 41 = .ok (.getfield 15, 3) := by decide +kernel
theorem dX3_makeBuffered_44 : decode cX3_makeBuffered 44 = .ok (.if_icmp .ge 74, 3) := by decide +kernel
theorem dX3_makeBuffered_47 : decode cX3_makeBuffered 47 = .ok (.iload_n 1, 1) := by decide +kernel
theorem dX3_makeBuffered_48 : decode cX3_makeBuffered 48 = .ok (.ifCond .le 70, 3) := by decide +kernel
theorem dX3_makeBuffered_51 : decode cX3_makeBuffered 51 = .ok (.aload_n 0, 1) := by decide +kernel
theorem dX3_makeBuffered_52 : decode cX3_makeBuffered 52 = .ok (.getfield 42, 3) := by decide +kernel
theorem dX3_makeBuffered_55 : decode cX3_makeBuffered 55 = .ok (.iload_n 1, 1) := by decide +kernel
theorem dX3_makeBuffered_56 : decode cX3_makeBuffered 56 = .ok (.invokevirtual 111, 3) := by decide +kernel
theorem dX3_makeBuffered_59 : decode cX3_makeBuffered 59 = .ok (.istore 4, 2) := by decide +kernel
theorem dX3_makeBuffered_61 : decode cX3_makeBuffered 61 = .ok (.aload_n 0, 1) := by decide +kernel
theorem dX3_makeBuffered_62 : decode cX3_makeBuffered 62 = .ok (.getfield 9, 3) := by decide +kernel
theorem dX3_makeBuffered_65 : decode cX3_makeBuffered 65 = .ok (.iload_n 3, 1) := by decide +kernel
theorem dX3_makeBuffered_66 : decode cX3_makeBuffered 66 = .ok (.aload_n 0, 1) := by decide +kernel
theorem dX3_makeBuffered_67 : decode cX3_makeBuffered 67 = .ok (.getfield 19, 3) := by decide +kernel
theorem dX3_makeBuffered_70 : decode cX3_makeBuffered 70 = .ok (.iload 4, 2) := by decide +kernel
theorem dX3_makeBuffered_72 : decode cX3_makeBuffered 72 = .ok (.iaload, 1) := by decide +kernel
theorem dX3_makeBuffered_73 : decode cX3_makeBuffered 73 = .ok (.iastore, 1) := by decide +kernel
theorem dX3_makeBuffered_74 : decode cX3_makeBuffered 74 = .ok (.iload_n 2, 1) := by decide +kernel
theorem dX3_makeBuffered_75 : decode cX3_makeBuffered 75 = .ok (.aload_n 0, 1) := by decide +kernel
theorem dX3_makeBuffered_76 : decode cX3_makeBuffered 76 = .ok (.getfield 15, 3) := by decide +kernel
theorem dX3_makeBuffered_79 : decode cX3_makeBuffered 79 = .ok (.if_icmp .ge 17, 3) := by decide +kernel
theorem dX3_makeBuffered_82 : decode cX3_makeBuffered 82 = .ok (.aload_n 0, 1) := by decide +kernel
theorem dX3_makeBuffered_83 : decode cX3_makeBuffered 83 = .ok (.getfield 19, 3) := by decide +kernel
theorem dX3_makeBuffered_86 : decode cX3_makeBuffered 86 = .ok (.iload 4, 2) := by decide +kernel
theorem dX3_makeBuffered_88 : decode cX3_makeBuffered 88 = .ok (.iload_n 2, 1) := by decide +kernel
theorem dX3_makeBuffered_89 : decode cX3_makeBuffered 89 = .ok (.iastore, 1) := by decide +kernel
theorem dX3_makeBuffered_90 : decode cX3_makeBuffered 90 = .ok (.iinc 2 1, 3) := by decide +kernel
theorem dX3_makeBuffered_93 : decode cX3_makeBuffered 93 = .ok (.goto 19, 3) := by decide +kernel
theorem dX3_makeBuffered_96 : decode cX3_makeBuffered 96 = .ok (.iinc 1 (-1), 3) := by decide +kernel
theorem dX3_makeBuffered_99 : decode cX3_makeBuffered 99 = .ok (.aload_n 0, 1) := by decide +kernel
theorem dX3_makeBuffered_100 : decode cX3_makeBuffered 100 = .ok (.getfield 19, 3) := by decide +kernel
theorem dX3_makeBuffered_103 : decode cX3_makeBuffered 103 = .ok (.iload 4, 2) := by decide +kernel
theorem dX3_makeBuffered_105 : decode cX3_makeBuffered 105 = .ok (.aload_n 0, 1) := by decide +kernel
theorem dX3_makeBuffered_106 : decode cX3_makeBuffered 106 = .ok (.getfield 19, 3) := by decide +kernel
theorem dX3_makeBuffered_109 : decode cX3_makeBuffered 109 = .ok (.iload_n 1, 1) := by decide +kernel
theorem dX3_makeBuffered_110 : decode cX3_makeBuffered 110 = .ok (.iaload, 1) := by decide +kernel
theorem dX3_makeBuffered_111 : decode cX3_makeBuffered 111 = .ok (.iastore, 1) := by decide +kernel
theorem dX3_makeBuffered_112 : decode cX3_makeBuffered 112 = .ok (.iinc 3 1, 3) := by decide +kernel
theorem dX3_makeBuffered_115 : decode cX3_makeBuffered 115 = .ok (.goto (-76), 3) := by decide +kernel
theorem dX3_makeBuffered_118 : decode cX3_makeBuffered 118 = .ok (.return_, 1) := by decide +kernel
