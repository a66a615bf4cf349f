theorem dX4_init_0 : decode cX4_init 0 = .ok (.aload_n 0, 1) := by decide +kernel
theorem dX4_init_1 : decode cX4_init 1 = .ok (.invokespecial 3, 3) := by decide +kernel
theorem dX4_init_4 : decode cX4_init 4 = .ok (.aload_n 0, 1) := by decide +kernel
theorem dX4_init_5 : decode cX4_init 5 = .ok (.bipush 60, 2) := by decide +kernel
theorem dX4_init_7 : decode cX4_init 7 = .ok (.anewarray 9, 3) := by decide +kernel
theorem dX4_init_10 : decode cX4_init 10 = .ok (.putfield 11, 3) := by decide +kernel
theorem dX4_init_13 : decode cX4_init 13 = .ok (.aload_n 0, 1) := by decide +kernel
theorem dX4_init_14 : decode cX4_init 14 = .ok (.bipush 60, 2) := by decide +kernel
theorem dX4_init_16 : decode cX4_init 16 = .ok (.newarray .int, 2) := by decide +kernel
theorem dX4_init_18 : decode cX4_init 18 = .ok (.putfield 17, 3) := by decide +kernel
theorem dX4_init_21 : decode cX4_init 21 = .ok (.aload_n 0, 1) := by decide +kernel
theorem dX4_init_22 : decode cX4_init 22 = .ok (.bipush 60, 2) := by decide +kernel
theorem dX4_init_24 : decode cX4_init 24 = .ok (.newarray .int, 2) := by decide +kernel
theorem dX4_init_26 : decode cX4_init 26 = .ok (.putfield 21, 3) := by decide +kernel
theorem dX4_init_29 : decode cX4_init 29 = .ok (.aload_n 0, 1) := by decide +kernel
theorem dX4_init_30 : decode cX4_init 30 = .ok (.iconst 0, 1) := by decide +kernel
theorem dX4_init_31 : decode cX4_init 31 = .ok (.putfield 24, 3) := by decide +kernel
theorem dX4_init_34 : decode cX4_init 34 = .ok (.return_, 1) := by decide +kernel
theorem dX4_isFull_0 : decode cX4_isFull 0 = .ok (.aload_n 0, 1) := by decide +kernel
theorem dX4_isFull_1 : decode cX4_isFull 1 = .ok (.getfield 24, 3) := by decide +kernel
theorem dX4_isFull_4 : decode cX4_isFull 4 = .ok (.bipush 60, 2) := by decide +kernel
theorem dX4_isFull_6 : decode cX4_isFull 6 = .ok (.if_icmp .lt 7, 3) := by decide +kernel
theorem dX4_isFull_9 : decode cX4_isFull 9 = .ok (.iconst 1, 1) := by decide +kernel
theorem dX4_isFull_10 : decode cX4_isFull 10 = .ok (.goto 4, 3) := by decide +kernel
theorem dX4_isFull_13 : decode cX4_isFull 13 = .ok (.iconst 0, 1) := by decide +kernel
theorem dX4_isFull_14 : decode cX4_isFull 14 = .ok (.ireturn, 1) := by decide +kernel
theorem dX4_has_0 : decode cX4_has 0 = .ok (.iload_n 1, 1) := by decide +kernel
theorem dX4_has_1 : decode cX4_has 1 = .ok (.ifCond .lt 21, 3) := by decide +kernel
theorem dX4_has_4 : decode cX4_has 4 = .ok (.iload_n 1, 1) := by decide +kernel
theorem dX4_has_5 : decode cX4_has 5 = .ok (.aload_n 0, 1) := by decide +kernel
theorem dX4_has_6 : decode cX4_has 6 = .ok (.getfield 24, 3) := by decide +kernel
theorem dX4_has_9 : decode cX4_has 9 = .ok (.if_icmp .ge 13, 3) := by decide +kernel
theorem dX4_has_12 : decode cX4_has 12 = .ok (.iload_n 1, 1) := by decide +kernel
theorem dX4_has_13 : decode cX4_has 13 = .ok (.bipush 60, 2) := by decide +kernel
theorem dX4_has_15 : decode cX4_has 15 = .ok (.if_icmp .ge 7, 3) := by decide +kernel
theorem dX4_has_18 : decode cX4_has 18 = .ok (.iconst 1, 1) := by decide +kernel
theorem dX4_has_19 : decode cX4_has 19 = .ok (.goto 4, 3) := by decide +kernel
theorem dX4_has_22 : decode cX4_has 22 = .ok (.iconst 0, 1) := by decide +kernel
theorem dX4_has_23 : decode cX4_has 23 = .ok (.ireturn, 1) := by decide +kernel
set_option maxRecDepth 20000 in
theorem ggX4_find_X4_has : GoodIn wsX4_find wsX4_has := goodIn_r _ [6, 7, 8, 9, 10, 11] (by decide +kernel) (by decide +kernel)
set_option maxRecDepth 20000 in
theorem gX4_find_X4_has : GoodIn wsX4_find (wsV RX4 28 RX4 yX4_has wsX4_has) := goodIn_app (goodIn_of _ (by decide +kernel)) ggX4_find_X4_has
theorem dX4_find_0 : decode cX4_find 0 = .ok (.aload_n 0, 1) := by decide +kernel
theorem dX4_find_1 : decode cX4_find 1 = .ok (.iload_n 1, 1) := by decide +kernel
theorem dX4_find_2 : decode cX4_find 2 = .ok (.invokevirtual 28, 3) := by decide +kernel
theorem dX4_find_5 : decode cX4_find 5 = .ok (.ifCond .eq 12, 3) := by decide +kernel
theorem dX4_find_8 : decode cX4_find 8 = .ok (.aload_n 0, 1) := by decide +kernel
theorem dX4_find_9 : decode cX4_find 9 = .ok (.getfield 11, 3) := by decide +kernel
theorem dX4_find_12 : decode cX4_find 12 = .ok (.iload_n 1, 1) := by decide +kernel
theorem dX4_find_13 : decode cX4_find 13 = .ok (.aaload, 1) := by decide +kernel
theorem dX4_find_14 : decode cX4_find 14 = .ok (.goto 4, 3) := by decide +kernel
theorem dX4_find_17 : decode cX4_find 17 = .ok (.aconst_null, 1) := by decide +kernel
theorem dX4_find_18 : decode cX4_find 18 = .ok (.areturn, 1) := by decide +kernel
set_option maxRecDepth 20000 in
theorem ggX4_append_X4_isFull : GoodIn wsX4_append wsX4_isFull := goodIn_r _ [7, 1, 18, 19, 20, 21] (by decide +kernel) (by decide +kernel)
set_option maxRecDepth 20000 in
theorem gX4_append_X4_isFull : GoodIn wsX4_append (wsV RX4 32 RX4 yX4_isFull wsX4_isFull) := goodIn_app (goodIn_of _ (by decide +kernel)) ggX4_append_X4_isFull
set_option maxRecDepth 20000 in
theorem ggX4_append_X4_relabel : GoodIn wsX4_append wsX4_relabel := goodIn_r _ [11, 12, 13, 14, 15, 16, 6, 17, 1, 18, 19, 20, 21] (by decide +kernel) (by decide +kernel)
set_option maxRecDepth 20000 in
theorem gX4_append_X4_relabel : GoodIn wsX4_append (wsV RX4 36 RX4 yX4_relabel wsX4_relabel) := goodIn_app (goodIn_of _ (by decide +kernel)) ggX4_append_X4_relabel
theorem dX4_append_0 : decode cX4_append 0 = .ok (.aload_n 0, 1) := by decide +kernel
theorem dX4_append_1 : decode cX4_append 1 = .ok (.invokevirtual 32, 3) := by decide +kernel
theorem dX4_append_4 : decode cX4_append 4 = .ok (.ifCond .eq 6, 3) := by decide +kernel
theorem dX4_append_7 : decode cX4_append 7 = .ok (.bipush (-2), 2) := by decide +kernel
theorem dX4_append_9 : decode cX4_append 9 = .ok (.ireturn, 1) := by decide +kernel
theorem dX4_append_10 : decode cX4_append 10 = .ok (.aload_n 0, 1) := by decide +kernel
theorem dX4_append_11 : decode cX4_append 11 = .ok (.getfield 24, 3) := by decide +kernel
theorem dX4_append_14 : decode cX4_append 14 = .ok (.istore 4, 2) := by decide +kernel
theorem dX4_append_16 : decode cX4_append 16 = .ok (.aload_n 0, 1) := by decide +kernel
theorem dX4_append_17 : decode cX4_append 17 = .ok (.getfield 11, 3) := by decide +kernel
theorem dX4_append_20 : decode cX4_append 20 = .ok (.iload 4, 2) := by decide +kernel
theorem dX4_append_22 : decode cX4_append 22 = .ok (.aload_n 1, 1) := by decide +kernel
theorem dX4_append_23 : decode cX4_append 23 = .ok (.aastore, 1) := by decide +kernel
theorem dX4_append_24 : decode cX4_append 24 = .ok (.aload_n 0, 1) := by decide +kernel
theorem dX4_append_25 : decode cX4_append 25 = .ok (.dup, 1) := by decide +kernel
theorem dX4_append_26 : decode cX4_append 26 = .ok (.getfield 24, 3) := by decide +kernel
theorem dX4_append_29 : decode cX4_append 29 = .ok (.iconst 1, 1) := by decide +kernel
theorem dX4_append_30 : decode cX4_append 30 = .ok (.iadd, 1) := by decide +kernel
theorem dX4_append_31 : decode cX4_append 31 = .ok (.putfield 24, 3) := by decide +kernel
theorem dX4_append_34 : decode cX4_append 34 = .ok (.aload_n 0, 1) := by decide +kernel
theorem dX4_append_35 : decode cX4_append 35 = .ok (.iload 4, 2) := by decide +kernel
theorem dX4_append_37 : decode cX4_append 37 = .ok (.iload_n 2, 1) := by decide +kernel
theorem dX4_append_38 : decode cX4_append 38 = .ok (.iload_n 3, 1) := by decide +kernel
theorem dX4_append_39 : decode cX4_append 39 = .ok (.invokevirtual 36, 3) := by decide +kernel
theorem dX4_append_42 : decode cX4_append 42 = .ok (.iload 4, 2) := by decide +kernel
theorem dX4_append_44 : decode cX4_append 44 = .ok (.ireturn, 1) := by decide +kernel
set_option maxRecDepth 20000 in
theorem ggX4_relabel_X4_has : GoodIn wsX4_relabel wsX4_has := goodIn_r _ [7, 8, 9, 10, 11, 12] (by decide +kernel) (by decide +kernel)
set_option maxRecDepth 20000 in
theorem gX4_relabel_X4_has : GoodIn wsX4_relabel (wsV RX4 28 RX4 yX4_has wsX4_has) := goodIn_app (goodIn_of _ (by decide +kernel)) ggX4_relabel_X4_has
theorem dX4_relabel_0 : decode cX4_relabel 0 = .ok (.aload_n 0, 1) := by decide +kernel
theorem dX4_relabel_1 : decode cX4_relabel 1 = .ok (.iload_n 1, 1) := by decide +kernel
theorem dX4_relabel_2 : decode cX4_relabel 2 = .ok (.invokevirtual 28, 3) := by decide +kernel
theorem dX4_relabel_5 : decode cX4_relabel 5 = .ok (.ifCond .eq 17, 3) := by decide +kernel
theorem dX4_relabel_8 : decode cX4_relabel 8 = .ok (.aload_n 0, 1) := by decide +kernel
theorem dX4_relabel_9 : decode cX4_relabel 9 = .ok (.getfield 17, 3) := by decide +kernel
theorem dX4_relabel_12 : decode cX4_relabel 12 = .ok (.iload_n 1, 1) := by decide +kernel
theorem dX4_relabel_13 : decode cX4_relabel 13 = .ok (.iload_n 2, 1) := by decide +kernel
theorem dX4_relabel_14 : decode cX4_relabel 14 = .ok (.iastore, 1) := by decide +kernel
theorem dX4_relabel_15 : decode cX4_relabel 15 = .ok (.aload_n 0, 1) := by decide +kernel
theorem dX4_relabel_16 : decode cX4_relabel 16 = .ok (.getfield 21, 3) := by decide +kernel
theorem dX4_relabel_19 : decode cX4_relabel 19 = .ok (.iload_n 1, 1) := by decide +kernel
theorem dX4_relabel_20 : decode cX4_relabel 20 = .ok (.iload_n 3, 1) := by decide +kernel
theorem dX4_relabel_21 : decode cX4_relabel 21 = .ok (.iastore, 1) := by decide +kernel
theorem dX4_relabel_22 : decode cX4_relabel 22 = .ok (.return_, 1) := by decide +kernel
set_option maxRecDepth 20000 in
theorem ggX4_label_X4_has : GoodIn wsX4_label wsX4_has := goodIn_r _ [6, 7, 8, 9, 10, 11] (by decide +kernel) (by decide +kernel)
set_option maxRecDepth 20000 in
theorem gX4_label_X4_has : GoodIn wsX4_label (wsV RX4 28 RX4 yX4_has wsX4_has) := goodIn_app (goodIn_of _ (by decide +kernel)) ggX4_label_X4_has
theorem dX4_label_0 : decode cX4_label 0 = .ok (.aload_n 0, 1) := by decide +kernel
theorem dX4_label_1 : decode cX4_label 1 = .ok (.iload_n 1, 1) := by decide +kernel
theorem dX4_label_2 : decode cX4_label 2 = .ok (.invokevirtual 28, 3) := by decide +kernel
theorem dX4_label_5 : decode cX4_label 5 = .ok (.ifCond .eq 12, 3) := by decide +kernel
theorem dX4_label_8 : decode cX4_label 8 = .ok (.aload_n 0, 1) := by decide +kernel
theorem dX4_label_9 : decode cX4_label 9 = .ok (.getfield 17, 3) := by decide +kernel
theorem dX4_label_12 : decode cX4_label 12 = .ok (.iload_n 1, 1) := by decide +kernel
theorem dX4_label_13 : decode cX4_label 13 = .ok (.iaload, 1) := by decide +kernel
theorem dX4_label_14 : decode cX4_label 14 = .ok (.goto 4, 3) := by decide +kernel
theorem dX4_label_17 : decode cX4_label 17 = .ok (.iconst 0, 1) := by decide +kernel
theorem dX4_label_18 : decode cX4_label 18 = .ok (.ireturn, 1) := by decide +kernel
set_option maxRecDepth 20000 in
theorem ggX4_weight_X4_has : GoodIn wsX4_weight wsX4_has := goodIn_r _ [6, 7, 8, 9, 10, 11] (by decide +kernel) (by decide +kernel)
set_option maxRecDepth 20000 in
theorem gX4_weight_X4_has : GoodIn wsX4_weight (wsV RX4 28 RX4 yX4_has wsX4_has) := goodIn_app (goodIn_of _ (by decide +kernel)) ggX4_weight_X4_has
theorem dX4_weight_0 : decode cX4_weight 0 = .ok (.aload_n 0, 1) := by decide +kernel
theorem dX4_weight_1 : decode cX4_weight 1 = .ok (.iload_n 1, 1) := by decide +kernel
theorem dX4_weight_2 : decode cX4_weight 2 = .ok (.invokevirtual 28, 3) := by decide +kernel
theorem dX4_weight_5 : decode cX4_weight 5 = .ok (.ifCond .eq 12, 3) := by decide +kernel
theorem dX4_weight_8 : decode cX4_weight 8 = .ok (.aload_n 0, 1) := by decide +kernel
theorem dX4_weight_9 : decode cX4_weight 9 = .ok (.getfield 21, 3) := by decide +kernel
theorem dX4_weight_12 : decode cX4_weight 12 = .ok (.iload_n 1, 1) := by decide +kernel
theorem dX4_weight_13 : decode cX4_weight 13 = .ok (.iaload, 1) := by decide +kernel
theorem dX4_weight_14 : decode cX4_weight 14 = .ok (.goto 4, 3) := by decide +kernel
theorem dX4_weight_17 : decode cX4_weight 17 = .ok (.iconst 0, 1) := by decide +kernel
theorem dX4_weight_18 : decode cX4_weight 18 = .ok (.ireturn, 1) := by decide +kernel
set_option maxRecDepth 20000 in
theorem ggX4_length_X4_find : GoodIn wsX4_length wsX4_find := goodIn_r _ [5, 6, 7, 8, 9, 4, 10, 11, 17, 18, 19, 20] (by decide +kernel) (by decide +kernel)
set_option maxRecDepth 20000 in
theorem gX4_length_X4_find : GoodIn wsX4_length (wsV RX4 40 RX4 yX4_find wsX4_find) := goodIn_app (goodIn_of _ (by decide +kernel)) ggX4_length_X4_find
theorem dX4_length_0 : decode cX4_length 0 = .ok (.aload_n 0, 1) := by decide +kernel
theorem dX4_length_1 : decode cX4_length 1 = .ok (.iload_n 1, 1) := by decide +kernel
theorem dX4_length_2 : decode cX4_length 2 = .ok (.invokevirtual 40, 3) := by decide +kernel
theorem dX4_length_5 : decode cX4_length 5 = .ok (.astore_n 2, 1) := by decide +kernel
theorem dX4_length_6 : decode cX4_length 6 = .ok (.aload_n 2, 1) := by decide +kernel
theorem dX4_length_7 : decode cX4_length 7 = .ok (.ifnonnull 7, 3) := by decide +kernel
theorem dX4_length_10 : decode cX4_length 10 = .ok (.iconst 0, 1) := by decide +kernel
theorem dX4_length_11 : decode cX4_length 11 = .ok (.goto 7, 3) := by decide +kernel
theorem dX4_length_14 : decode cX4_length 14 = .ok (.aload_n 2, 1) := by decide +kernel
theorem dX4_length_15 : decode cX4_length 15 = .ok (.getfield 44, 3) := by decide +kernel
theorem dX4_length_18 : decode cX4_length 18 = .ok (.ireturn, 1) := by decide +kernel
set_option maxRecDepth 20000 in
theorem ggX4_sumOfWeights_X4_weight : GoodIn wsX4_sumOfWeights wsX4_weight := goodIn_r _ [6, 7, 8, 9, 10, 5, 11, 1, 12, 13, 14, 15] (by decide +kernel) (by decide +kernel)
set_option maxRecDepth 20000 in
theorem gX4_sumOfWeights_X4_weight : GoodIn wsX4_sumOfWeights (wsV RX4 47 RX4 yX4_weight wsX4_weight) := goodIn_app (goodIn_of _ (by decide +kernel)) ggX4_sumOfWeights_X4_weight
theorem dX4_sumOfWeights_0 : decode cX4_sumOfWeights 0 = .ok (.iconst 0, 1) := by decide +kernel
theorem dX4_sumOfWeights_1 : decode cX4_sumOfWeights 1 = .ok (.istore_n 1, 1) := by decide +kernel
theorem dX4_sumOfWeights_2 : decode cX4_sumOfWeights 2 = .ok (.iconst 0, 1) := by decide +kernel
theorem dX4_sumOfWeights_3 : decode cX4_sumOfWeights 3 = .ok (.istore_n 2, 1) := by decide +kernel
theorem dX4_sumOfWeights_4 : decode cX4_sumOfWeights 4 = .ok (.iload_n 2, 1) := by decide +kernel
theorem dX4_sumOfWeights_5 : decode cX4_sumOfWeights 5 = .ok (.aload_n 0, 1) := by decide +kernel
theorem dX4_sumOfWeights_6 : decode cX4_sumOfWeights 6 = .ok (.getfield 24, 3) := by decide +kernel
theorem dX4_sumOfWeights_9 : decode cX4_sumOfWeights 9 = .ok (.if_icmp .ge 17, 3) := by decide +kernel
theorem dX4_sumOfWeights_12 : decode cX4_sumOfWeights 12 = .ok (.iload_n 1, 1) := by decide +kernel
theorem dX4_sumOfWeights_13 : decode cX4_sumOfWeights 13 = .ok (.aload_n 0, 1) := by decide +kernel
theorem dX4_sumOfWeights_14 : decode cX4_sumOfWeights 14 = .ok (.iload_n 2, 1) := by decide +kernel
theorem dX4_sumOfWeights_15 : decode cX4_sumOfWeights 15 = .ok (.invokevirtual 47, 3) := by decide +kernel
theorem dX4_sumOfWeights_18 : decode cX4_sumOfWeights 18 = .ok (.iadd, 1) := by decide +kernel
theorem dX4_sumOfWeights_19 : decode cX4_sumOfWeights 19 = .ok (.istore_n 1, 1) := by decide +kernel
theorem dX4_sumOfWeights_20 : decode cX4_sumOfWeights 20 = .ok (.iinc 2 1, 3) := by decide +kernel
theorem dX4_sumOfWeights_23 : decode cX4_sumOfWeights 23 = .ok (.goto (-19), 3) := by decide +kernel
theorem dX4_sumOfWeights_26 : decode cX4_sumOfWeights 26 = .ok (.iload_n 1, 1) := by decide +kernel
theorem dX4_sumOfWeights_27 : decode cX4_sumOfWeights 27 = .ok (.ireturn, 1) := by decide +kernel
theorem dX5_init_0 : decode cX5_init 0 = .ok (.aload_n 0, 1) := by decide +kernel
theorem dX5_init_1 : decode cX5_init 1 = .ok (.invokespecial 3, 3) := by decide +kernel
theorem dX5_init_4 : decode cX5_init 4 = .ok (.aload_n 0, 1) := by decide +kernel
theorem dX5_init_5 : decode cX5_init 5 = .ok (.lconst 0, 1) := by decide +kernel
theorem dX5_init_6 : decode cX5_init 6 = .ok (.putfield 9, 3) := by decide +kernel
theorem dX5_init_9 : decode cX5_init 9 = .ok (.aload_n 0, 1) := by decide +kernel
theorem dX5_init_10 : decode cX5_init 10 = .ok (.iconst 4, 1) := by decide +kernel
theorem dX5_init_11 : decode cX5_init 11 = .ok (.putfield 15, 3) := by decide +kernel
theorem dX5_init_14 : decode cX5_init 14 = .ok (.aload_n 0, 1) := by decide +kernel
theorem dX5_init_15 : decode cX5_init 15 = .ok (.bipush 8, 2) := by decide +kernel
theorem dX5_init_17 : decode cX5_init 17 = .ok (.putfield 19, 3) := by decide +kernel
theorem dX5_init_20 : decode cX5_init 20 = .ok (.aload_n 0, 1) := by decide +kernel
theorem dX5_init_21 : decode cX5_init 21 = .ok (.iconst 5, 1) := by decide +kernel
theorem dX5_init_22 : decode cX5_init 22 = .ok (.putfield 22, 3) := by decide +kernel
theorem dX5_init_25 : decode cX5_init 25 = .ok (.aload_n 0, 1) := by decide +kernel
theorem dX5_init_26 : decode cX5_init 26 = .ok (.iconst 0, 1) := by decide +kernel
theorem dX5_init_27 : decode cX5_init 27 = .ok (.putfield 25, 3) := by decide +kernel
theorem dX5_init_30 : decode cX5_init 30 = .ok (.return_, 1) := by decide +kernel
theorem dX5_allows_0 : decode cX5_allows 0 = .ok (.iload_n 1, 1) := by decide +kernel
theorem dX5_allows_1 : decode cX5_allows 1 = .ok (.tableswitch 79 0 3 #[31, 47, 47, 64], 31) := by decide +kernel
theorem dX5_allows_32 : decode cX5_allows 32 = .ok (.iload_n 2, 1) := by decide +kernel
theorem dX5_allows_33 : decode cX5_allows 33 = .ok (.ifCond .lt 13, 3) := by decide +kernel
theorem dX5_allows_36 : decode cX5_allows 36 = .ok (.iload_n 2, 1) := by decide +kernel
theorem dX5_allows_37 : decode cX5_allows 37 = .ok (.bipush 20, 2) := by decide +kernel
theorem dX5_allows_39 : decode cX5_allows 39 = .ok (.if_icmp .gt 7, 3) := by decide +kernel
theorem dX5_allows_42 : decode cX5_allows 42 = .ok (.iconst 1, 1) := by decide +kernel
theorem dX5_allows_43 : decode cX5_allows 43 = .ok (.goto 4, 3) := by decide +kernel
theorem dX5_allows_46 : decode cX5_allows 46 = .ok (.iconst 0, 1) := by decide +kernel
theorem dX5_allows_47 : decode cX5_allows 47 = .ok (.ireturn, 1) := by decide +kernel
theorem dX5_allows_48 : decode cX5_allows 48 = .ok (.iload_n 2, 1) := by decide +kernel
theorem dX5_allows_49 : decode cX5_allows 49 = .ok (.iconst 1, 1) := by decide +kernel
theorem dX5_allows_50 : decode cX5_allows 50 = .ok (.if_icmp .lt 13, 3) := by decide +kernel
theorem dX5_allows_53 : decode cX5_allows 53 = .ok (.iload_n 2, 1) := by decide +kernel
theorem dX5_allows_54 : decode cX5_allows 54 = .ok (.bipush 60, 2) := by decide +kernel
theorem dX5_allows_56 : decode cX5_allows 56 = .ok (.if_icmp .gt 7, 3) := by decide +kernel
theorem dX5_allows_59 : decode cX5_allows 59 = .ok (.iconst 1, 1) := by decide +kernel
theorem dX5_allows_60 : decode cX5_allows 60 = .ok (.goto 4, 3) := by decide +kernel
theorem dX5_allows_63 : decode cX5_allows 63 = .ok (.iconst 0, 1) := by decide +kernel
theorem dX5_allows_64 : decode cX5_allows 64 = .ok (.ireturn, 1) := by decide +kernel
theorem dX5_allows_65 : decode cX5_allows 65 = .ok (.iload_n 2, 1) := by decide +kernel
theorem dX5_allows_66 : decode cX5_allows 66 = .ok (.ifCond .eq 8, 3) := by decide +kernel
theorem dX5_allows_69 : decode cX5_allows 69 = .ok (.iload_n 2, 1) := by decide +kernel
theorem dX5_allows_70 : decode cX5_allows 70 = .ok (.iconst 1, 1) := by decide +kernel
theorem dX5_allows_71 : decode cX5_allows 71 = .ok (.if_icmp .ne 7, 3) := by decide +kernel
theorem dX5_allows_74 : decode cX5_allows 74 = .ok (.iconst 1, 1) := by decide +kernel
theorem dX5_allows_75 : decode cX5_allows 75 = .ok (.goto 4, 3) := by decide +kernel
theorem dX5_allows_78 : decode cX5_allows 78 = .ok (.iconst 0, 1) := by decide +kernel
theorem dX5_allows_79 : decode cX5_allows 79 = .ok (.ireturn, 1) := by decide +kernel
theorem dX5_allows_80 : decode cX5_allows 80 = .ok (.iconst 0, 1) := by decide +kernel
theorem dX5_allows_81 : decode cX5_allows 81 = .ok (.ireturn, 1) := by decide +kernel
theorem dX5_exchange_0 : decode cX5_exchange 0 = .ok (.iload_n 1, 1) := by decide +kernel
theorem dX5_exchange_1 : decode cX5_exchange 1 = .ok (.tableswitch 79 0 3 #[31, 43, 55, 67], 31) := by decide +kernel
theorem dX5_exchange_32 : decode cX5_exchange 32 = .ok (.aload_n 0, 1) := by decide +kernel
theorem dX5_exchange_33 : decode cX5_exchange 33 = .ok (.getfield 15, 3) := by decide +kernel
theorem dX5_exchange_36 : decode cX5_exchange 36 = .ok (.istore_n 3, 1) := by decide +kernel
theorem dX5_exchange_37 : decode cX5_exchange 37 = .ok (.aload_n 0, 1) := by decide +kernel
theorem dX5_exchange_38 : decode cX5_exchange 38 = .ok (.iload_n 2, 1) := by decide +kernel
theorem dX5_exchange_39 : decode cX5_exchange 39 = .ok (.putfield 15, 3) := by decide +kernel
theorem dX5_exchange_42 : decode cX5_exchange 42 = .ok (.iload_n 3, 1) := by decide +kernel
theorem dX5_exchange_43 : decode cX5_exchange 43 = .ok (.ireturn, 1) := by decide +kernel
theorem dX5_exchange_44 : decode cX5_exchange 44 = .ok (.aload_n 0, 1) := by decide +kernel
theorem dX5_exchange_45 : decode cX5_exchange 45 = .ok (.getfield 19, 3) := by decide +kernel
theorem dX5_exchange_48 : decode cX5_exchange 48 = .ok (.istore_n 3, 1) := by decide +kernel
theorem dX5_exchange_49 : decode cX5_exchange 49 = .ok (.aload_n 0, 1) := by decide +kernel
theorem dX5_exchange_50 : decode cX5_exchange 50 = .ok (.iload_n 2, 1) := by decide +kernel
theorem dX5_exchange_51 : decode cX5_exchange 51 = .ok (.putfield 19, 3) := by decide +kernel
theorem dX5_exchange_54 : decode cX5_exchange 54 = .ok (.iload_n 3, 1) := by decide +kernel
theorem dX5_exchange_55 : decode cX5_exchange 55 = .ok (.ireturn, 1) := by decide +kernel
theorem dX5_exchange_56 : decode cX5_exchange 56 = .ok (.aload_n 0, 1) := by decide +kernel
theorem dX5_exchange_57 : decode cX5_exchange 57 = .ok (.getfield 22, 3) := by decide +kernel
theorem dX5_exchange_60 : decode cX5_exchange 60 = .ok (.istore_n 3, 1) := by decide +kernel
theorem dX5_exchange_61 : decode cX5_exchange 61 = .ok (.aload_n 0, 1) := by decide +kernel
theorem dX5_exchange_62 : decode cX5_exchange 62 = .ok (.iload_n 2, 1) := by decide +kernel
theorem dX5_exchange_63 : decode cX5_exchange 63 = .ok (.putfield 22, 3) := by decide +kernel
theorem dX5_exchange_66 : decode cX5_exchange 66 = .ok (.iload_n 3, 1) := by decide +kernel
theorem dX5_exchange_67 : decode cX5_exchange 67 = .ok (.ireturn, 1) := by decide +kernel
theorem dX5_exchange_68 : decode cX5_exchange 68 = .ok (.aload_n 0, 1) := by decide +kernel
theorem dX5_exchange_69 : decode cX5_exchange 69 = .ok (.getfield 25, 3) := by decide +kernel
theorem dX5_exchange_72 : decode cX5_exchange 72 = .ok (.istore_n 3, 1) := by decide +kernel
theorem dX5_exchange_73 : decode cX5_exchange 73 = .ok (.aload_n 0, 1) := by decide +kernel
theorem dX5_exchange_74 : decode cX5_exchange 74 = .ok (.iload_n 2, 1) := by decide +kernel
theorem dX5_exchange_75 : decode cX5_exchange 75 = .ok (.putfield 25, 3) := by decide +kernel
theorem dX5_exchange_78 : decode cX5_exchange 78 = .ok (.iload_n 3, 1) := by decide +kernel
theorem dX5_exchange_79 : decode cX5_exchange 79 = .ok (.ireturn, 1) := by decide +kernel
theorem dX5_exchange_80 : decode cX5_exchange 80 = .ok (.iconst (-1), 1) := by decide +kernel
theorem dX5_exchange_81 : decode cX5_exchange 81 = .ok (.ireturn, 1) := by decide +kernel
theorem dX5_batchesOf_0 : decode cX5_batchesOf 0 = .ok (.aload_n 0, 1) := by decide +kernel
theorem dX5_batchesOf_1 : decode cX5_batchesOf 1 = .ok (.getfield 15, 3) := by decide +kernel
theorem dX5_batchesOf_4 : decode cX5_batchesOf 4 = .ok (.iconst 1, 1) := by decide +kernel
theorem dX5_batchesOf_5 : decode cX5_batchesOf 5 = .ok (.if_icmp .ge 5, 3) := by decide +kernel
theorem dX5_batchesOf_8 : decode cX5_batchesOf 8 = .ok (.iconst 0, 1) := by decide +kernel
theorem dX5_batchesOf_9 : decode cX5_batchesOf 9 = .ok (.ireturn, 1) := by decide +kernel
theorem dX5_batchesOf_10 : decode cX5_batchesOf 10 = .ok (.aload_n 0, 1) := by decide +kernel
theorem dX5_batchesOf_11 : decode cX5_batchesOf 11 = .ok (.getfield 25, 3) := by decide +kernel
theorem dX5_batchesOf_14 : decode cX5_batchesOf 14 = .ok (.iconst 1, 1) := by decide +kernel
theorem dX5_batchesOf_15 : decode cX5_batchesOf 15 = .ok (.if_icmp .ne 12, 3) := by decide +kernel
theorem dX5_batchesOf_18 : decode cX5_batchesOf 18 = .ok (.iload_n 1, 1) := by decide +kernel
theorem dX5_batchesOf_19 : decode cX5_batchesOf 19 = .ok (.aload_n 0, 1) := by decide +kernel
theorem dX5_batchesOf_20 : decode cX5_batchesOf 20 = .ok (.getfield 15, 3) := by decide +kernel
theorem dX5_batchesOf_23 : decode cX5_batchesOf 23 = .ok (.idiv, 1) := by decide +kernel
theorem dX5_batchesOf_24 : decode cX5_batchesOf 24 = .ok (.goto 16, 3) := by decide +kernel
theorem dX5_batchesOf_27 : decode cX5_batchesOf 27 = .ok (.iload_n 1, 1) := by decide +kernel
theorem dX5_batchesOf_28 : decode cX5_batchesOf 28 = .ok (.aload_n 0, 1) := by decide +kernel
theorem dX5_batchesOf_29 : decode cX5_batchesOf 29 = .ok (.getfield 15, 3) := by decide +kernel
theorem dX5_batchesOf_32 : decode cX5_batchesOf 32 = .ok (.iadd, 1) := by decide +kernel
theorem dX5_batchesOf_33 : decode cX5_batchesOf 33 = .ok (.iconst 1, 1) := by decide +kernel
theorem dX5_batchesOf_34 : decode cX5_batchesOf 34 = .ok (.isub, 1) := by decide +kernel
theorem dX5_batchesOf_35 : decode cX5_batchesOf 35 = .ok (.aload_n 0, 1) := by decide +kernel
theorem dX5_batchesOf_36 : decode cX5_batchesOf 36 = .ok (.getfield 15, 3) := by decide +kernel
theorem dX5_batchesOf_39 : decode cX5_batchesOf 39 = .ok (.idiv, 1) := by decide +kernel
theorem dX5_batchesOf_40 : decode cX5_batchesOf 40 = .ok (.ireturn, 1) := by decide +kernel
set_option maxRecDepth 20000 in
theorem ggX6_init_X4_init : GoodIn wsX6_init wsX4_init := goodIn_r _ [28, 29, 2, 3, 30, 31, 32, 33, 34, 35, 75, 76, 77, 78] (by decide +kernel) (by decide +kernel)
set_option maxRecDepth 20000 in
theorem gX6_init_X4_init_n9 : GoodIn wsX6_init (wsX4_init) := ggX6_init_X4_init
set_option maxRecDepth 20000 in
theorem ggX6_init_X5_init : GoodIn wsX6_init wsX5_init := goodIn_r _ [37, 38, 2, 3, 39, 40, 41, 42, 43, 87, 88, 89, 90, 91] (by decide +kernel) (by decide +kernel)
set_option maxRecDepth 20000 in
theorem gX6_init_X5_init_n18 : GoodIn wsX6_init (wsX5_init) := ggX6_init_X5_init
set_option maxRecDepth 20000 in
theorem ggX6_init_X2_init : GoodIn wsX6_init wsX2_init := goodIn_r _ [45, 46, 2, 3, 47, 92] (by decide +kernel) (by decide +kernel)
set_option maxRecDepth 20000 in
theorem gX6_init_X2_init_n25 : GoodIn wsX6_init (wsX2_init) := ggX6_init_X2_init
set_option maxRecDepth 20000 in
theorem ggX6_init_X3_init : GoodIn wsX6_init wsX3_init := goodIn_r _ [50, 51, 2, 3, 32, 52, 53, 54, 55, 56, 57, 58, 59, 60, 61, 93, 94, 95, 96, 97, 98, 99, 100, 101, 102] (by decide +kernel) (by decide +kernel)
set_option maxRecDepth 20000 in
theorem gX6_init_X3_init : GoodIn wsX6_init (wsX3_init) := ggX6_init_X3_init
set_option maxRecDepth 20000 in
theorem ggX6_init_X1_init : GoodIn wsX6_init wsX1_init := goodIn_r _ [64, 65, 2, 3, 66, 67, 68, 69, 32, 70, 71, 72, 73, 74, 103, 104, 105, 106, 107] (by decide +kernel) (by decide +kernel)
set_option maxRecDepth 20000 in
theorem gX6_init_X1_init : GoodIn wsX6_init (wsX1_init) := ggX6_init_X1_init
theorem dX6_init_0 : decode cX6_init 0 = .ok (.aload_n 0, 1) := by decide +kernel
theorem dX6_init_1 : decode cX6_init 1 = .ok (.invokespecial 1, 3) := by decide +kernel
theorem dX6_init_4 : decode cX6_init 4 = .ok (.aload_n 0, 1) := by decide +kernel
theorem dX6_init_5 : decode cX6_init 5 = .ok (.new 7, 3) := by decide +kernel
theorem dX6_init_8 : decode cX6_init 8 = .ok (.dup, 1) := by decide +kernel
theorem dX6_init_9 : decode cX6_init 9 = .ok (.invokespecial 9, 3) := by decide +kernel
theorem dX6_init_12 : decode cX6_init 12 = .ok (.putfield 10, 3) := by decide +kernel
theorem dX6_init_15 : decode cX6_init 15 = .ok (.aload_n 0, 1) := by decide +kernel
theorem dX6_init_16 : decode cX6_init 16 = .ok (.new 16, 3) := by decide +kernel
theorem dX6_init_19 : decode cX6_init 19 = .ok (.dup, 1) := by decide +kernel
theorem dX6_init_20 : decode cX6_init 20 = .ok (.invokespecial 18, 3) := by decide +kernel
theorem dX6_init_23 : decode cX6_init 23 = .ok (.putfield 19, 3) := by decide +kernel
theorem dX6_init_26 : decode cX6_init 26 = .ok (.aload_n 0, 1) := by decide +kernel
theorem dX6_init_27 : decode cX6_init 27 = .ok (.new 23, 3) := by decide +kernel
theorem dX6_init_30 : decode cX6_init 30 = .ok (.dup, 1) := by decide +kernel
theorem dX6_init_31 : decode cX6_init 31 = .ok (.invokespecial 25, 3) := by decide +kernel
theorem dX6_init_34 : decode cX6_init 34 = .ok (.putfield 26, 3) := by decide +kernel
theorem dX6_init_37 : decode cX6_init 37 = .ok (.aload_n 0, 1) := by decide +kernel
theorem dX6_init_38 : decode cX6_init 38 = .ok (.new 30, 3) := by decide +kernel
theorem dX6_init_41 : decode cX6_init 41 = .ok (.dup, 1) := by decide +kernel
theorem dX6_init_42 : decode cX6_init 42 = .ok (.aload_n 0, 1) := by decide +kernel
theorem dX6_init_43 : decode cX6_init 43 = .ok (.getfield 10, 3) := by decide +kernel
theorem dX6_init_46 : decode cX6_init 46 = .ok (.aload_n 0, 1) := by decide +kernel
theorem dX6_init_47 : decode cX6_init 47 = .ok (.getfield 19, 3) := by decide +kernel
theorem dX6_init_50 : decode cX6_init 50 = .ok (.aload_n 0, 1) := by decide +kernel
theorem dX6_init_51 : decode cX6_init 51 = .ok (.getfield 26, 3) := by decide +kernel
theorem dX6_init_54 : decode cX6_init 54 = .ok (.invokespecial 32, 3) := by decide +kernel
theorem dX6_init_57 : decode cX6_init 57 = .ok (.putfield 35, 3) := by decide +kernel
theorem dX6_init_60 : decode cX6_init 60 = .ok (.aload_n 0, 1) := by decide +kernel
theorem dX6_init_61 : decode cX6_init 61 = .ok (.new 39, 3) := by decide +kernel
theorem dX6_init_64 : decode cX6_init 64 = .ok (.dup, 1) := by decide +kernel
theorem dX6_init_65 : decode cX6_init 65 = .ok (.iconst 2, 1) := by decide +kernel
theorem dX6_init_66 : decode cX6_init 66 = .ok (.iconst 0, 1) := by decide +kernel
theorem dX6_init_67 : decode cX6_init 67 = .ok (.iconst 0, 1) := by decide +kernel
theorem dX6_init_68 : decode cX6_init 68 = .ok (.sipush 1600, 3) := by decide +kernel
theorem dX6_init_71 : decode cX6_init 71 = .ok (.invokespecial 41, 3) := by decide +kernel
theorem dX6_init_74 : decode cX6_init 74 = .ok (.putfield 44, 3) := by decide +kernel
theorem dX6_init_77 : decode cX6_init 77 = .ok (.aload_n 0, 1) := by decide +kernel
theorem dX6_init_78 : decode cX6_init 78 = .ok (.iconst 0, 1) := by decide +kernel
theorem dX6_init_79 : decode cX6_init 79 = .ok (.putfield 48, 3) := by decide +kernel
theorem dX6_init_82 : decode cX6_init 82 = .ok (.aload_n 0, 1) := by decide +kernel
theorem dX6_init_83 : decode cX6_init 83 = .ok (.iconst 0, 1) := by decide +kernel
theorem dX6_init_84 : decode cX6_init 84 = .ok (.putfield 52, 3) := by decide +kernel
theorem dX6_init_87 : decode cX6_init 87 = .ok (.aload_n 0, 1) := by decide +kernel
theorem dX6_init_88 : decode cX6_init 88 = .ok (.iconst 0, 1) := by decide +kernel
theorem dX6_init_89 : decode cX6_init 89 = .ok (.putfield 55, 3) := by decide +kernel
theorem dX6_init_92 : decode cX6_init 92 = .ok (.return_, 1) := by decide +kernel
set_option maxRecDepth 20000 in
theorem ggX6_row_X6_isLabel : GoodIn wsX6_row wsX6_isLabel := goodIn_r _ [8] (by decide +kernel) (by decide +kernel)
set_option maxRecDepth 20000 in
theorem gX6_row_X6_isLabel : GoodIn wsX6_row (va_wsS RX6 58 yX6_isLabel wsX6_isLabel) := goodIn_app (goodIn_of _ (by decide +kernel)) ggX6_row_X6_isLabel
set_option maxRecDepth 20000 in
theorem ggX6_row_X6_isWeight : GoodIn wsX6_row wsX6_isWeight := goodIn_r _ [11] (by decide +kernel) (by decide +kernel)
set_option maxRecDepth 20000 in
theorem gX6_row_X6_isWeight : GoodIn wsX6_row (va_wsS RX6 62 yX6_isWeight wsX6_isWeight) := goodIn_app (goodIn_of _ (by decide +kernel)) ggX6_row_X6_isWeight
set_option maxRecDepth 20000 in
theorem ggX6_row_X4_isFull : GoodIn wsX6_row wsX4_isFull := goodIn_r _ [16, 17, 63, 64, 65, 66] (by decide +kernel) (by decide +kernel)
set_option maxRecDepth 20000 in
theorem gX6_row_X4_isFull : GoodIn wsX6_row (wsV RX6 65 RX4 yX4_isFull wsX4_isFull) := goodIn_app (goodIn_of _ (by decide +kernel)) ggX6_row_X4_isFull
set_option maxRecDepth 20000 in
theorem ggX6_row_X1_init : GoodIn wsX6_row wsX1_init := goodIn_r _ [20, 21, 22, 23, 24, 25, 26, 27, 28, 29, 30, 31, 32, 33, 58, 59, 60, 61, 62] (by decide +kernel) (by decide +kernel)
set_option maxRecDepth 20000 in
theorem gX6_row_X1_init : GoodIn wsX6_row (wsX1_init) := ggX6_row_X1_init
set_option maxRecDepth 20000 in
theorem ggX6_row_X4_append : GoodIn wsX6_row wsX4_append := goodIn_r _ [37, 17, 38, 39, 13, 14, 15, 16, 40, 41, 42, 43, 44, 45, 46, 47, 48, 49, 63, 64, 65, 66] (by decide +kernel) (by decide +kernel)
set_option maxRecDepth 20000 in
theorem gX6_row_X4_append : GoodIn wsX6_row (wsV RX6 69 RX4 yX4_append wsX4_append) := goodIn_app (goodIn_of _ (by decide +kernel)) ggX6_row_X4_append
theorem dX6_row_0 : decode cX6_row 0 = .ok (.iload_n 1, 1) := by decide +kernel
theorem dX6_row_1 : decode cX6_row 1 = .ok (.ifCond .eq 8, 3) := by decide +kernel
theorem dX6_row_4 : decode cX6_row 4 = .ok (.iload_n 1, 1) := by decide +kernel
theorem dX6_row_5 : decode cX6_row 5 = .ok (.iconst 2, 1) := by decide +kernel
theorem dX6_row_6 : decode cX6_row 6 = .ok (.if_icmp .ne 17, 3) := by decide +kernel
theorem dX6_row_9 : decode cX6_row 9 = .ok (.iload_n 2, 1) := by decide +kernel
theorem dX6_row_10 : decode cX6_row 10 = .ok (.invokestatic 58, 3) := by decide +kernel
theorem dX6_row_13 : decode cX6_row 13 = .ok (.ifCond .eq 10, 3) := by decide +kernel
theorem dX6_row_16 : decode cX6_row 16 = .ok (.iload_n 3, 1) := by decide +kernel
theorem dX6_row_17 : decode cX6_row 17 = .ok (.invokestatic 62, 3) := by decide +kernel
theorem dX6_row_20 : decode cX6_row 20 = .ok (.ifCond .ne 5, 3) := by decide +kernel
theorem dX6_row_23 : decode cX6_row 23 = .ok (.iconst (-1), 1) := by decide +kernel
theorem dX6_row_24 : decode cX6_row 24 = .ok (.ireturn, 1) := by decide +kernel
theorem dX6_row_25 : decode cX6_row 25 = .ok (.aload_n 0, 1) := by decide +kernel
theorem dX6_row_26 : decode cX6_row 26 = .ok (.getfield 10, 3) := by decide +kernel
theorem dX6_row_29 : decode cX6_row 29 = .ok (.invokevirtual 65, 3) := by decide +kernel
theorem dX6_row_32 : decode cX6_row 32 = .ok (.ifCond .eq 6, 3) := by decide +kernel
theorem dX6_row_35 : decode cX6_row 35 = .ok (.bipush (-2), 2) := by decide +kernel
theorem dX6_row_37 : decode cX6_row 37 = .ok (.ireturn, 1) := by decide +kernel
theorem dX6_row_38 : decode cX6_row 38 = .ok (.iload_n 1, 1) := by decide +kernel
theorem dX6_row_39 : decode cX6_row 39 = .ok (.ifCond .ne 8, 3) := by decide +kernel
theorem dX6_row_42 : decode cX6_row 42 = .ok (.bipush 40, 2) := by decide +kernel
theorem dX6_row_44 : decode cX6_row 44 = .ok (.goto 4, 3) := by decide +kernel
theorem dX6_row_47 : decode cX6_row 47 = .ok (.iconst 0, 1) := by decide +kernel
theorem dX6_row_48 : decode cX6_row 48 = .ok (.istore 4, 2) := by decide +kernel
theorem dX6_row_50 : decode cX6_row 50 = .ok (.aload_n 0, 1) := by decide +kernel
theorem dX6_row_51 : decode cX6_row 51 = .ok (.getfield 10, 3) := by decide +kernel
theorem dX6_row_54 : decode cX6_row 54 = .ok (.new 39, 3) := by decide +kernel
theorem dX6_row_57 : decode cX6_row 57 = .ok (.dup, 1) := by decide +kernel
theorem dX6_row_58 : decode cX6_row 58 = .ok (.iload_n 1, 1) := by decide +kernel
theorem dX6_row_59 : decode cX6_row 59 = .ok (.iconst 0, 1) := by decide +kernel
theorem dX6_row_60 : decode cX6_row 60 = .ok (.iconst 0, 1) := by decide +kernel
theorem dX6_row_61 : decode cX6_row 61 = .ok (.iload 4, 2) := by decide +kernel
theorem dX6_row_63 : decode cX6_row 63 = .ok (.invokespecial 41, 3) := by decide +kernel
theorem dX6_row_66 : decode cX6_row 66 = .ok (.iload_n 2, 1) := by decide +kernel
theorem dX6_row_67 : decode cX6_row 67 = .ok (.iload_n 3, 1) := by decide +kernel
theorem dX6_row_68 : decode cX6_row 68 = .ok (.invokevirtual 69, 3) := by decide +kernel
theorem dX6_row_71 : decode cX6_row 71 = .ok (.ireturn, 1) := by decide +kernel
set_option maxRecDepth 20000 in
theorem ggX6_picture_X6_isSide : GoodIn wsX6_picture wsX6_isSide := goodIn_r _ [8] (by decide +kernel) (by decide +kernel)
set_option maxRecDepth 20000 in
theorem gX6_picture_X6_isSide : GoodIn wsX6_picture (va_wsS RX6 73 yX6_isSide wsX6_isSide) := goodIn_app (goodIn_of _ (by decide +kernel)) ggX6_picture_X6_isSide
set_option maxRecDepth 20000 in
theorem ggX6_picture_X6_isLabel : GoodIn wsX6_picture wsX6_isLabel := goodIn_r _ [11] (by decide +kernel) (by decide +kernel)
set_option maxRecDepth 20000 in
theorem gX6_picture_X6_isLabel : GoodIn wsX6_picture (va_wsS RX6 58 yX6_isLabel wsX6_isLabel) := goodIn_app (goodIn_of _ (by decide +kernel)) ggX6_picture_X6_isLabel
set_option maxRecDepth 20000 in
theorem ggX6_picture_X6_isWeight : GoodIn wsX6_picture wsX6_isWeight := goodIn_r _ [14] (by decide +kernel) (by decide +kernel)
set_option maxRecDepth 20000 in
theorem gX6_picture_X6_isWeight : GoodIn wsX6_picture (va_wsS RX6 62 yX6_isWeight wsX6_isWeight) := goodIn_app (goodIn_of _ (by decide +kernel)) ggX6_picture_X6_isWeight
set_option maxRecDepth 20000 in
theorem ggX6_picture_X4_isFull : GoodIn wsX6_picture wsX4_isFull := goodIn_r _ [19, 20, 66, 67, 68, 69] (by decide +kernel) (by decide +kernel)
set_option maxRecDepth 20000 in
theorem gX6_picture_X4_isFull : GoodIn wsX6_picture (wsV RX6 65 RX4 yX4_isFull wsX4_isFull) := goodIn_app (goodIn_of _ (by decide +kernel)) ggX6_picture_X4_isFull
set_option maxRecDepth 20000 in
theorem ggX6_picture_X1_init : GoodIn wsX6_picture wsX1_init := goodIn_r _ [23, 24, 25, 26, 27, 28, 29, 30, 31, 32, 33, 34, 35, 36, 61, 62, 63, 64, 65] (by decide +kernel) (by decide +kernel)
set_option maxRecDepth 20000 in
theorem gX6_picture_X1_init : GoodIn wsX6_picture (wsX1_init) := ggX6_picture_X1_init
set_option maxRecDepth 20000 in
theorem ggX6_picture_X4_append : GoodIn wsX6_picture wsX4_append := goodIn_r _ [40, 20, 41, 42, 16, 17, 18, 19, 43, 44, 45, 46, 47, 48, 49, 50, 51, 52, 66, 67, 68, 69] (by decide +kernel) (by decide +kernel)
set_option maxRecDepth 20000 in
theorem gX6_picture_X4_append : GoodIn wsX6_picture (wsV RX6 69 RX4 yX4_append wsX4_append) := goodIn_app (goodIn_of _ (by decide +kernel)) ggX6_picture_X4_append
theorem dX6_picture_0 : decode cX6_picture 0 = .ok (.iload_n 1, 1) := by decide +kernel
theorem dX6_picture_1 : decode cX6_picture 1 = .ok (.invokestatic 73, 3) := by decide +kernel
theorem dX6_picture_4 : decode cX6_picture 4 = .ok (.ifCond .eq 25, 3) := by decide +kernel
theorem dX6_picture_7 : decode cX6_picture 7 = .ok (.iload_n 2, 1) := by decide +kernel
theorem dX6_picture_8 : decode cX6_picture 8 = .ok (.invokestatic 73, 3) := by decide +kernel
theorem dX6_picture_11 : decode cX6_picture 11 = .ok (.ifCond .eq 18, 3) := by decide +kernel
theorem dX6_picture_14 : decode cX6_picture 14 = .ok (.iload_n 3, 1) := by decide +kernel
theorem dX6_picture_15 : decode cX6_picture 15 = .ok (.invokestatic 58, 3) := by decide +kernel
theorem dX6_picture_18 : decode cX6_picture 18 = .ok (.ifCond .eq 11, 3) := by decide +kernel
theorem dX6_picture_21 : decode cX6_picture 21 = .ok (.iload 4, 2) := by decide +kernel
theorem dX6_picture_23 : decode cX6_picture 23 = .ok (.invokestatic 62, 3) := by decide +kernel
theorem dX6_picture_26 : decode cX6_picture 26 = .ok (.ifCond .ne 5, 3) := by decide +kernel
theorem dX6_picture_29 : decode cX6_picture 29 = .ok (.iconst (-1), 1) := by decide +kernel
theorem dX6_picture_30 : decode cX6_picture 30 = .ok (.ireturn, 1) := by decide +kernel
theorem dX6_picture_31 : decode cX6_picture 31 = .ok (.aload_n 0, 1) := by decide +kernel
theorem dX6_picture_32 : decode cX6_picture 32 = .ok (.getfield 10, 3) := by decide +kernel
theorem dX6_picture_35 : decode cX6_picture 35 = .ok (.invokevirtual 65, 3) := by decide +kernel
theorem dX6_picture_38 : decode cX6_picture 38 = .ok (.ifCond .eq 6, 3) := by decide +kernel
theorem dX6_picture_41 : decode cX6_picture 41 = .ok (.bipush (-2), 2) := by decide +kernel
theorem dX6_picture_43 : decode cX6_picture 43 = .ok (.ireturn, 1) := by decide +kernel
theorem dX6_picture_44 : decode cX6_picture 44 = .ok (.aload_n 0, 1) := by decide +kernel
theorem dX6_picture_45 : decode cX6_picture 45 = .ok (.getfield 10, 3) := by decide +kernel
theorem dX6_picture_48 : decode cX6_picture 48 = .ok (.new 39, 3) := by decide +kernel
theorem dX6_picture_51 : decode cX6_picture 51 = .ok (.dup, 1) := by decide +kernel
theorem dX6_picture_52 : decode cX6_picture 52 = .ok (.iconst 1, 1) := by decide +kernel
theorem dX6_picture_53 : decode cX6_picture 53 = .ok (.iload_n 1, 1) := by decide +kernel
theorem dX6_picture_54 : decode cX6_picture 54 = .ok (.iload_n 2, 1) := by decide +kernel
theorem dX6_picture_55 : decode cX6_picture 55 = .ok (.iload_n 1, 1) := by decide +kernel
theorem dX6_picture_56 : decode cX6_picture 56 = .ok (.iload_n 2, 1) := by decide +kernel
theorem dX6_picture_57 : decode cX6_picture 57 = .ok (.imul, 1) := by decide +kernel
theorem dX6_picture_58 : decode cX6_picture 58 = .ok (.invokespecial 41, 3) := by decide +kernel
theorem dX6_picture_61 : decode cX6_picture 61 = .ok (.iload_n 3, 1) := by decide +kernel
theorem dX6_picture_62 : decode cX6_picture 62 = .ok (.iload 4, 2) := by decide +kernel
theorem dX6_picture_64 : decode cX6_picture 64 = .ok (.invokevirtual 69, 3) := by decide +kernel
theorem dX6_picture_67 : decode cX6_picture 67 = .ok (.ireturn, 1) := by decide +kernel
set_option maxRecDepth 20000 in
theorem ggX6_word_X4_find : GoodIn wsX6_word wsX4_find := goodIn_r _ [6, 7, 8, 9, 10, 5, 11, 12, 33, 34, 35, 36] (by decide +kernel) (by decide +kernel)
set_option maxRecDepth 20000 in
theorem gX6_word_X4_find : GoodIn wsX6_word (wsV RX6 76 RX4 yX4_find wsX4_find) := goodIn_app (goodIn_of _ (by decide +kernel)) ggX6_word_X4_find
set_option maxRecDepth 20000 in
theorem ggX6_word_X1_append : GoodIn wsX6_word wsX1_append := goodIn_r _ [17, 18, 19, 28, 29, 30, 31, 32] (by decide +kernel) (by decide +kernel)
set_option maxRecDepth 20000 in
theorem gX6_word_X1_append : GoodIn wsX6_word (wsV RX6 86 RX1 yX1_append wsX1_append) := goodIn_app (goodIn_of _ (by decide +kernel)) ggX6_word_X1_append
theorem dX6_word_0 : decode cX6_word 0 = .ok (.aload_n 0, 1) := by decide +kernel
theorem dX6_word_1 : decode cX6_word 1 = .ok (.getfield 10, 3) := by decide +kernel
theorem dX6_word_4 : decode cX6_word 4 = .ok (.iload_n 1, 1) := by decide +kernel
theorem dX6_word_5 : decode cX6_word 5 = .ok (.invokevirtual 76, 3) := by decide +kernel
theorem dX6_word_8 : decode cX6_word 8 = .ok (.astore_n 3, 1) := by decide +kernel
theorem dX6_word_9 : decode cX6_word 9 = .ok (.aload_n 3, 1) := by decide +kernel
theorem dX6_word_10 : decode cX6_word 10 = .ok (.ifnull 10, 3) := by decide +kernel
theorem dX6_word_13 : decode cX6_word 13 = .ok (.aload_n 3, 1) := by decide +kernel
theorem dX6_word_14 : decode cX6_word 14 = .ok (.getfield 80, 3) := by decide +kernel
theorem dX6_word_17 : decode cX6_word 17 = .ok (.ifCond .eq 5, 3) := by decide +kernel
theorem dX6_word_20 : decode cX6_word 20 = .ok (.iconst (-1), 1) := by decide +kernel
theorem dX6_word_21 : decode cX6_word 21 = .ok (.ireturn, 1) := by decide +kernel
theorem dX6_word_22 : decode cX6_word 22 = .ok (.aload_n 3, 1) := by decide +kernel
theorem dX6_word_23 : decode cX6_word 23 = .ok (.getfield 83, 3) := by decide +kernel
theorem dX6_word_26 : decode cX6_word 26 = .ok (.bipush 40, 2) := by decide +kernel
theorem dX6_word_28 : decode cX6_word 28 = .ok (.if_icmp .lt 6, 3) := by decide +kernel
theorem dX6_word_31 : decode cX6_word 31 = .ok (.bipush (-2), 2) := by decide +kernel
theorem dX6_word_33 : decode cX6_word 33 = .ok (.ireturn, 1) := by decide +kernel
theorem dX6_word_34 : decode cX6_word 34 = .ok (.aload_n 3, 1) := by decide +kernel
theorem dX6_word_35 : decode cX6_word 35 = .ok (.iload_n 2, 1) := by decide +kernel
theorem dX6_word_36 : decode cX6_word 36 = .ok (.invokevirtual 86, 3) := by decide +kernel
theorem dX6_word_39 : decode cX6_word 39 = .ok (.aload_n 3, 1) := by decide +kernel
theorem dX6_word_40 : decode cX6_word 40 = .ok (.getfield 83, 3) := by decide +kernel
theorem dX6_word_43 : decode cX6_word 43 = .ok (.ireturn, 1) := by decide +kernel
set_option maxRecDepth 20000 in
theorem ggX6_paint_X4_find : GoodIn wsX6_paint wsX4_find := goodIn_r _ [10, 11, 12, 13, 14, 9, 15, 16, 42, 43, 44, 45] (by decide +kernel) (by decide +kernel)
set_option maxRecDepth 20000 in
theorem gX6_paint_X4_find : GoodIn wsX6_paint (wsV RX6 76 RX4 yX4_find wsX4_find) := goodIn_app (goodIn_of _ (by decide +kernel)) ggX6_paint_X4_find
set_option maxRecDepth 20000 in
theorem ggX6_paint_X1_holds : GoodIn wsX6_paint wsX1_holds := goodIn_r _ [21, 22, 23, 37, 38, 39, 40, 41] (by decide +kernel) (by decide +kernel)
set_option maxRecDepth 20000 in
theorem gX6_paint_X1_holds : GoodIn wsX6_paint (wsV RX6 89 RX1 yX1_holds wsX1_holds) := goodIn_app (goodIn_of _ (by decide +kernel)) ggX6_paint_X1_holds
set_option maxRecDepth 20000 in
theorem ggX6_paint_X1_put : GoodIn wsX6_paint wsX1_put := goodIn_r _ [27, 23, 28, 18, 19, 20, 21, 22, 37, 38, 39, 40, 41] (by decide +kernel) (by decide +kernel)
set_option maxRecDepth 20000 in
theorem gX6_paint_X1_put : GoodIn wsX6_paint (wsV RX6 98 RX1 yX1_put wsX1_put) := goodIn_app (goodIn_of _ (by decide +kernel)) ggX6_paint_X1_put
theorem dX6_paint_0 : decode cX6_paint 0 = .ok (.aload_n 0, 1) := by decide +kernel
theorem dX6_paint_1 : decode cX6_paint 1 = .ok (.getfield 10, 3) := by decide +kernel
theorem dX6_paint_4 : decode cX6_paint 4 = .ok (.iload_n 1, 1) := by decide +kernel
theorem dX6_paint_5 : decode cX6_paint 5 = .ok (.invokevirtual 76, 3) := by decide +kernel
theorem dX6_paint_8 : decode cX6_paint 8 = .ok (.astore 5, 2) := by decide +kernel
theorem dX6_paint_10 : decode cX6_paint 10 = .ok (.aload 5, 2) := by decide +kernel
theorem dX6_paint_12 : decode cX6_paint 12 = .ok (.ifnull 21, 3) := by decide +kernel
theorem dX6_paint_15 : decode cX6_paint 15 = .ok (.aload 5, 2) := by decide +kernel
theorem dX6_paint_17 : decode cX6_paint 17 = .ok (.getfield 80, 3) := by decide +kernel
theorem dX6_paint_20 : decode cX6_paint 20 = .ok (.iconst 1, 1) := by decide +kernel
theorem dX6_paint_21 : decode cX6_paint 21 = .ok (.if_icmp .ne 12, 3) := by decide +kernel
theorem dX6_paint_24 : decode cX6_paint 24 = .ok (.aload 5, 2) := by decide +kernel
theorem dX6_paint_26 : decode cX6_paint 26 = .ok (.iload_n 2, 1) := by decide +kernel
theorem dX6_paint_27 : decode cX6_paint 27 = .ok (.invokevirtual 89, 3) := by decide +kernel
theorem dX6_paint_30 : decode cX6_paint 30 = .ok (.ifCond .ne 5, 3) := by decide +kernel
theorem dX6_paint_33 : decode cX6_paint 33 = .ok (.iconst (-1), 1) := by decide +kernel
theorem dX6_paint_34 : decode cX6_paint 34 = .ok (.ireturn, 1) := by decide +kernel
theorem dX6_paint_35 : decode cX6_paint 35 = .ok (.bipush 8, 2) := by decide +kernel
theorem dX6_paint_37 : decode cX6_paint 37 = .ok (.aload 5, 2) := by decide +kernel
theorem dX6_paint_39 : decode cX6_paint 39 = .ok (.getfield 83, 3) := by decide +kernel
theorem dX6_paint_42 : decode cX6_paint 42 = .ok (.iload_n 2, 1) := by decide +kernel
theorem dX6_paint_43 : decode cX6_paint 43 = .ok (.isub, 1) := by decide +kernel
theorem dX6_paint_44 : decode cX6_paint 44 = .ok (.invokestatic 92, 3) := by decide +kernel
theorem dX6_paint_47 : decode cX6_paint 47 = .ok (.istore 6, 2) := by decide +kernel
theorem dX6_paint_49 : decode cX6_paint 49 = .ok (.iconst 0, 1) := by decide +kernel
theorem dX6_paint_50 : decode cX6_paint 50 = .ok (.istore 7, 2) := by decide +kernel
theorem dX6_paint_52 : decode cX6_paint 52 = .ok (.iload 7, 2) := by decide +kernel
theorem dX6_paint_54 : decode cX6_paint 54 = .ok (.iload 6, 2) := by decide +kernel
theorem dX6_paint_56 : decode cX6_paint 56 = .ok (.if_icmp .ge 33, 3) := by decide +kernel
theorem dX6_paint_59 : decode cX6_paint 59 = .ok (.aload 5, 2) := by decide +kernel
theorem dX6_paint_61 : decode cX6_paint 61 = .ok (.iload_n 2, 1) := by decide +kernel
theorem dX6_paint_62 : decode cX6_paint 62 = .ok (.iload 7, 2) := by decide +kernel
theorem dX6_paint_64 : decode cX6_paint 64 = .ok (.iadd, 1) := by decide +kernel
theorem dX6_paint_65 : decode cX6_paint 65 = .ok (.lload_n 3, 1) := by decide +kernel
theorem dX6_paint_66 : decode cX6_paint 66 = .ok (.bipush 56, 2) := by decide +kernel
theorem dX6_paint_68 : decode cX6_paint 68 = .ok (.bipush 8, 2) := by decide +kernel
theorem dX6_paint_70 : decode cX6_paint 70 = .ok (.iload 7, 2) := by decide +kernel
theorem dX6_paint_72 : decode cX6_paint 72 = .ok (.imul, 1) := by decide +kernel
theorem dX6_paint_73 : decode cX6_paint 73 = .ok (.isub, 1) := by decide +kernel
theorem dX6_paint_74 : decode cX6_paint 74 = .ok (.lushr, 1) := by decide +kernel
theorem dX6_paint_75 : decode cX6_paint 75 = .ok (.l2i, 1) := by decide +kernel
theorem dX6_paint_76 : decode cX6_paint 76 = .ok (.sipush 255, 3) := by decide +kernel
theorem dX6_paint_79 : decode cX6_paint 79 = .ok (.iand, 1) := by decide +kernel
theorem dX6_paint_80 : decode cX6_paint 80 = .ok (.invokevirtual 98, 3) := by decide +kernel
theorem dX6_paint_83 : decode cX6_paint 83 = .ok (.iinc 7 1, 3) := by decide +kernel
theorem dX6_paint_86 : decode cX6_paint 86 = .ok (.goto (-34), 3) := by decide +kernel
theorem dX6_paint_89 : decode cX6_paint 89 = .ok (.iconst 1, 1) := by decide +kernel
theorem dX6_paint_90 : decode cX6_paint 90 = .ok (.ireturn, 1) := by decide +kernel
set_option maxRecDepth 20000 in
theorem ggX6_mark_X4_has : GoodIn wsX6_mark wsX4_has := goodIn_r _ [6, 7, 30, 31, 32, 33] (by decide +kernel) (by decide +kernel)
set_option maxRecDepth 20000 in
theorem gX6_mark_X4_has : GoodIn wsX6_mark (wsV RX6 102 RX4 yX4_has wsX4_has) := goodIn_app (goodIn_of _ (by decide +kernel)) ggX6_mark_X4_has
set_option maxRecDepth 20000 in
theorem ggX6_mark_X6_isLabel : GoodIn wsX6_mark wsX6_isLabel := goodIn_r _ [11] (by decide +kernel) (by decide +kernel)
set_option maxRecDepth 20000 in
theorem gX6_mark_X6_isLabel : GoodIn wsX6_mark (va_wsS RX6 58 yX6_isLabel wsX6_isLabel) := goodIn_app (goodIn_of _ (by decide +kernel)) ggX6_mark_X6_isLabel
set_option maxRecDepth 20000 in
theorem ggX6_mark_X6_isWeight : GoodIn wsX6_mark wsX6_isWeight := goodIn_r _ [14] (by decide +kernel) (by decide +kernel)
set_option maxRecDepth 20000 in
theorem gX6_mark_X6_isWeight : GoodIn wsX6_mark (va_wsS RX6 62 yX6_isWeight wsX6_isWeight) := goodIn_app (goodIn_of _ (by decide +kernel)) ggX6_mark_X6_isWeight
set_option maxRecDepth 20000 in
theorem ggX6_mark_X4_relabel : GoodIn wsX6_mark wsX4_relabel := goodIn_r _ [18, 19, 20, 21, 3, 4, 5, 6, 7, 30, 31, 32, 33] (by decide +kernel) (by decide +kernel)
set_option maxRecDepth 20000 in
theorem gX6_mark_X4_relabel : GoodIn wsX6_mark (wsV RX6 105 RX4 yX4_relabel wsX4_relabel) := goodIn_app (goodIn_of _ (by decide +kernel)) ggX6_mark_X4_relabel
theorem dX6_mark_0 : decode cX6_mark 0 = .ok (.aload_n 0, 1) := by decide +kernel
theorem dX6_mark_1 : decode cX6_mark 1 = .ok (.getfield 10, 3) := by decide +kernel
theorem dX6_mark_4 : decode cX6_mark 4 = .ok (.iload_n 1, 1) := by decide +kernel
theorem dX6_mark_5 : decode cX6_mark 5 = .ok (.invokevirtual 102, 3) := by decide +kernel
theorem dX6_mark_8 : decode cX6_mark 8 = .ok (.ifCond .eq 17, 3) := by decide +kernel
theorem dX6_mark_11 : decode cX6_mark 11 = .ok (.iload_n 2, 1) := by decide +kernel
theorem dX6_mark_12 : decode cX6_mark 12 = .ok (.invokestatic 58, 3) := by decide +kernel
theorem dX6_mark_15 : decode cX6_mark 15 = .ok (.ifCond .eq 10, 3) := by decide +kernel
theorem dX6_mark_18 : decode cX6_mark 18 = .ok (.iload_n 3, 1) := by decide +kernel
theorem dX6_mark_19 : decode cX6_mark 19 = .ok (.invokestatic 62, 3) := by decide +kernel
theorem dX6_mark_22 : decode cX6_mark 22 = .ok (.ifCond .ne 5, 3) := by decide +kernel
theorem dX6_mark_25 : decode cX6_mark 25 = .ok (.iconst (-1), 1) := by decide +kernel
theorem dX6_mark_26 : decode cX6_mark 26 = .ok (.ireturn, 1) := by decide +kernel
theorem dX6_mark_27 : decode cX6_mark 27 = .ok (.aload_n 0, 1) := by decide +kernel
theorem dX6_mark_28 : decode cX6_mark 28 = .ok (.getfield 10, 3) := by decide +kernel
theorem dX6_mark_31 : decode cX6_mark 31 = .ok (.iload_n 1, 1) := by decide +kernel
theorem dX6_mark_32 : decode cX6_mark 32 = .ok (.iload_n 2, 1) := by decide +kernel
theorem dX6_mark_33 : decode cX6_mark 33 = .ok (.iload_n 3, 1) := by decide +kernel
theorem dX6_mark_34 : decode cX6_mark 34 = .ok (.invokevirtual 105, 3) := by decide +kernel
theorem dX6_mark_37 : decode cX6_mark 37 = .ok (.iconst 1, 1) := by decide +kernel
theorem dX6_mark_38 : decode cX6_mark 38 = .ok (.ireturn, 1) := by decide +kernel
set_option maxRecDepth 20000 in
theorem ggX6_of_X4_find : GoodIn wsX6_of wsX4_find := goodIn_r _ [6, 7, 8, 9, 10, 5, 11, 12, 36, 37, 38, 39] (by decide +kernel) (by decide +kernel)
set_option maxRecDepth 20000 in
theorem gX6_of_X4_find : GoodIn wsX6_of (wsV RX6 76 RX4 yX4_find wsX4_find) := goodIn_app (goodIn_of _ (by decide +kernel)) ggX6_of_X4_find
set_option maxRecDepth 20000 in
theorem ggX6_of_X4_label : GoodIn wsX6_of wsX4_label := goodIn_r _ [16, 17, 8, 9, 10, 5, 11, 12, 36, 37, 38, 39] (by decide +kernel) (by decide +kernel)
set_option maxRecDepth 20000 in
theorem gX6_of_X4_label : GoodIn wsX6_of (wsV RX6 109 RX4 yX4_label wsX4_label) := goodIn_app (goodIn_of _ (by decide +kernel)) ggX6_of_X4_label
set_option maxRecDepth 20000 in
theorem ggX6_of_X4_weight : GoodIn wsX6_of wsX4_weight := goodIn_r _ [21, 22, 8, 9, 10, 5, 11, 12, 36, 37, 38, 39] (by decide +kernel) (by decide +kernel)
set_option maxRecDepth 20000 in
theorem gX6_of_X4_weight : GoodIn wsX6_of (wsV RX6 113 RX4 yX4_weight wsX4_weight) := goodIn_app (goodIn_of _ (by decide +kernel)) ggX6_of_X4_weight
theorem dX6_of_0 : decode cX6_of 0 = .ok (.aload_n 0, 1) := by decide +kernel
theorem dX6_of_1 : decode cX6_of 1 = .ok (.getfield 10, 3) := by decide +kernel
theorem dX6_of_4 : decode cX6_of 4 = .ok (.iload_n 1, 1) := by decide +kernel
theorem dX6_of_5 : decode cX6_of 5 = .ok (.invokevirtual 76, 3) := by decide +kernel
theorem dX6_of_8 : decode cX6_of 8 = .ok (.astore_n 3, 1) := by decide +kernel
theorem dX6_of_9 : decode cX6_of 9 = .ok (.aload_n 3, 1) := by decide +kernel
theorem dX6_of_10 : decode cX6_of 10 = .ok (.ifnonnull 5, 3) := by decide +kernel
theorem dX6_of_13 : decode cX6_of 13 = .ok (.iconst (-1), 1) := by decide +kernel
theorem dX6_of_14 : decode cX6_of 14 = .ok (.ireturn, 1) := by decide +kernel
theorem dX6_of_15 : decode cX6_of 15 = .ok (.iload_n 2, 1) := by decide +kernel
theorem dX6_of_16 : decode cX6_of 16 = .ok (.tableswitch 78 0 5 #[40, 45, 54, 63, 68, 73], 40) := by decide +kernel
theorem dX6_of_56 : decode cX6_of 56 = .ok (.aload_n 3, 1) := by decide +kernel
theorem dX6_of_57 : decode cX6_of 57 = .ok (.getfield 80, 3) := by decide +kernel
theorem dX6_of_60 : decode cX6_of 60 = .ok (.ireturn, 1) := by decide +kernel
theorem dX6_of_61 : decode cX6_of 61 = .ok (.aload_n 0, 1) := by decide +kernel
theorem dX6_of_62 : decode cX6_of 62 = .ok (.getfield 10, 3) := by decide +kernel
theorem dX6_of_65 : decode cX6_of 65 = .ok (.iload_n 1, 1) := by decide +kernel
theorem dX6_of_66 : decode cX6_of 66 = .ok (.invokevirtual 109, 3) := by decide +kernel
theorem dX6_of_69 : decode cX6_of 69 = .ok (.ireturn, 1) := by decide +kernel
theorem dX6_of_70 : decode cX6_of 70 = .ok (.aload_n 0, 1) := by decide +kernel
theorem dX6_of_71 : decode cX6_of 71 = .ok (.getfield 10, 3) := by decide +kernel
theorem dX6_of_74 : decode cX6_of 74 = .ok (.iload_n 1, 1) := by decide +kernel
theorem dX6_of_75 : decode cX6_of 75 = .ok (.invokevirtual 113, 3) := by decide +kernel
theorem dX6_of_78 : decode cX6_of 78 = .ok (.ireturn, 1) := by decide +kernel
theorem dX6_of_79 : decode cX6_of 79 = .ok (.aload_n 3, 1) := by decide +kernel
theorem dX6_of_80 : decode cX6_of 80 = .ok (.getfield 83, 3) := by decide +kernel
theorem dX6_of_83 : decode cX6_of 83 = .ok (.ireturn, 1) := by decide +kernel
theorem dX6_of_84 : decode cX6_of 84 = .ok (.aload_n 3, 1) := by decide +kernel
theorem dX6_of_85 : decode cX6_of 85 = .ok (.getfield 116, 3) := by decide +kernel
theorem dX6_of_88 : decode cX6_of 88 = .ok (.ireturn, 1) := by decide +kernel
theorem dX6_of_89 : decode cX6_of 89 = .ok (.aload_n 3, 1) := by decide +kernel
theorem dX6_of_90 : decode cX6_of 90 = .ok (.getfield 119, 3) := by decide +kernel
theorem dX6_of_93 : decode cX6_of 93 = .ok (.ireturn, 1) := by decide +kernel
theorem dX6_of_94 : decode cX6_of 94 = .ok (.iconst (-1), 1) := by decide +kernel
theorem dX6_of_95 : decode cX6_of 95 = .ok (.ireturn, 1) := by decide +kernel
theorem dX6_seed_0 : decode cX6_seed 0 = .ok (.aload_n 0, 1) := by decide +kernel
theorem dX6_seed_1 : decode cX6_seed 1 = .ok (.getfield 19, 3) := by decide +kernel
theorem dX6_seed_4 : decode cX6_seed 4 = .ok (.getfield 122, 3) := by decide +kernel
theorem dX6_seed_7 : decode cX6_seed 7 = .ok (.lstore_n 3, 1) := by decide +kernel
theorem dX6_seed_8 : decode cX6_seed 8 = .ok (.aload_n 0, 1) := by decide +kernel
theorem dX6_seed_9 : decode cX6_seed 9 = .ok (.getfield 19, 3) := by decide +kernel
theorem dX6_seed_12 : decode cX6_seed 12 = .ok (.lload_n 1, 1) := by decide +kernel
theorem dX6_seed_13 : decode cX6_seed 13 = .ok (.putfield 122, 3) := by decide +kernel
theorem dX6_seed_16 : decode cX6_seed 16 = .ok (.lload_n 3, 1) := by decide +kernel
theorem dX6_seed_17 : decode cX6_seed 17 = .ok (.lreturn, 1) := by decide +kernel
set_option maxRecDepth 20000 in
theorem ggX6_set_X5_allows : GoodIn wsX6_set wsX5_allows := goodIn_r _ [6] (by decide +kernel) (by decide +kernel)
set_option maxRecDepth 20000 in
theorem gX6_set_X5_allows : GoodIn wsX6_set (wsV RX6 126 RX5 yX5_allows wsX5_allows) := goodIn_app (goodIn_of _ (by decide +kernel)) ggX6_set_X5_allows
set_option maxRecDepth 20000 in
theorem ggX6_set_X5_exchange : GoodIn wsX6_set wsX5_exchange := goodIn_r _ [10, 11, 12, 13, 14, 23, 24, 25, 26, 27] (by decide +kernel) (by decide +kernel)
set_option maxRecDepth 20000 in
theorem gX6_set_X5_exchange : GoodIn wsX6_set (wsV RX6 130 RX5 yX5_exchange wsX5_exchange) := goodIn_app (goodIn_of _ (by decide +kernel)) ggX6_set_X5_exchange
theorem dX6_set_0 : decode cX6_set 0 = .ok (.aload_n 0, 1) := by decide +kernel
theorem dX6_set_1 : decode cX6_set 1 = .ok (.getfield 19, 3) := by decide +kernel
theorem dX6_set_4 : decode cX6_set 4 = .ok (.iload_n 1, 1) := by decide +kernel
theorem dX6_set_5 : decode cX6_set 5 = .ok (.iload_n 2, 1) := by decide +kernel
theorem dX6_set_6 : decode cX6_set 6 = .ok (.invokevirtual 126, 3) := by decide +kernel
theorem dX6_set_9 : decode cX6_set 9 = .ok (.ifCond .ne 5, 3) := by decide +kernel
theorem dX6_set_12 : decode cX6_set 12 = .ok (.iconst (-1), 1) := by decide +kernel
theorem dX6_set_13 : decode cX6_set 13 = .ok (.ireturn, 1) := by decide +kernel
theorem dX6_set_14 : decode cX6_set 14 = .ok (.aload_n 0, 1) := by decide +kernel
theorem dX6_set_15 : decode cX6_set 15 = .ok (.getfield 19, 3) := by decide +kernel
theorem dX6_set_18 : decode cX6_set 18 = .ok (.iload_n 1, 1) := by decide +kernel
theorem dX6_set_19 : decode cX6_set 19 = .ok (.iload_n 2, 1) := by decide +kernel
theorem dX6_set_20 : decode cX6_set 20 = .ok (.invokevirtual 130, 3) := by decide +kernel
theorem dX6_set_23 : decode cX6_set 23 = .ok (.ireturn, 1) := by decide +kernel
set_option maxRecDepth 20000 in
theorem ggX6_count_X5_batchesOf : GoodIn wsX6_count wsX5_batchesOf := goodIn_r _ [9, 10, 11, 20, 21, 22, 23, 24] (by decide +kernel) (by decide +kernel)
set_option maxRecDepth 20000 in
theorem gX6_count_X5_batchesOf : GoodIn wsX6_count (wsV RX6 146 RX5 yX5_batchesOf wsX5_batchesOf) := goodIn_app (goodIn_of _ (by decide +kernel)) ggX6_count_X5_batchesOf
theorem dX6_count_0 : decode cX6_count 0 = .ok (.aload_n 0, 1) := by decide +kernel
theorem dX6_count_1 : decode cX6_count 1 = .ok (.getfield 19, 3) := by decide +kernel
theorem dX6_count_4 : decode cX6_count 4 = .ok (.getfield 133, 3) := by decide +kernel
theorem dX6_count_7 : decode cX6_count 7 = .ok (.ifCond .ne 13, 3) := by decide +kernel
theorem dX6_count_10 : decode cX6_count 10 = .ok (.new 136, 3) := by decide +kernel
theorem dX6_count_13 : decode cX6_count 13 = .ok (.dup, 1) := by decide +kernel
theorem dX6_count_14 : decode cX6_count 14 = .ok (.ldc 138, 2) := by decide +kernel
theorem dX6_count_16 : decode cX6_count 16 = .ok (.invokespecial 140, 3) := by decide +kernel
theorem dX6_count_19 : decode cX6_count 19 = .ok (.athrow, 1) := by decide +kernel
theorem dX6_count_20 : decode cX6_count 20 = .ok (.aload_n 0, 1) := by decide +kernel
theorem dX6_count_21 : decode cX6_count 21 = .ok (.getfield 19, 3) := by decide +kernel
theorem dX6_count_24 : decode cX6_count 24 = .ok (.aload_n 0, 1) := by decide +kernel
theorem dX6_count_25 : decode cX6_count 25 = .ok (.getfield 10, 3) := by decide +kernel
theorem dX6_count_28 : decode cX6_count 28 = .ok (.getfield 143, 3) := by decide +kernel
theorem dX6_count_31 : decode cX6_count 31 = .ok (.invokevirtual 146, 3) := by decide +kernel
theorem dX6_count_34 : decode cX6_count 34 = .ok (.ireturn, 1) := by decide +kernel
set_option maxRecDepth 20000 in
theorem ggX6_batch_X6_isWay : GoodIn wsX6_batch wsX6_isWay := goodIn_r _ [6] (by decide +kernel) (by decide +kernel)
set_option maxRecDepth 20000 in
theorem gX6_batch_X6_isWay : GoodIn wsX6_batch (va_wsS RX6 149 yX6_isWay wsX6_isWay) := goodIn_app (goodIn_of _ (by decide +kernel)) ggX6_batch_X6_isWay
set_option maxRecDepth 20000 in
theorem ggX6_batch_X6_isRound : GoodIn wsX6_batch wsX6_isRound := goodIn_r _ [9] (by decide +kernel) (by decide +kernel)
set_option maxRecDepth 20000 in
theorem gX6_batch_X6_isRound : GoodIn wsX6_batch (va_wsS RX6 152 yX6_isRound wsX6_isRound) := goodIn_app (goodIn_of _ (by decide +kernel)) ggX6_batch_X6_isRound
set_option maxRecDepth 20000 in
theorem ggX6_batch_X3_make : GoodIn wsX6_batch wsX3_make := goodIn_r _ [14, 15, 16, 17, 18, 19, 20, 21, 22, 23, 24, 25, 26, 27, 28, 29, 30, 31, 32, 33, 34, 35, 36, 37, 38, 13, 39, 40, 41, 42, 43, 44, 45, 46, 47, 48, 49, 50, 51, 52, 53, 54, 55, 56, 57, 58, 59, 60, 61, 62, 63, 64, 65, 66, 67, 68, 69, 70, 71, 72, 73, 74, 75, 76, 77, 78, 79, 80, 81, 82, 83, 84, 85, 86, 87, 88, 89, 90, 91, 92, 93, 94, 95, 96, 97, 98, 99, 100, 101, 102, 103, 104, 105, 106, 107, 108, 109, 110, 111, 112, 113, 114, 115, 116, 117, 118, 119, 120, 121, 122, 123, 124, 125, 126, 127, 128, 129, 130, 160, 161, 162, 163, 164, 165, 166, 167, 168, 169, 170, 171, 172, 173, 155, 156, 157, 158, 159, 174, 175, 176, 177, 178, 179] (by decide +kernel) (by decide +kernel)
set_option maxRecDepth 20000 in
theorem gX6_batch_X3_make : GoodIn wsX6_batch (wsV RX6 155 RX3 yX3_make wsX3_make) := goodIn_app (goodIn_of _ (by decide +kernel)) ggX6_batch_X3_make
set_option maxRecDepth 20000 in
theorem ggX6_batch_X6_rowInBatch : GoodIn wsX6_batch wsX6_rowInBatch := goodIn_r _ [134, 1, 135, 2, 136, 137, 138, 139, 140, 141, 142, 143, 144, 145, 13, 146, 20, 62, 147, 148, 149, 150, 151, 152, 153, 154, 170, 171, 172, 173, 155, 156, 157, 158, 159, 160, 161, 162, 163, 164, 165, 166, 167, 168, 169] (by decide +kernel) (by decide +kernel)
set_option maxRecDepth 20000 in
theorem gX6_batch_X6_rowInBatch : GoodIn wsX6_batch (wsV RX6 158 RX6 yX6_rowInBatch wsX6_rowInBatch) := goodIn_app (goodIn_of _ (by decide +kernel)) ggX6_batch_X6_rowInBatch
theorem dX6_batch_0 : decode cX6_batch 0 = .ok (.iload_n 1, 1) := by decide +kernel
theorem dX6_batch_1 : decode cX6_batch 1 = .ok (.invokestatic 149, 3) := by decide +kernel
theorem dX6_batch_4 : decode cX6_batch 4 = .ok (.ifCond .eq 19, 3) := by decide +kernel
theorem dX6_batch_7 : decode cX6_batch 7 = .ok (.iload_n 2, 1) := by decide +kernel
theorem dX6_batch_8 : decode cX6_batch 8 = .ok (.invokestatic 152, 3) := by decide +kernel
theorem dX6_batch_11 : decode cX6_batch 11 = .ok (.ifCond .eq 12, 3) := by decide +kernel
theorem dX6_batch_14 : decode cX6_batch 14 = .ok (.iload_n 3, 1) := by decide +kernel
theorem dX6_batch_15 : decode cX6_batch 15 = .ok (.ifCond .lt 8, 3) := by decide +kernel
theorem dX6_batch_18 : decode cX6_batch 18 = .ok (.iload 4, 2) := by decide +kernel
theorem dX6_batch_20 : decode cX6_batch 20 = .ok (.ifCond .ge 5, 3) := by decide +kernel
theorem dX6_batch_23 : decode cX6_batch 23 = .ok (.iconst (-1), 1) := by decide +kernel
theorem dX6_batch_24 : decode cX6_batch 24 = .ok (.ireturn, 1) := by decide +kernel
theorem dX6_batch_25 : decode cX6_batch 25 = .ok (.aload_n 0, 1) := by decide +kernel
theorem dX6_batch_26 : decode cX6_batch 26 = .ok (.getfield 19, 3) := by decide +kernel
theorem dX6_batch_29 : decode cX6_batch 29 = .ok (.getfield 133, 3) := by decide +kernel
theorem dX6_batch_32 : decode cX6_batch 32 = .ok (.ifCond .eq 15, 3) := by decide +kernel
theorem dX6_batch_35 : decode cX6_batch 35 = .ok (.aload_n 0, 1) := by decide +kernel
theorem dX6_batch_36 : decode cX6_batch 36 = .ok (.getfield 35, 3) := by decide +kernel
theorem dX6_batch_39 : decode cX6_batch 39 = .ok (.iload_n 1, 1) := by decide +kernel
theorem dX6_batch_40 : decode cX6_batch 40 = .ok (.iload_n 2, 1) := by decide +kernel
theorem dX6_batch_41 : decode cX6_batch 41 = .ok (.invokevirtual 155, 3) := by decide +kernel
theorem dX6_batch_44 : decode cX6_batch 44 = .ok (.ifCond .ne 6, 3) := by decide +kernel
theorem dX6_batch_47 : decode cX6_batch 47 = .ok (.bipush (-16), 2) := by decide +kernel
theorem dX6_batch_49 : decode cX6_batch 49 = .ok (.ireturn, 1) := by decide +kernel
theorem dX6_batch_50 : decode cX6_batch 50 = .ok (.aload_n 0, 1) := by decide +kernel
theorem dX6_batch_51 : decode cX6_batch 51 = .ok (.iload_n 3, 1) := by decide +kernel
theorem dX6_batch_52 : decode cX6_batch 52 = .ok (.iload 4, 2) := by decide +kernel
theorem dX6_batch_54 : decode cX6_batch 54 = .ok (.i2l, 1) := by decide +kernel
theorem dX6_batch_55 : decode cX6_batch 55 = .ok (.invokevirtual 158, 3) := by decide +kernel
theorem dX6_batch_58 : decode cX6_batch 58 = .ok (.ireturn, 1) := by decide +kernel
set_option maxRecDepth 20000 in
theorem ggX6_share_X6_isWay : GoodIn wsX6_share wsX6_isWay := goodIn_r _ [6] (by decide +kernel) (by decide +kernel)
set_option maxRecDepth 20000 in
theorem gX6_share_X6_isWay : GoodIn wsX6_share (va_wsS RX6 149 yX6_isWay wsX6_isWay) := goodIn_app (goodIn_of _ (by decide +kernel)) ggX6_share_X6_isWay
set_option maxRecDepth 20000 in
theorem ggX6_share_X6_isRound : GoodIn wsX6_share wsX6_isRound := goodIn_r _ [9] (by decide +kernel) (by decide +kernel)
set_option maxRecDepth 20000 in
theorem gX6_share_X6_isRound : GoodIn wsX6_share (va_wsS RX6 152 yX6_isRound wsX6_isRound) := goodIn_app (goodIn_of _ (by decide +kernel)) ggX6_share_X6_isRound
set_option maxRecDepth 20000 in
theorem ggX6_share_X3_make : GoodIn wsX6_share wsX3_make := goodIn_r _ [14, 15, 16, 17, 18, 19, 20, 21, 22, 23, 24, 25, 26, 27, 28, 29, 30, 31, 32, 33, 34, 35, 36, 37, 38, 13, 39, 40, 41, 42, 43, 44, 45, 46, 47, 48, 49, 50, 51, 52, 53, 54, 55, 56, 57, 58, 59, 60, 61, 62, 63, 64, 65, 66, 67, 68, 69, 70, 71, 72, 73, 74, 75, 76, 77, 78, 79, 80, 81, 82, 83, 84, 85, 86, 87, 88, 89, 90, 91, 92, 93, 94, 95, 96, 97, 98, 99, 100, 101, 102, 103, 104, 105, 106, 107, 108, 109, 110, 111, 112, 113, 114, 115, 116, 117, 118, 119, 120, 121, 122, 123, 124, 125, 126, 127, 128, 129, 130, 160, 161, 162, 163, 164, 165, 166, 167, 168, 169, 170, 171, 172, 173, 155, 156, 157, 158, 159, 174, 175, 176, 177, 178, 179] (by decide +kernel) (by decide +kernel)
set_option maxRecDepth 20000 in
theorem gX6_share_X3_make : GoodIn wsX6_share (wsV RX6 155 RX3 yX3_make wsX3_make) := goodIn_app (goodIn_of _ (by decide +kernel)) ggX6_share_X3_make
set_option maxRecDepth 20000 in
theorem ggX6_share_X6_rowInBatch : GoodIn wsX6_share wsX6_rowInBatch := goodIn_r _ [134, 1, 135, 2, 136, 137, 138, 139, 140, 141, 142, 143, 144, 145, 13, 146, 20, 62, 147, 148, 149, 150, 151, 152, 153, 154, 170, 171, 172, 173, 155, 156, 157, 158, 159, 160, 161, 162, 163, 164, 165, 166, 167, 168, 169] (by decide +kernel) (by decide +kernel)
set_option maxRecDepth 20000 in
theorem gX6_share_X6_rowInBatch : GoodIn wsX6_share (wsV RX6 158 RX6 yX6_rowInBatch wsX6_rowInBatch) := goodIn_app (goodIn_of _ (by decide +kernel)) ggX6_share_X6_rowInBatch
theorem dX6_share_0 : decode cX6_share 0 = .ok (.iload_n 1, 1) := by decide +kernel
theorem dX6_share_1 : decode cX6_share 1 = .ok (.invokestatic 149, 3) := by decide +kernel
theorem dX6_share_4 : decode cX6_share 4 = .ok (.ifCond .eq 19, 3) := by decide +kernel
theorem dX6_share_7 : decode cX6_share 7 = .ok (.iload_n 2, 1) := by decide +kernel
theorem dX6_share_8 : decode cX6_share 8 = .ok (.invokestatic 152, 3) := by decide +kernel
theorem dX6_share_11 : decode cX6_share 11 = .ok (.ifCond .eq 12, 3) := by decide +kernel
theorem dX6_share_14 : decode cX6_share 14 = .ok (.iload_n 3, 1) := by decide +kernel
theorem dX6_share_15 : decode cX6_share 15 = .ok (.ifCond .lt 8, 3) := by decide +kernel
theorem dX6_share_18 : decode cX6_share 18 = .ok (.iload 6, 2) := by decide +kernel
theorem dX6_share_20 : decode cX6_share 20 = .ok (.ifCond .ge 5, 3) := by decide +kernel
theorem dX6_share_23 : decode cX6_share 23 = .ok (.iconst (-1), 1) := by decide +kernel
theorem dX6_share_24 : decode cX6_share 24 = .ok (.ireturn, 1) := by decide +kernel
theorem dX6_share_25 : decode cX6_share 25 = .ok (.iload 4, 2) := by decide +kernel
theorem dX6_share_27 : decode cX6_share 27 = .ok (.iconst 1, 1) := by decide +kernel
theorem dX6_share_28 : decode cX6_share 28 = .ok (.if_icmp .lt 22, 3) := by decide +kernel
theorem dX6_share_31 : decode cX6_share 31 = .ok (.iload 4, 2) := by decide +kernel
theorem dX6_share_33 : decode cX6_share 33 = .ok (.bipush 8, 2) := by decide +kernel
theorem dX6_share_35 : decode cX6_share 35 = .ok (.if_icmp .gt 15, 3) := by decide +kernel
theorem dX6_share_38 : decode cX6_share 38 = .ok (.iload 5, 2) := by decide +kernel
theorem dX6_share_40 : decode cX6_share 40 = .ok (.ifCond .lt 10, 3) := by decide +kernel
theorem dX6_share_43 : decode cX6_share 43 = .ok (.iload 5, 2) := by decide +kernel
theorem dX6_share_45 : decode cX6_share 45 = .ok (.iload 4, 2) := by decide +kernel
theorem dX6_share_47 : decode cX6_share 47 = .ok (.if_icmp .lt 5, 3) := by decide +kernel
theorem dX6_share_50 : decode cX6_share 50 = .ok (.iconst (-1), 1) := by decide +kernel
theorem dX6_share_51 : decode cX6_share 51 = .ok (.ireturn, 1) := by decide +kernel
theorem dX6_share_52 : decode cX6_share 52 = .ok (.aload_n 0, 1) := by decide +kernel
theorem dX6_share_53 : decode cX6_share 53 = .ok (.getfield 19, 3) := by decide +kernel
theorem dX6_share_56 : decode cX6_share 56 = .ok (.getfield 133, 3) := by decide +kernel
theorem dX6_share_59 : decode cX6_share 59 = .ok (.ifCond .eq 15, 3) := by decide +kernel
theorem dX6_share_62 : decode cX6_share 62 = .ok (.aload_n 0, 1) := by decide +kernel
theorem dX6_share_63 : decode cX6_share 63 = .ok (.getfield 35, 3) := by decide +kernel
theorem dX6_share_66 : decode cX6_share 66 = .ok (.iload_n 1, 1) := by decide +kernel
theorem dX6_share_67 : decode cX6_share 67 = .ok (.iload_n 2, 1) := by decide +kernel
theorem dX6_share_68 : decode cX6_share 68 = .ok (.invokevirtual 155, 3) := by decide +kernel
theorem dX6_share_71 : decode cX6_share 71 = .ok (.ifCond .ne 6, 3) := by decide +kernel
theorem dX6_share_74 : decode cX6_share 74 = .ok (.bipush (-16), 2) := by decide +kernel
theorem dX6_share_76 : decode cX6_share 76 = .ok (.ireturn, 1) := by decide +kernel
theorem dX6_share_77 : decode cX6_share 77 = .ok (.aload_n 0, 1) := by decide +kernel
theorem dX6_share_78 : decode cX6_share 78 = .ok (.iload_n 3, 1) := by decide +kernel
theorem dX6_share_79 : decode cX6_share 79 = .ok (.iload 6, 2) := by decide +kernel
theorem dX6_share_81 : decode cX6_share 81 = .ok (.i2l, 1) := by decide +kernel
theorem dX6_share_82 : decode cX6_share 82 = .ok (.iload 4, 2) := by decide +kernel
theorem dX6_share_84 : decode cX6_share 84 = .ok (.i2l, 1) := by decide +kernel
theorem dX6_share_85 : decode cX6_share 85 = .ok (.lmul, 1) := by decide +kernel
theorem dX6_share_86 : decode cX6_share 86 = .ok (.iload 5, 2) := by decide +kernel
theorem dX6_share_88 : decode cX6_share 88 = .ok (.i2l, 1) := by decide +kernel
theorem dX6_share_89 : decode cX6_share 89 = .ok (.ladd, 1) := by decide +kernel
theorem dX6_share_90 : decode cX6_share 90 = .ok (.invokevirtual 158, 3) := by decide +kernel
theorem dX6_share_93 : decode cX6_share 93 = .ok (.ireturn, 1) := by decide +kernel
set_option maxRecDepth 20000 in
theorem ggX6_once_X6_isWay : GoodIn wsX6_once wsX6_isWay := goodIn_r _ [5] (by decide +kernel) (by decide +kernel)
set_option maxRecDepth 20000 in
theorem gX6_once_X6_isWay : GoodIn wsX6_once (va_wsS RX6 149 yX6_isWay wsX6_isWay) := goodIn_app (goodIn_of _ (by decide +kernel)) ggX6_once_X6_isWay
set_option maxRecDepth 20000 in
theorem ggX6_once_X6_isRound : GoodIn wsX6_once wsX6_isRound := goodIn_r _ [8] (by decide +kernel) (by decide +kernel)
set_option maxRecDepth 20000 in
theorem gX6_once_X6_isRound : GoodIn wsX6_once (va_wsS RX6 152 yX6_isRound wsX6_isRound) := goodIn_app (goodIn_of _ (by decide +kernel)) ggX6_once_X6_isRound
set_option maxRecDepth 20000 in
theorem ggX6_once_X3_make : GoodIn wsX6_once wsX3_make := goodIn_r _ [13, 14, 15, 16, 17, 18, 19, 20, 21, 22, 23, 24, 25, 26, 27, 28, 29, 30, 31, 32, 33, 34, 35, 36, 37, 12, 38, 39, 40, 41, 42, 43, 44, 45, 46, 47, 48, 49, 50, 51, 52, 53, 54, 55, 56, 57, 58, 59, 60, 61, 62, 63, 64, 65, 66, 67, 68, 69, 70, 71, 72, 73, 74, 75, 76, 77, 78, 79, 80, 81, 82, 83, 84, 85, 86, 87, 88, 89, 90, 91, 92, 93, 94, 95, 96, 97, 98, 99, 100, 101, 102, 103, 104, 105, 106, 107, 108, 109, 110, 111, 112, 113, 114, 115, 116, 117, 118, 119, 120, 121, 122, 123, 124, 125, 126, 127, 128, 129, 142, 143, 144, 145, 146, 147, 148, 149, 150, 151, 152, 153, 154, 155, 156, 157, 158, 159, 160, 161, 162, 163, 164, 165, 166] (by decide +kernel) (by decide +kernel)
set_option maxRecDepth 20000 in
theorem gX6_once_X3_make : GoodIn wsX6_once (wsV RX6 155 RX3 yX3_make wsX3_make) := goodIn_app (goodIn_of _ (by decide +kernel)) ggX6_once_X3_make
set_option maxRecDepth 20000 in
theorem ggX6_once_X3_hasEachOnce : GoodIn wsX6_once wsX3_hasEachOnce := goodIn_r _ [133, 19, 121, 61, 142, 143, 144, 145, 146, 147, 148, 149, 150, 151] (by decide +kernel) (by decide +kernel)
set_option maxRecDepth 20000 in
theorem gX6_once_X3_hasEachOnce : GoodIn wsX6_once (wsV RX6 162 RX3 yX3_hasEachOnce wsX3_hasEachOnce) := goodIn_app (goodIn_of _ (by decide +kernel)) ggX6_once_X3_hasEachOnce
theorem dX6_once_0 : decode cX6_once 0 = .ok (.iload_n 1, 1) := by decide +kernel
theorem dX6_once_1 : decode cX6_once 1 = .ok (.invokestatic 149, 3) := by decide +kernel
theorem dX6_once_4 : decode cX6_once 4 = .ok (.ifCond .eq 10, 3) := by decide +kernel
theorem dX6_once_7 : decode cX6_once 7 = .ok (.iload_n 2, 1) := by decide +kernel
theorem dX6_once_8 : decode cX6_once 8 = .ok (.invokestatic 152, 3) := by decide +kernel
theorem dX6_once_11 : decode cX6_once 11 = .ok (.ifCond .ne 5, 3) := by decide +kernel
theorem dX6_once_14 : decode cX6_once 14 = .ok (.iconst (-1), 1) := by decide +kernel
theorem dX6_once_15 : decode cX6_once 15 = .ok (.ireturn, 1) := by decide +kernel
theorem dX6_once_16 : decode cX6_once 16 = .ok (.aload_n 0, 1) := by decide +kernel
theorem dX6_once_17 : decode cX6_once 17 = .ok (.getfield 35, 3) := by decide +kernel
theorem dX6_once_20 : decode cX6_once 20 = .ok (.iload_n 1, 1) := by decide +kernel
theorem dX6_once_21 : decode cX6_once 21 = .ok (.iload_n 2, 1) := by decide +kernel
theorem dX6_once_22 : decode cX6_once 22 = .ok (.invokevirtual 155, 3) := by decide +kernel
theorem dX6_once_25 : decode cX6_once 25 = .ok (.ifCond .ne 6, 3) := by decide +kernel
theorem dX6_once_28 : decode cX6_once 28 = .ok (.bipush (-16), 2) := by decide +kernel
theorem dX6_once_30 : decode cX6_once 30 = .ok (.ireturn, 1) := by decide +kernel
theorem dX6_once_31 : decode cX6_once 31 = .ok (.aload_n 0, 1) := by decide +kernel
theorem dX6_once_32 : decode cX6_once 32 = .ok (.getfield 35, 3) := by decide +kernel
theorem dX6_once_35 : decode cX6_once 35 = .ok (.invokevirtual 162, 3) := by decide +kernel
theorem dX6_once_38 : decode cX6_once 38 = .ok (.ifCond .eq 7, 3) := by decide +kernel
theorem dX6_once_41 : decode cX6_once 41 = .ok (.iconst 1, 1) := by decide +kernel
theorem dX6_once_42 : decode cX6_once 42 = .ok (.goto 4, 3) := by decide +kernel
theorem dX6_once_45 : decode cX6_once 45 = .ok (.iconst 0, 1) := by decide +kernel
theorem dX6_once_46 : decode cX6_once 46 = .ok (.ireturn, 1) := by decide +kernel
set_option maxRecDepth 20000 in
theorem ggX6_resume_X6_isWay : GoodIn wsX6_resume wsX6_isWay := goodIn_r _ [8] (by decide +kernel) (by decide +kernel)
set_option maxRecDepth 20000 in
theorem gX6_resume_X6_isWay : GoodIn wsX6_resume (va_wsS RX6 149 yX6_isWay wsX6_isWay) := goodIn_app (goodIn_of _ (by decide +kernel)) ggX6_resume_X6_isWay
set_option maxRecDepth 20000 in
theorem ggX6_resume_X6_isRound : GoodIn wsX6_resume wsX6_isRound := goodIn_r _ [11] (by decide +kernel) (by decide +kernel)
set_option maxRecDepth 20000 in
theorem gX6_resume_X6_isRound : GoodIn wsX6_resume (va_wsS RX6 152 yX6_isRound wsX6_isRound) := goodIn_app (goodIn_of _ (by decide +kernel)) ggX6_resume_X6_isRound
theorem dX6_resume_0 : decode cX6_resume 0 = .ok (.iload_n 1, 1) := by decide +kernel
theorem dX6_resume_1 : decode cX6_resume 1 = .ok (.invokestatic 149, 3) := by decide +kernel
theorem dX6_resume_4 : decode cX6_resume 4 = .ok (.ifCond .eq 25, 3) := by decide +kernel
theorem dX6_resume_7 : decode cX6_resume 7 = .ok (.iload_n 2, 1) := by decide +kernel
theorem dX6_resume_8 : decode cX6_resume 8 = .ok (.invokestatic 152, 3) := by decide +kernel
theorem dX6_resume_11 : decode cX6_resume 11 = .ok (.ifCond .eq 18, 3) := by decide +kernel
theorem dX6_resume_14 : decode cX6_resume 14 = .ok (.iload_n 3, 1) := by decide +kernel
theorem dX6_resume_15 : decode cX6_resume 15 = .ok (.ifCond .lt 14, 3) := by decide +kernel
theorem dX6_resume_18 : decode cX6_resume 18 = .ok (.iload_n 3, 1) := by decide +kernel
theorem dX6_resume_19 : decode cX6_resume 19 = .ok (.aload_n 0, 1) := by decide +kernel
theorem dX6_resume_20 : decode cX6_resume 20 = .ok (.getfield 10, 3) := by decide +kernel
theorem dX6_resume_23 : decode cX6_resume 23 = .ok (.getfield 143, 3) := by decide +kernel
theorem dX6_resume_26 : decode cX6_resume 26 = .ok (.if_icmp .le 5, 3) := by decide +kernel
theorem dX6_resume_29 : decode cX6_resume 29 = .ok (.iconst (-1), 1) := by decide +kernel
theorem dX6_resume_30 : decode cX6_resume 30 = .ok (.ireturn, 1) := by decide +kernel
theorem dX6_resume_31 : decode cX6_resume 31 = .ok (.aload_n 0, 1) := by decide +kernel
theorem dX6_resume_32 : decode cX6_resume 32 = .ok (.iload_n 1, 1) := by decide +kernel
theorem dX6_resume_33 : decode cX6_resume 33 = .ok (.putfield 48, 3) := by decide +kernel
theorem dX6_resume_36 : decode cX6_resume 36 = .ok (.aload_n 0, 1) := by decide +kernel
theorem dX6_resume_37 : decode cX6_resume 37 = .ok (.iload_n 2, 1) := by decide +kernel
theorem dX6_resume_38 : decode cX6_resume 38 = .ok (.putfield 52, 3) := by decide +kernel
theorem dX6_resume_41 : decode cX6_resume 41 = .ok (.aload_n 0, 1) := by decide +kernel
theorem dX6_resume_42 : decode cX6_resume 42 = .ok (.iload_n 3, 1) := by decide +kernel
theorem dX6_resume_43 : decode cX6_resume 43 = .ok (.putfield 55, 3) := by decide +kernel
theorem dX6_resume_46 : decode cX6_resume 46 = .ok (.iconst 1, 1) := by decide +kernel
theorem dX6_resume_47 : decode cX6_resume 47 = .ok (.ireturn, 1) := by decide +kernel
set_option maxRecDepth 20000 in
theorem ggX6_next_X3_make : GoodIn wsX6_next wsX3_make := goodIn_r _ [10, 11, 12, 13, 14, 15, 16, 17, 18, 19, 20, 21, 22, 23, 24, 25, 26, 27, 28, 29, 30, 31, 32, 33, 34, 9, 35, 36, 37, 38, 39, 40, 41, 42, 43, 44, 45, 46, 47, 48, 49, 50, 51, 52, 53, 54, 55, 56, 57, 58, 59, 60, 61, 62, 63, 64, 65, 66, 67, 68, 69, 70, 71, 72, 73, 74, 75, 76, 77, 78, 79, 80, 81, 82, 83, 84, 85, 86, 87, 88, 89, 90, 91, 92, 93, 94, 95, 96, 97, 98, 99, 100, 101, 102, 103, 104, 105, 106, 107, 108, 109, 110, 111, 112, 113, 114, 115, 116, 117, 118, 119, 120, 121, 122, 123, 124, 125, 126, 143, 144, 145, 146, 147, 148, 149, 150, 151, 152, 139, 140, 141, 142, 153, 154, 155, 156, 157, 158, 159, 160, 161, 162, 163] (by decide +kernel) (by decide +kernel)
set_option maxRecDepth 20000 in
theorem gX6_next_X3_make : GoodIn wsX6_next (wsV RX6 155 RX3 yX3_make wsX3_make) := goodIn_app (goodIn_of _ (by decide +kernel)) ggX6_next_X3_make
set_option maxRecDepth 20000 in
theorem ggX6_next_X3_rowAt : GoodIn wsX6_next wsX3_rowAt := goodIn_r _ [130, 16, 58, 143, 144, 145, 146, 147, 148, 149, 150, 151, 152] (by decide +kernel) (by decide +kernel)
set_option maxRecDepth 20000 in
theorem gX6_next_X3_rowAt : GoodIn wsX6_next (wsV RX6 165 RX3 yX3_rowAt wsX3_rowAt) := goodIn_app (goodIn_of _ (by decide +kernel)) ggX6_next_X3_rowAt
theorem dX6_next_0 : decode cX6_next 0 = .ok (.aload_n 0, 1) := by decide +kernel
theorem dX6_next_1 : decode cX6_next 1 = .ok (.getfield 10, 3) := by decide +kernel
theorem dX6_next_4 : decode cX6_next 4 = .ok (.getfield 143, 3) := by decide +kernel
theorem dX6_next_7 : decode cX6_next 7 = .ok (.ifCond .ne 6, 3) := by decide +kernel
theorem dX6_next_10 : decode cX6_next 10 = .ok (.bipush (-3), 2) := by decide +kernel
theorem dX6_next_12 : decode cX6_next 12 = .ok (.ireturn, 1) := by decide +kernel
theorem dX6_next_13 : decode cX6_next 13 = .ok (.aload_n 0, 1) := by decide +kernel
theorem dX6_next_14 : decode cX6_next 14 = .ok (.getfield 52, 3) := by decide +kernel
theorem dX6_next_17 : decode cX6_next 17 = .ok (.istore_n 1, 1) := by decide +kernel
theorem dX6_next_18 : decode cX6_next 18 = .ok (.aload_n 0, 1) := by decide +kernel
theorem dX6_next_19 : decode cX6_next 19 = .ok (.getfield 55, 3) := by decide +kernel
theorem dX6_next_22 : decode cX6_next 22 = .ok (.istore_n 2, 1) := by decide +kernel
theorem dX6_next_23 : decode cX6_next 23 = .ok (.iload_n 2, 1) := by decide +kernel
theorem dX6_next_24 : decode cX6_next 24 = .ok (.aload_n 0, 1) := by decide +kernel
theorem dX6_next_25 : decode cX6_next 25 = .ok (.getfield 10, 3) := by decide +kernel
theorem dX6_next_28 : decode cX6_next 28 = .ok (.getfield 143, 3) := by decide +kernel
theorem dX6_next_31 : decode cX6_next 31 = .ok (.if_icmp .lt 20, 3) := by decide +kernel
theorem dX6_next_34 : decode cX6_next 34 = .ok (.iload_n 1, 1) := by decide +kernel
theorem dX6_next_35 : decode cX6_next 35 = .ok (.sipush 1000, 3) := by decide +kernel
theorem dX6_next_38 : decode cX6_next 38 = .ok (.if_icmp .lt 7, 3) := by decide +kernel
theorem dX6_next_41 : decode cX6_next 41 = .ok (.iconst 0, 1) := by decide +kernel
theorem dX6_next_42 : decode cX6_next 42 = .ok (.goto 6, 3) := by decide +kernel
theorem dX6_next_45 : decode cX6_next 45 = .ok (.iload_n 1, 1) := by decide +kernel
theorem dX6_next_46 : decode cX6_next 46 = .ok (.iconst 1, 1) := by decide +kernel
theorem dX6_next_47 : decode cX6_next 47 = .ok (.iadd, 1) := by decide +kernel
theorem dX6_next_48 : decode cX6_next 48 = .ok (.istore_n 1, 1) := by decide +kernel
theorem dX6_next_49 : decode cX6_next 49 = .ok (.iconst 0, 1) := by decide +kernel
theorem dX6_next_50 : decode cX6_next 50 = .ok (.istore_n 2, 1) := by decide +kernel
theorem dX6_next_51 : decode cX6_next 51 = .ok (.aload_n 0, 1) := by decide +kernel
theorem dX6_next_52 : decode cX6_next 52 = .ok (.getfield 35, 3) := by decide +kernel
theorem dX6_next_55 : decode cX6_next 55 = .ok (.aload_n 0, 1) := by decide +kernel
theorem dX6_next_56 : decode cX6_next 56 = .ok (.getfield 48, 3) := by decide +kernel
theorem dX6_next_59 : decode cX6_next 59 = .ok (.iload_n 1, 1) := by decide +kernel
theorem dX6_next_60 : decode cX6_next 60 = .ok (.invokevirtual 155, 3) := by decide +kernel
theorem dX6_next_63 : decode cX6_next 63 = .ok (.ifCond .ne 6, 3) := by decide +kernel
theorem dX6_next_66 : decode cX6_next 66 = .ok (.bipush (-16), 2) := by decide +kernel
theorem dX6_next_68 : decode cX6_next 68 = .ok (.ireturn, 1) := by decide +kernel
theorem dX6_next_69 : decode cX6_next 69 = .ok (.aload_n 0, 1) := by decide +kernel
theorem dX6_next_70 : decode cX6_next 70 = .ok (.iload_n 1, 1) := by decide +kernel
theorem dX6_next_71 : decode cX6_next 71 = .ok (.putfield 52, 3) := by decide +kernel
theorem dX6_next_74 : decode cX6_next 74 = .ok (.aload_n 0, 1) := by decide +kernel
theorem dX6_next_75 : decode cX6_next 75 = .ok (.iload_n 2, 1) := by decide +kernel
theorem dX6_next_76 : decode cX6_next 76 = .ok (.iconst 1, 1) := by decide +kernel
theorem dX6_next_77 : decode cX6_next 77 = .ok (.iadd, 1) := by decide +kernel
theorem dX6_next_78 : decode cX6_next 78 = .ok (.putfield 55, 3) := by decide +kernel
theorem dX6_next_81 : decode cX6_next 81 = .ok (.aload_n 0, 1) := by decide +kernel
theorem dX6_next_82 : decode cX6_next 82 = .ok (.getfield 35, 3) := by decide +kernel
theorem dX6_next_85 : decode cX6_next 85 = .ok (.iload_n 2, 1) := by decide +kernel
theorem dX6_next_86 : decode cX6_next 86 = .ok (.invokevirtual 165, 3) := by decide +kernel
theorem dX6_next_89 : decode cX6_next 89 = .ok (.ireturn, 1) := by decide +kernel
theorem dX6_at_0 : decode cX6_at 0 = .ok (.iload_n 1, 1) := by decide +kernel
theorem dX6_at_1 : decode cX6_at 1 = .ok (.tableswitch 42 0 2 #[27, 32, 37], 27) := by decide +kernel
theorem dX6_at_28 : decode cX6_at 28 = .ok (.aload_n 0, 1) := by decide +kernel
theorem dX6_at_29 : decode cX6_at 29 = .ok (.getfield 48, 3) := by decide +kernel
theorem dX6_at_32 : decode cX6_at 32 = .ok (.ireturn, 1) := by decide +kernel
theorem dX6_at_33 : decode cX6_at 33 = .ok (.aload_n 0, 1) := by decide +kernel
theorem dX6_at_34 : decode cX6_at 34 = .ok (.getfield 52, 3) := by decide +kernel
theorem dX6_at_37 : decode cX6_at 37 = .ok (.ireturn, 1) := by decide +kernel
theorem dX6_at_38 : decode cX6_at 38 = .ok (.aload_n 0, 1) := by decide +kernel
theorem dX6_at_39 : decode cX6_at 39 = .ok (.getfield 55, 3) := by decide +kernel
theorem dX6_at_42 : decode cX6_at 42 = .ok (.ireturn, 1) := by decide +kernel
theorem dX6_at_43 : decode cX6_at 43 = .ok (.iconst (-1), 1) := by decide +kernel
theorem dX6_at_44 : decode cX6_at 44 = .ok (.ireturn, 1) := by decide +kernel
set_option maxRecDepth 20000 in
theorem ggX6_act_X4_find : GoodIn wsX6_act wsX4_find := goodIn_r _ [9, 10, 11, 12, 13, 8, 14, 15, 128, 129, 130, 131] (by decide +kernel) (by decide +kernel)
set_option maxRecDepth 20000 in
theorem gX6_act_X4_find : GoodIn wsX6_act (wsV RX6 76 RX4 yX4_find wsX4_find) := goodIn_app (goodIn_of _ (by decide +kernel)) ggX6_act_X4_find
set_option maxRecDepth 20000 in
theorem ggX6_act_X6_isRound : GoodIn wsX6_act wsX6_isRound := goodIn_r _ [19] (by decide +kernel) (by decide +kernel)
set_option maxRecDepth 20000 in
theorem gX6_act_X6_isRound : GoodIn wsX6_act (va_wsS RX6 152 yX6_isRound wsX6_isRound) := goodIn_app (goodIn_of _ (by decide +kernel)) ggX6_act_X6_isRound
set_option maxRecDepth 20000 in
theorem ggX6_act_X0_allows : GoodIn wsX6_act wsX0_allows := goodIn_r _ [23] (by decide +kernel) (by decide +kernel)
set_option maxRecDepth 20000 in
theorem gX6_act_X0_allows : GoodIn wsX6_act (va_wsS RX6 168 yX0_allows wsX0_allows) := goodIn_app (goodIn_of _ (by decide +kernel)) ggX6_act_X0_allows
set_option maxRecDepth 20000 in
theorem ggX6_act_X0_failure : GoodIn wsX6_act wsX0_failure := goodIn_r _ [26, 27, 28, 22, 29, 30, 31, 32, 123, 124, 125, 126, 127] (by decide +kernel) (by decide +kernel)
set_option maxRecDepth 20000 in
theorem gX6_act_X0_failure : GoodIn wsX6_act (va_wsS RX6 171 yX0_failure wsX0_failure) := goodIn_app (goodIn_of _ (by decide +kernel)) ggX6_act_X0_failure
set_option maxRecDepth 20000 in
theorem ggX6_act_X2_begin : GoodIn wsX6_act wsX2_begin := goodIn_r _ [37, 38, 132] (by decide +kernel) (by decide +kernel)
set_option maxRecDepth 20000 in
theorem gX6_act_X2_begin : GoodIn wsX6_act (wsV RX6 175 RX2 yX2_begin wsX2_begin) := goodIn_app (goodIn_of _ (by decide +kernel)) ggX6_act_X2_begin
set_option maxRecDepth 20000 in
theorem ggX6_act_X2_key : GoodIn wsX6_act wsX2_key := goodIn_r _ [42, 38, 43, 44, 45, 36, 46, 47, 48, 132] (by decide +kernel) (by decide +kernel)
set_option maxRecDepth 20000 in
theorem gX6_act_X2_key : GoodIn wsX6_act (wsV RX6 179 RX2 yX2_key wsX2_key) := goodIn_app (goodIn_of _ (by decide +kernel)) ggX6_act_X2_key
set_option maxRecDepth 20000 in
theorem ggX6_act_X0_alter : GoodIn wsX6_act wsX0_alter := goodIn_r _ [51, 52, 53, 54, 36, 55, 38, 43, 44, 45, 46, 47, 48, 56, 57, 22, 58, 59, 60, 61, 62, 63, 64, 65, 66, 67, 68, 69, 70, 71, 72, 73, 74, 75, 76, 77, 78, 79, 80, 81, 82, 83, 84, 85, 86, 87, 88, 89, 90, 91, 92, 93, 94, 95, 96, 97, 98, 99, 100, 101, 102, 103, 104, 105, 106, 107, 108, 109, 132, 123, 124, 125, 126, 127] (by decide +kernel) (by decide +kernel)
set_option maxRecDepth 20000 in
theorem gX6_act_X0_alter : GoodIn wsX6_act (va_wsS RX6 182 yX0_alter wsX0_alter) := goodIn_app (goodIn_of _ (by decide +kernel)) ggX6_act_X0_alter
theorem dX6_act_0 : decode cX6_act 0 = .ok (.aload_n 0, 1) := by decide +kernel
theorem dX6_act_1 : decode cX6_act 1 = .ok (.getfield 10, 3) := by decide +kernel
theorem dX6_act_4 : decode cX6_act 4 = .ok (.iload_n 2, 1) := by decide +kernel
theorem dX6_act_5 : decode cX6_act 5 = .ok (.invokevirtual 76, 3) := by decide +kernel
theorem dX6_act_8 : decode cX6_act 8 = .ok (.astore 5, 2) := by decide +kernel
theorem dX6_act_10 : decode cX6_act 10 = .ok (.aload 5, 2) := by decide +kernel
theorem dX6_act_12 : decode cX6_act 12 = .ok (.ifnull 19, 3) := by decide +kernel
theorem dX6_act_15 : decode cX6_act 15 = .ok (.iload_n 3, 1) := by decide +kernel
theorem dX6_act_16 : decode cX6_act 16 = .ok (.invokestatic 152, 3) := by decide +kernel
theorem dX6_act_19 : decode cX6_act 19 = .ok (.ifCond .eq 12, 3) := by decide +kernel
theorem dX6_act_22 : decode cX6_act 22 = .ok (.iload_n 1, 1) := by decide +kernel
theorem dX6_act_23 : decode cX6_act 23 = .ok (.iload 4, 2) := by decide +kernel
theorem dX6_act_25 : decode cX6_act 25 = .ok (.invokestatic 168, 3) := by decide +kernel
theorem dX6_act_28 : decode cX6_act 28 = .ok (.ifCond .ne 5, 3) := by decide +kernel
theorem dX6_act_31 : decode cX6_act 31 = .ok (.iconst (-1), 1) := by decide +kernel
theorem dX6_act_32 : decode cX6_act 32 = .ok (.ireturn, 1) := by decide +kernel
theorem dX6_act_33 : decode cX6_act 33 = .ok (.iload_n 1, 1) := by decide +kernel
theorem dX6_act_34 : decode cX6_act 34 = .ok (.aload 5, 2) := by decide +kernel
theorem dX6_act_36 : decode cX6_act 36 = .ok (.iload 4, 2) := by decide +kernel
theorem dX6_act_38 : decode cX6_act 38 = .ok (.invokestatic 171, 3) := by decide +kernel
theorem dX6_act_41 : decode cX6_act 41 = .ok (.istore 6, 2) := by decide +kernel
theorem dX6_act_43 : decode cX6_act 43 = .ok (.iload 6, 2) := by decide +kernel
theorem dX6_act_45 : decode cX6_act 45 = .ok (.ifCond .eq 6, 3) := by decide +kernel
theorem dX6_act_48 : decode cX6_act 48 = .ok (.iload 6, 2) := by decide +kernel
theorem dX6_act_50 : decode cX6_act 50 = .ok (.ireturn, 1) := by decide +kernel
theorem dX6_act_51 : decode cX6_act 51 = .ok (.aload_n 0, 1) := by decide +kernel
theorem dX6_act_52 : decode cX6_act 52 = .ok (.getfield 26, 3) := by decide +kernel
theorem dX6_act_55 : decode cX6_act 55 = .ok (.aload_n 0, 1) := by decide +kernel
theorem dX6_act_56 : decode cX6_act 56 = .ok (.getfield 19, 3) := by decide +kernel
theorem dX6_act_59 : decode cX6_act 59 = .ok (.getfield 122, 3) := by decide +kernel
theorem dX6_act_62 : decode cX6_act 62 = .ok (.invokevirtual 175, 3) := by decide +kernel
theorem dX6_act_65 : decode cX6_act 65 = .ok (.aload_n 0, 1) := by decide +kernel
theorem dX6_act_66 : decode cX6_act 66 = .ok (.getfield 26, 3) := by decide +kernel
theorem dX6_act_69 : decode cX6_act 69 = .ok (.iconst 5, 1) := by decide +kernel
theorem dX6_act_70 : decode cX6_act 70 = .ok (.invokevirtual 179, 3) := by decide +kernel
theorem dX6_act_73 : decode cX6_act 73 = .ok (.aload_n 0, 1) := by decide +kernel
theorem dX6_act_74 : decode cX6_act 74 = .ok (.getfield 26, 3) := by decide +kernel
theorem dX6_act_77 : decode cX6_act 77 = .ok (.iload_n 2, 1) := by decide +kernel
theorem dX6_act_78 : decode cX6_act 78 = .ok (.invokevirtual 179, 3) := by decide +kernel
theorem dX6_act_81 : decode cX6_act 81 = .ok (.aload_n 0, 1) := by decide +kernel
theorem dX6_act_82 : decode cX6_act 82 = .ok (.getfield 26, 3) := by decide +kernel
theorem dX6_act_85 : decode cX6_act 85 = .ok (.iload_n 3, 1) := by decide +kernel
theorem dX6_act_86 : decode cX6_act 86 = .ok (.invokevirtual 179, 3) := by decide +kernel
theorem dX6_act_89 : decode cX6_act 89 = .ok (.aload_n 0, 1) := by decide +kernel
theorem dX6_act_90 : decode cX6_act 90 = .ok (.getfield 26, 3) := by decide +kernel
theorem dX6_act_93 : decode cX6_act 93 = .ok (.iload_n 1, 1) := by decide +kernel
theorem dX6_act_94 : decode cX6_act 94 = .ok (.invokevirtual 179, 3) := by decide +kernel
theorem dX6_act_97 : decode cX6_act 97 = .ok (.iload_n 1, 1) := by decide +kernel
theorem dX6_act_98 : decode cX6_act 98 = .ok (.aload 5, 2) := by decide +kernel
theorem dX6_act_100 : decode cX6_act 100 = .ok (.iload 4, 2) := by decide +kernel
theorem dX6_act_102 : decode cX6_act 102 = .ok (.aload_n 0, 1) := by decide +kernel
theorem dX6_act_103 : decode cX6_act 103 = .ok (.getfield 26, 3) := by decide +kernel
theorem dX6_act_106 : decode cX6_act 106 = .ok (.aload_n 0, 1) := by decide +kernel
theorem dX6_act_107 : decode cX6_act 107 = .ok (.getfield 44, 3) := by decide +kernel
theorem dX6_act_110 : decode cX6_act 110 = .ok (.invokestatic 182, 3) := by decide +kernel
theorem dX6_act_113 : decode cX6_act 113 = .ok (.aload_n 0, 1) := by decide +kernel
theorem dX6_act_114 : decode cX6_act 114 = .ok (.getfield 44, 3) := by decide +kernel
theorem dX6_act_117 : decode cX6_act 117 = .ok (.getfield 83, 3) := by decide +kernel
theorem dX6_act_120 : decode cX6_act 120 = .ok (.ireturn, 1) := by decide +kernel
set_option maxRecDepth 20000 in
theorem ggX6_out_X1_holds : GoodIn wsX6_out wsX1_holds := goodIn_r _ [6, 7, 8, 22, 23, 24, 25, 26] (by decide +kernel) (by decide +kernel)
set_option maxRecDepth 20000 in
theorem gX6_out_X1_holds : GoodIn wsX6_out (wsV RX6 89 RX1 yX1_holds wsX1_holds) := goodIn_app (goodIn_of _ (by decide +kernel)) ggX6_out_X1_holds
set_option maxRecDepth 20000 in
theorem ggX6_out_X1_item : GoodIn wsX6_out wsX1_item := goodIn_r _ [12, 8, 13, 3, 4, 5, 6, 7, 22, 23, 24, 25, 26] (by decide +kernel) (by decide +kernel)
set_option maxRecDepth 20000 in
theorem gX6_out_X1_item : GoodIn wsX6_out (wsV RX6 186 RX1 yX1_item wsX1_item) := goodIn_app (goodIn_of _ (by decide +kernel)) ggX6_out_X1_item
theorem dX6_out_0 : decode cX6_out 0 = .ok (.aload_n 0, 1) := by decide +kernel
theorem dX6_out_1 : decode cX6_out 1 = .ok (.getfield 44, 3) := by decide +kernel
theorem dX6_out_4 : decode cX6_out 4 = .ok (.getfield 80, 3) := by decide +kernel
theorem dX6_out_7 : decode cX6_out 7 = .ok (.iconst 2, 1) := by decide +kernel
theorem dX6_out_8 : decode cX6_out 8 = .ok (.if_icmp .ne 6, 3) := by decide +kernel
theorem dX6_out_11 : decode cX6_out 11 = .ok (.bipush (-11), 2) := by decide +kernel
theorem dX6_out_13 : decode cX6_out 13 = .ok (.ireturn, 1) := by decide +kernel
theorem dX6_out_14 : decode cX6_out 14 = .ok (.iload_n 1, 1) := by decide +kernel
theorem dX6_out_15 : decode cX6_out 15 = .ok (.tableswitch 49 (-3) (-1) #[41, 33, 25], 25) := by decide +kernel
theorem dX6_out_40 : decode cX6_out 40 = .ok (.aload_n 0, 1) := by decide +kernel
theorem dX6_out_41 : decode cX6_out 41 = .ok (.getfield 44, 3) := by decide +kernel
theorem dX6_out_44 : decode cX6_out 44 = .ok (.getfield 83, 3) := by decide +kernel
theorem dX6_out_47 : decode cX6_out 47 = .ok (.ireturn, 1) := by decide +kernel
theorem dX6_out_48 : decode cX6_out 48 = .ok (.aload_n 0, 1) := by decide +kernel
theorem dX6_out_49 : decode cX6_out 49 = .ok (.getfield 44, 3) := by decide +kernel
theorem dX6_out_52 : decode cX6_out 52 = .ok (.getfield 116, 3) := by decide +kernel
theorem dX6_out_55 : decode cX6_out 55 = .ok (.ireturn, 1) := by decide +kernel
theorem dX6_out_56 : decode cX6_out 56 = .ok (.aload_n 0, 1) := by decide +kernel
theorem dX6_out_57 : decode cX6_out 57 = .ok (.getfield 44, 3) := by decide +kernel
theorem dX6_out_60 : decode cX6_out 60 = .ok (.getfield 119, 3) := by decide +kernel
theorem dX6_out_63 : decode cX6_out 63 = .ok (.ireturn, 1) := by decide +kernel
theorem dX6_out_64 : decode cX6_out 64 = .ok (.aload_n 0, 1) := by decide +kernel
theorem dX6_out_65 : decode cX6_out 65 = .ok (.getfield 44, 3) := by decide +kernel
theorem dX6_out_68 : decode cX6_out 68 = .ok (.iload_n 1, 1) := by decide +kernel
theorem dX6_out_69 : decode cX6_out 69 = .ok (.invokevirtual 89, 3) := by decide +kernel
theorem dX6_out_72 : decode cX6_out 72 = .ok (.ifCond .eq 14, 3) := by decide +kernel
theorem dX6_out_75 : decode cX6_out 75 = .ok (.aload_n 0, 1) := by decide +kernel
theorem dX6_out_76 : decode cX6_out 76 = .ok (.getfield 44, 3) := by decide +kernel
theorem dX6_out_79 : decode cX6_out 79 = .ok (.iload_n 1, 1) := by decide +kernel
theorem dX6_out_80 : decode cX6_out 80 = .ok (.invokevirtual 186, 3) := by decide +kernel
theorem dX6_out_83 : decode cX6_out 83 = .ok (.goto 5, 3) := by decide +kernel
theorem dX6_out_86 : decode cX6_out 86 = .ok (.bipush (-13), 2) := by decide +kernel
theorem dX6_out_88 : decode cX6_out 88 = .ok (.ireturn, 1) := by decide +kernel
set_option maxRecDepth 20000 in
theorem ggX6_like_X4_find : GoodIn wsX6_like wsX4_find := goodIn_r _ [7, 8, 9, 10, 11, 6, 12, 13, 40, 41, 42, 43] (by decide +kernel) (by decide +kernel)
set_option maxRecDepth 20000 in
theorem gX6_like_X4_find : GoodIn wsX6_like (wsV RX6 76 RX4 yX4_find wsX4_find) := goodIn_app (goodIn_of _ (by decide +kernel)) ggX6_like_X4_find
set_option maxRecDepth 20000 in
theorem ggX6_like_X1_isLike : GoodIn wsX6_like wsX1_isLike := goodIn_r _ [18, 19, 20, 21, 22, 23, 24, 25, 17, 26, 27, 28, 29, 30, 31, 44, 45, 46, 47, 48] (by decide +kernel) (by decide +kernel)
set_option maxRecDepth 20000 in
theorem gX6_like_X1_isLike : GoodIn wsX6_like (wsV RX6 189 RX1 yX1_isLike wsX1_isLike) := goodIn_app (goodIn_of _ (by decide +kernel)) ggX6_like_X1_isLike
theorem dX6_like_0 : decode cX6_like 0 = .ok (.aload_n 0, 1) := by decide +kernel
theorem dX6_like_1 : decode cX6_like 1 = .ok (.getfield 10, 3) := by decide +kernel
theorem dX6_like_4 : decode cX6_like 4 = .ok (.iload_n 1, 1) := by decide +kernel
theorem dX6_like_5 : decode cX6_like 5 = .ok (.invokevirtual 76, 3) := by decide +kernel
theorem dX6_like_8 : decode cX6_like 8 = .ok (.astore_n 2, 1) := by decide +kernel
theorem dX6_like_9 : decode cX6_like 9 = .ok (.aload_n 2, 1) := by decide +kernel
theorem dX6_like_10 : decode cX6_like 10 = .ok (.ifnonnull 5, 3) := by decide +kernel
theorem dX6_like_13 : decode cX6_like 13 = .ok (.iconst (-1), 1) := by decide +kernel
theorem dX6_like_14 : decode cX6_like 14 = .ok (.ireturn, 1) := by decide +kernel
theorem dX6_like_15 : decode cX6_like 15 = .ok (.aload_n 2, 1) := by decide +kernel
theorem dX6_like_16 : decode cX6_like 16 = .ok (.aload_n 0, 1) := by decide +kernel
theorem dX6_like_17 : decode cX6_like 17 = .ok (.getfield 44, 3) := by decide +kernel
theorem dX6_like_20 : decode cX6_like 20 = .ok (.invokevirtual 189, 3) := by decide +kernel
theorem dX6_like_23 : decode cX6_like 23 = .ok (.ifCond .eq 7, 3) := by decide +kernel
theorem dX6_like_26 : decode cX6_like 26 = .ok (.iconst 1, 1) := by decide +kernel
theorem dX6_like_27 : decode cX6_like 27 = .ok (.goto 4, 3) := by decide +kernel
theorem dX6_like_30 : decode cX6_like 30 = .ok (.iconst 0, 1) := by decide +kernel
theorem dX6_like_31 : decode cX6_like 31 = .ok (.ireturn, 1) := by decide +kernel
set_option maxRecDepth 20000 in
theorem ggX6_rowInBatch_X5_batchesOf : GoodIn wsX6_rowInBatch wsX5_batchesOf := goodIn_r _ [8, 9, 10, 30, 31, 32, 33, 34] (by decide +kernel) (by decide +kernel)
set_option maxRecDepth 20000 in
theorem gX6_rowInBatch_X5_batchesOf : GoodIn wsX6_rowInBatch (wsV RX6 146 RX5 yX5_batchesOf wsX5_batchesOf) := goodIn_app (goodIn_of _ (by decide +kernel)) ggX6_rowInBatch_X5_batchesOf
set_option maxRecDepth 20000 in
theorem ggX6_rowInBatch_X3_rowAt : GoodIn wsX6_rowInBatch wsX3_rowAt := goodIn_r _ [15, 16, 17, 35, 36, 37, 38, 39, 40, 41, 42, 43, 44] (by decide +kernel) (by decide +kernel)
set_option maxRecDepth 20000 in
theorem gX6_rowInBatch_X3_rowAt : GoodIn wsX6_rowInBatch (wsV RX6 165 RX3 yX3_rowAt wsX3_rowAt) := goodIn_app (goodIn_of _ (by decide +kernel)) ggX6_rowInBatch_X3_rowAt
theorem dX6_rowInBatch_0 : decode cX6_rowInBatch 0 = .ok (.iload_n 1, 1) := by decide +kernel
theorem dX6_rowInBatch_1 : decode cX6_rowInBatch 1 = .ok (.aload_n 0, 1) := by decide +kernel
theorem dX6_rowInBatch_2 : decode cX6_rowInBatch 2 = .ok (.getfield 19, 3) := by decide +kernel
theorem dX6_rowInBatch_5 : decode cX6_rowInBatch 5 = .ok (.aload_n 0, 1) := by decide +kernel
theorem dX6_rowInBatch_6 : decode cX6_rowInBatch 6 = .ok (.getfield 10, 3) := by decide +kernel
theorem dX6_rowInBatch_9 : decode cX6_rowInBatch 9 = .ok (.getfield 143, 3) := by decide +kernel
theorem dX6_rowInBatch_12 : decode cX6_rowInBatch 12 = .ok (.invokevirtual 146, 3) := by decide +kernel
theorem dX6_rowInBatch_15 : decode cX6_rowInBatch 15 = .ok (.if_icmp .ge 16, 3) := by decide +kernel
theorem dX6_rowInBatch_18 : decode cX6_rowInBatch 18 = .ok (.lload_n 2, 1) := by decide +kernel
theorem dX6_rowInBatch_19 : decode cX6_rowInBatch 19 = .ok (.aload_n 0, 1) := by decide +kernel
theorem dX6_rowInBatch_20 : decode cX6_rowInBatch 20 = .ok (.getfield 19, 3) := by decide +kernel
theorem dX6_rowInBatch_23 : decode cX6_rowInBatch 23 = .ok (.getfield 133, 3) := by decide +kernel
theorem dX6_rowInBatch_26 : decode cX6_rowInBatch 26 = .ok (.i2l, 1) := by decide +kernel
theorem dX6_rowInBatch_27 : decode cX6_rowInBatch 27 = .ok (.lcmp, 1) := by decide +kernel
theorem dX6_rowInBatch_28 : decode cX6_rowInBatch 28 = .ok (.ifCond .lt 6, 3) := by decide +kernel
theorem dX6_rowInBatch_31 : decode cX6_rowInBatch 31 = .ok (.bipush (-3), 2) := by decide +kernel
theorem dX6_rowInBatch_33 : decode cX6_rowInBatch 33 = .ok (.ireturn, 1) := by decide +kernel
theorem dX6_rowInBatch_34 : decode cX6_rowInBatch 34 = .ok (.aload_n 0, 1) := by decide +kernel
theorem dX6_rowInBatch_35 : decode cX6_rowInBatch 35 = .ok (.getfield 35, 3) := by decide +kernel
theorem dX6_rowInBatch_38 : decode cX6_rowInBatch 38 = .ok (.iload_n 1, 1) := by decide +kernel
theorem dX6_rowInBatch_39 : decode cX6_rowInBatch 39 = .ok (.aload_n 0, 1) := by decide +kernel
theorem dX6_rowInBatch_40 : decode cX6_rowInBatch 40 = .ok (.getfield 19, 3) := by decide +kernel
theorem dX6_rowInBatch_43 : decode cX6_rowInBatch 43 = .ok (.getfield 133, 3) := by decide +kernel
theorem dX6_rowInBatch_46 : decode cX6_rowInBatch 46 = .ok (.imul, 1) := by decide +kernel
theorem dX6_rowInBatch_47 : decode cX6_rowInBatch 47 = .ok (.lload_n 2, 1) := by decide +kernel
theorem dX6_rowInBatch_48 : decode cX6_rowInBatch 48 = .ok (.l2i, 1) := by decide +kernel
theorem dX6_rowInBatch_49 : decode cX6_rowInBatch 49 = .ok (.iadd, 1) := by decide +kernel
theorem dX6_rowInBatch_50 : decode cX6_rowInBatch 50 = .ok (.invokevirtual 165, 3) := by decide +kernel
theorem dX6_rowInBatch_53 : decode cX6_rowInBatch 53 = .ok (.ireturn, 1) := by decide +kernel
theorem dX6_isLabel_0 : decode cX6_isLabel 0 = .ok (.iload_n 0, 1) := by decide +kernel
theorem dX6_isLabel_1 : decode cX6_isLabel 1 = .ok (.ifCond .lt 13, 3) := by decide +kernel
theorem dX6_isLabel_4 : decode cX6_isLabel 4 = .ok (.iload_n 0, 1) := by decide +kernel
theorem dX6_isLabel_5 : decode cX6_isLabel 5 = .ok (.bipush 8, 2) := by decide +kernel
theorem dX6_isLabel_7 : decode cX6_isLabel 7 = .ok (.if_icmp .ge 7, 3) := by decide +kernel
theorem dX6_isLabel_10 : decode cX6_isLabel 10 = .ok (.iconst 1, 1) := by decide +kernel
theorem dX6_isLabel_11 : decode cX6_isLabel 11 = .ok (.goto 4, 3) := by decide +kernel
theorem dX6_isLabel_14 : decode cX6_isLabel 14 = .ok (.iconst 0, 1) := by decide +kernel
theorem dX6_isLabel_15 : decode cX6_isLabel 15 = .ok (.ireturn, 1) := by decide +kernel
theorem dX6_isWeight_0 : decode cX6_isWeight 0 = .ok (.iload_n 0, 1) := by decide +kernel
theorem dX6_isWeight_1 : decode cX6_isWeight 1 = .ok (.ifCond .lt 14, 3) := by decide +kernel
theorem dX6_isWeight_4 : decode cX6_isWeight 4 = .ok (.iload_n 0, 1) := by decide +kernel
theorem dX6_isWeight_5 : decode cX6_isWeight 5 = .ok (.sipush 1000, 3) := by decide +kernel
theorem dX6_isWeight_8 : decode cX6_isWeight 8 = .ok (.if_icmp .gt 7, 3) := by decide +kernel
theorem dX6_isWeight_11 : decode cX6_isWeight 11 = .ok (.iconst 1, 1) := by decide +kernel
theorem dX6_isWeight_12 : decode cX6_isWeight 12 = .ok (.goto 4, 3) := by decide +kernel
theorem dX6_isWeight_15 : decode cX6_isWeight 15 = .ok (.iconst 0, 1) := by decide +kernel
theorem dX6_isWeight_16 : decode cX6_isWeight 16 = .ok (.ireturn, 1) := by decide +kernel
theorem dX6_isSide_0 : decode cX6_isSide 0 = .ok (.iload_n 0, 1) := by decide +kernel
theorem dX6_isSide_1 : decode cX6_isSide 1 = .ok (.iconst 1, 1) := by decide +kernel
theorem dX6_isSide_2 : decode cX6_isSide 2 = .ok (.if_icmp .lt 13, 3) := by decide +kernel
theorem dX6_isSide_5 : decode cX6_isSide 5 = .ok (.iload_n 0, 1) := by decide +kernel
theorem dX6_isSide_6 : decode cX6_isSide 6 = .ok (.bipush 40, 2) := by decide +kernel
theorem dX6_isSide_8 : decode cX6_isSide 8 = .ok (.if_icmp .gt 7, 3) := by decide +kernel
theorem dX6_isSide_11 : decode cX6_isSide 11 = .ok (.iconst 1, 1) := by decide +kernel
theorem dX6_isSide_12 : decode cX6_isSide 12 = .ok (.goto 4, 3) := by decide +kernel
theorem dX6_isSide_15 : decode cX6_isSide 15 = .ok (.iconst 0, 1) := by decide +kernel
theorem dX6_isSide_16 : decode cX6_isSide 16 = .ok (.ireturn, 1) := by decide +kernel
theorem dX6_isWay_0 : decode cX6_isWay 0 = .ok (.iload_n 0, 1) := by decide +kernel
theorem dX6_isWay_1 : decode cX6_isWay 1 = .ok (.ifCond .lt 12, 3) := by decide +kernel
theorem dX6_isWay_4 : decode cX6_isWay 4 = .ok (.iload_n 0, 1) := by decide +kernel
theorem dX6_isWay_5 : decode cX6_isWay 5 = .ok (.iconst 4, 1) := by decide +kernel
theorem dX6_isWay_6 : decode cX6_isWay 6 = .ok (.if_icmp .gt 7, 3) := by decide +kernel
theorem dX6_isWay_9 : decode cX6_isWay 9 = .ok (.iconst 1, 1) := by decide +kernel
theorem dX6_isWay_10 : decode cX6_isWay 10 = .ok (.goto 4, 3) := by decide +kernel
theorem dX6_isWay_13 : decode cX6_isWay 13 = .ok (.iconst 0, 1) := by decide +kernel
theorem dX6_isWay_14 : decode cX6_isWay 14 = .ok (.ireturn, 1) := by decide +kernel
theorem dX6_isRound_0 : decode cX6_isRound 0 = .ok (.iload_n 0, 1) := by decide +kernel
theorem dX6_isRound_1 : decode cX6_isRound 1 = .ok (.ifCond .lt 14, 3) := by decide +kernel
theorem dX6_isRound_4 : decode cX6_isRound 4 = .ok (.iload_n 0, 1) := by decide +kernel
theorem dX6_isRound_5 : decode cX6_isRound 5 = .ok (.sipush 1000, 3) := by decide +kernel
theorem dX6_isRound_8 : decode cX6_isRound 8 = .ok (.if_icmp .gt 7, 3) := by decide +kernel
theorem dX6_isRound_11 : decode cX6_isRound 11 = .ok (.iconst 1, 1) := by decide +kernel
theorem dX6_isRound_12 : decode cX6_isRound 12 = .ok (.goto 4, 3) := by decide +kernel
theorem dX6_isRound_15 : decode cX6_isRound 15 = .ok (.iconst 0, 1) := by decide +kernel
theorem dX6_isRound_16 : decode cX6_isRound 16 = .ok (.ireturn, 1) := by decide +kernel
