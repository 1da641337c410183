theorem dX3_leastForTask_44 : decode cX3_leastForTask 44 = .ok (.iinc 3 1, 3) := by decide +kernel
theorem dX3_leastForTask_47 : decode cX3_leastForTask 47 = .ok (.goto (-45), 3) := by decide +kernel
theorem dX3_leastForTask_50 : decode cX3_leastForTask 50 = .ok (.iconst 0, 1) := by decide +kernel
theorem dX3_leastForTask_51 : decode cX3_leastForTask 51 = .ok (.ireturn, 1) := by decide +kernel
set_option maxRecDepth 20000 in
theorem ggX4_init_X0_init : GoodIn wsX4_init wsX0_init := goodIn_r _ [30, 31, 2, 3, 4, 32, 33, 34, 35, 70, 71, 72, 73] (by decide +kernel) (by decide +kernel)
set_option maxRecDepth 20000 in
theorem gX4_init_X0_init_n34 : GoodIn wsX4_init (wsX0_init) := ggX4_init_X0_init
set_option maxRecDepth 20000 in
theorem ggX4_init_X3_init : GoodIn wsX4_init wsX3_init := goodIn_r _ [37, 38, 2, 3, 4, 39, 40, 41, 74, 75, 76, 77] (by decide +kernel) (by decide +kernel)
set_option maxRecDepth 20000 in
theorem gX4_init_X3_init_n41 : GoodIn wsX4_init (wsX3_init) := ggX4_init_X3_init
set_option maxRecDepth 20000 in
theorem ggX4_init_X2_init : GoodIn wsX4_init wsX2_init := goodIn_r _ [43, 44, 2, 3, 4, 45, 46, 47, 48, 78, 79, 80, 81, 82, 83] (by decide +kernel) (by decide +kernel)
set_option maxRecDepth 20000 in
theorem gX4_init_X2_init_n48 : GoodIn wsX4_init (wsX2_init) := ggX4_init_X2_init
set_option maxRecDepth 20000 in
theorem ggX4_init_X1_init : GoodIn wsX4_init wsX1_init := goodIn_r _ [50, 51, 2, 3, 4, 52, 53, 34, 54, 55, 84, 85, 86, 87, 88, 89, 90] (by decide +kernel) (by decide +kernel)
set_option maxRecDepth 20000 in
theorem gX4_init_X1_init_n55 : GoodIn wsX4_init (wsX1_init) := ggX4_init_X1_init
theorem dX4_init_0 : decode cX4_init 0 = .ok (.aload_n 0, 1) := by decide +kernel
theorem dX4_init_1 : decode cX4_init 1 = .ok (.invokespecial 1, 3) := by decide +kernel
theorem dX4_init_4 : decode cX4_init 4 = .ok (.aload_n 0, 1) := by decide +kernel
theorem dX4_init_5 : decode cX4_init 5 = .ok (.bipush 101, 2) := by decide +kernel
theorem dX4_init_7 : decode cX4_init 7 = .ok (.newarray .int, 2) := by decide +kernel
theorem dX4_init_9 : decode cX4_init 9 = .ok (.putfield 9, 3) := by decide +kernel
theorem dX4_init_12 : decode cX4_init 12 = .ok (.aload_n 0, 1) := by decide +kernel
theorem dX4_init_13 : decode cX4_init 13 = .ok (.bipush 101, 2) := by decide +kernel
theorem dX4_init_15 : decode cX4_init 15 = .ok (.newarray .int, 2) := by decide +kernel
theorem dX4_init_17 : decode cX4_init 17 = .ok (.putfield 13, 3) := by decide +kernel
theorem dX4_init_20 : decode cX4_init 20 = .ok (.aload_n 0, 1) := by decide +kernel
theorem dX4_init_21 : decode cX4_init 21 = .ok (.bipush 101, 2) := by decide +kernel
theorem dX4_init_23 : decode cX4_init 23 = .ok (.newarray .int, 2) := by decide +kernel
theorem dX4_init_25 : decode cX4_init 25 = .ok (.putfield 16, 3) := by decide +kernel
theorem dX4_init_28 : decode cX4_init 28 = .ok (.aload_n 0, 1) := by decide +kernel
theorem dX4_init_29 : decode cX4_init 29 = .ok (.bipush 101, 2) := by decide +kernel
theorem dX4_init_31 : decode cX4_init 31 = .ok (.newarray .long, 2) := by decide +kernel
theorem dX4_init_33 : decode cX4_init 33 = .ok (.putfield 19, 3) := by decide +kernel
theorem dX4_init_36 : decode cX4_init 36 = .ok (.aload_n 0, 1) := by decide +kernel
theorem dX4_init_37 : decode cX4_init 37 = .ok (.bipush 20, 2) := by decide +kernel
theorem dX4_init_39 : decode cX4_init 39 = .ok (.newarray .int, 2) := by decide +kernel
theorem dX4_init_41 : decode cX4_init 41 = .ok (.putfield 23, 3) := by decide +kernel
theorem dX4_init_44 : decode cX4_init 44 = .ok (.aload_n 0, 1) := by decide +kernel
theorem dX4_init_45 : decode cX4_init 45 = .ok (.bipush 20, 2) := by decide +kernel
theorem dX4_init_47 : decode cX4_init 47 = .ok (.newarray .int, 2) := by decide +kernel
theorem dX4_init_49 : decode cX4_init 49 = .ok (.putfield 26, 3) := by decide +kernel
theorem dX4_init_52 : decode cX4_init 52 = .ok (.aload_n 0, 1) := by decide +kernel
theorem dX4_init_53 : decode cX4_init 53 = .ok (.bipush 20, 2) := by decide +kernel
theorem dX4_init_55 : decode cX4_init 55 = .ok (.newarray .int, 2) := by decide +kernel
theorem dX4_init_57 : decode cX4_init 57 = .ok (.putfield 29, 3) := by decide +kernel
theorem dX4_init_60 : decode cX4_init 60 = .ok (.aload_n 0, 1) := by decide +kernel
theorem dX4_init_61 : decode cX4_init 61 = .ok (.new 32, 3) := by decide +kernel
theorem dX4_init_64 : decode cX4_init 64 = .ok (.dup, 1) := by decide +kernel
theorem dX4_init_65 : decode cX4_init 65 = .ok (.invokespecial 34, 3) := by decide +kernel
theorem dX4_init_68 : decode cX4_init 68 = .ok (.putfield 35, 3) := by decide +kernel
theorem dX4_init_71 : decode cX4_init 71 = .ok (.aload_n 0, 1) := by decide +kernel
theorem dX4_init_72 : decode cX4_init 72 = .ok (.new 39, 3) := by decide +kernel
theorem dX4_init_75 : decode cX4_init 75 = .ok (.dup, 1) := by decide +kernel
theorem dX4_init_76 : decode cX4_init 76 = .ok (.invokespecial 41, 3) := by decide +kernel
theorem dX4_init_79 : decode cX4_init 79 = .ok (.putfield 42, 3) := by decide +kernel
theorem dX4_init_82 : decode cX4_init 82 = .ok (.aload_n 0, 1) := by decide +kernel
theorem dX4_init_83 : decode cX4_init 83 = .ok (.new 46, 3) := by decide +kernel
theorem dX4_init_86 : decode cX4_init 86 = .ok (.dup, 1) := by decide +kernel
theorem dX4_init_87 : decode cX4_init 87 = .ok (.invokespecial 48, 3) := by decide +kernel
theorem dX4_init_90 : decode cX4_init 90 = .ok (.putfield 49, 3) := by decide +kernel
theorem dX4_init_93 : decode cX4_init 93 = .ok (.aload_n 0, 1) := by decide +kernel
theorem dX4_init_94 : decode cX4_init 94 = .ok (.new 53, 3) := by decide +kernel
theorem dX4_init_97 : decode cX4_init 97 = .ok (.dup, 1) := by decide +kernel
theorem dX4_init_98 : decode cX4_init 98 = .ok (.invokespecial 55, 3) := by decide +kernel
theorem dX4_init_101 : decode cX4_init 101 = .ok (.putfield 56, 3) := by decide +kernel
theorem dX4_init_104 : decode cX4_init 104 = .ok (.return_, 1) := by decide +kernel
set_option maxRecDepth 20000 in
theorem ggX4_statement_X4_isParagraph : GoodIn wsX4_statement wsX4_isParagraph := goodIn_r _ [9] (by decide +kernel) (by decide +kernel)
set_option maxRecDepth 20000 in
theorem gX4_statement_X4_isParagraph : GoodIn wsX4_statement (va_wsS RX4 60 yX4_isParagraph wsX4_isParagraph) := goodIn_app (goodIn_of _ (by decide +kernel)) ggX4_statement_X4_isParagraph
set_option maxRecDepth 20000 in
theorem ggX4_statement_X4_extendParagraph : GoodIn wsX4_statement wsX4_extendParagraph := goodIn_r _ [13, 14, 1, 15, 16, 17, 18, 19, 20, 21, 22, 23, 24, 25, 26, 27, 28, 29] (by decide +kernel) (by decide +kernel)
set_option maxRecDepth 20000 in
theorem gX4_statement_X4_extendParagraph : GoodIn wsX4_statement (wsV RX4 68 RX4 yX4_extendParagraph wsX4_extendParagraph) := goodIn_app (goodIn_of _ (by decide +kernel)) ggX4_statement_X4_extendParagraph
theorem dX4_statement_0 : decode cX4_statement 0 = .ok (.iload_n 1, 1) := by decide +kernel
theorem dX4_statement_1 : decode cX4_statement 1 = .ok (.invokestatic 60, 3) := by decide +kernel
theorem dX4_statement_4 : decode cX4_statement 4 = .ok (.ifCond .eq 15, 3) := by decide +kernel
theorem dX4_statement_7 : decode cX4_statement 7 = .ok (.iload_n 2, 1) := by decide +kernel
theorem dX4_statement_8 : decode cX4_statement 8 = .ok (.iconst 1, 1) := by decide +kernel
theorem dX4_statement_9 : decode cX4_statement 9 = .ok (.if_icmp .lt 10, 3) := by decide +kernel
theorem dX4_statement_12 : decode cX4_statement 12 = .ok (.iload_n 2, 1) := by decide +kernel
theorem dX4_statement_13 : decode cX4_statement 13 = .ok (.sipush 9999, 3) := by decide +kernel
theorem dX4_statement_16 : decode cX4_statement 16 = .ok (.if_icmp .le 6, 3) := by decide +kernel
theorem dX4_statement_19 : decode cX4_statement 19 = .ok (.bipush (-4), 2) := by decide +kernel
theorem dX4_statement_21 : decode cX4_statement 21 = .ok (.ireturn, 1) := by decide +kernel
theorem dX4_statement_22 : decode cX4_statement 22 = .ok (.aload_n 0, 1) := by decide +kernel
theorem dX4_statement_23 : decode cX4_statement 23 = .ok (.getfield 64, 3) := by decide +kernel
theorem dX4_statement_26 : decode cX4_statement 26 = .ok (.bipush 100, 2) := by decide +kernel
theorem dX4_statement_28 : decode cX4_statement 28 = .ok (.if_icmp .lt 5, 3) := by decide +kernel
theorem dX4_statement_31 : decode cX4_statement 31 = .ok (.iconst (-1), 1) := by decide +kernel
theorem dX4_statement_32 : decode cX4_statement 32 = .ok (.ireturn, 1) := by decide +kernel
theorem dX4_statement_33 : decode cX4_statement 33 = .ok (.aload_n 0, 1) := by decide +kernel
theorem dX4_statement_34 : decode cX4_statement 34 = .ok (.dup, 1) := by decide +kernel
theorem dX4_statement_35 : decode cX4_statement 35 = .ok (.getfield 64, 3) := by decide +kernel
theorem dX4_statement_38 : decode cX4_statement 38 = .ok (.iconst 1, 1) := by decide +kernel
theorem dX4_statement_39 : decode cX4_statement 39 = .ok (.iadd, 1) := by decide +kernel
theorem dX4_statement_40 : decode cX4_statement 40 = .ok (.putfield 64, 3) := by decide +kernel
theorem dX4_statement_43 : decode cX4_statement 43 = .ok (.aload_n 0, 1) := by decide +kernel
theorem dX4_statement_44 : decode cX4_statement 44 = .ok (.getfield 9, 3) := by decide +kernel
theorem dX4_statement_47 : decode cX4_statement 47 = .ok (.aload_n 0, 1) := by decide +kernel
theorem dX4_statement_48 : decode cX4_statement 48 = .ok (.getfield 64, 3) := by decide +kernel
theorem dX4_statement_51 : decode cX4_statement 51 = .ok (.iload_n 1, 1) := by decide +kernel
theorem dX4_statement_52 : decode cX4_statement 52 = .ok (.iastore, 1) := by decide +kernel
theorem dX4_statement_53 : decode cX4_statement 53 = .ok (.aload_n 0, 1) := by decide +kernel
theorem dX4_statement_54 : decode cX4_statement 54 = .ok (.getfield 13, 3) := by decide +kernel
theorem dX4_statement_57 : decode cX4_statement 57 = .ok (.aload_n 0, 1) := by decide +kernel
theorem dX4_statement_58 : decode cX4_statement 58 = .ok (.getfield 64, 3) := by decide +kernel
theorem dX4_statement_61 : decode cX4_statement 61 = .ok (.iload_n 2, 1) := by decide +kernel
theorem dX4_statement_62 : decode cX4_statement 62 = .ok (.iastore, 1) := by decide +kernel
theorem dX4_statement_63 : decode cX4_statement 63 = .ok (.aload_n 0, 1) := by decide +kernel
theorem dX4_statement_64 : decode cX4_statement 64 = .ok (.getfield 16, 3) := by decide +kernel
theorem dX4_statement_67 : decode cX4_statement 67 = .ok (.aload_n 0, 1) := by decide +kernel
theorem dX4_statement_68 : decode cX4_statement 68 = .ok (.getfield 64, 3) := by decide +kernel
theorem dX4_statement_71 : decode cX4_statement 71 = .ok (.iconst (-1), 1) := by decide +kernel
theorem dX4_statement_72 : decode cX4_statement 72 = .ok (.iastore, 1) := by decide +kernel
theorem dX4_statement_73 : decode cX4_statement 73 = .ok (.aload_n 0, 1) := by decide +kernel
theorem dX4_statement_74 : decode cX4_statement 74 = .ok (.iload_n 1, 1) := by decide +kernel
theorem dX4_statement_75 : decode cX4_statement 75 = .ok (.invokevirtual 68, 3) := by decide +kernel
theorem dX4_statement_78 : decode cX4_statement 78 = .ok (.aload_n 0, 1) := by decide +kernel
theorem dX4_statement_79 : decode cX4_statement 79 = .ok (.getfield 64, 3) := by decide +kernel
theorem dX4_statement_82 : decode cX4_statement 82 = .ok (.iconst 1, 1) := by decide +kernel
theorem dX4_statement_83 : decode cX4_statement 83 = .ok (.if_icmp .ne 8, 3) := by decide +kernel
theorem dX4_statement_86 : decode cX4_statement 86 = .ok (.aload_n 0, 1) := by decide +kernel
theorem dX4_statement_87 : decode cX4_statement 87 = .ok (.iconst 1, 1) := by decide +kernel
theorem dX4_statement_88 : decode cX4_statement 88 = .ok (.putfield 72, 3) := by decide +kernel
theorem dX4_statement_91 : decode cX4_statement 91 = .ok (.aload_n 0, 1) := by decide +kernel
theorem dX4_statement_92 : decode cX4_statement 92 = .ok (.getfield 64, 3) := by decide +kernel
theorem dX4_statement_95 : decode cX4_statement 95 = .ok (.ireturn, 1) := by decide +kernel
set_option maxRecDepth 20000 in
theorem ggX4_item_X0_canBe : GoodIn wsX4_item wsX0_canBe := goodIn_r _ [4] (by decide +kernel) (by decide +kernel)
set_option maxRecDepth 20000 in
theorem gX4_item_X0_canBe_n75 : GoodIn wsX4_item (wsX0_canBe) := ggX4_item_X0_canBe
set_option maxRecDepth 20000 in
theorem ggX4_item_X0_make : GoodIn wsX4_item wsX0_make := goodIn_r _ [7, 8, 9, 10, 11, 12, 13, 3, 14, 15, 16, 17, 18, 19, 20, 21, 22, 23, 24, 25, 26, 27, 28, 29, 30, 31, 32, 33, 34, 49, 50, 51, 52] (by decide +kernel) (by decide +kernel)
set_option maxRecDepth 20000 in
theorem gX4_item_X0_make_n79 : GoodIn wsX4_item (wsX0_make) := ggX4_item_X0_make
theorem dX4_item_0 : decode cX4_item 0 = .ok (.iload_n 1, 1) := by decide +kernel
theorem dX4_item_1 : decode cX4_item 1 = .ok (.iload_n 2, 1) := by decide +kernel
theorem dX4_item_2 : decode cX4_item 2 = .ok (.invokestatic 75, 3) := by decide +kernel
theorem dX4_item_5 : decode cX4_item 5 = .ok (.ifCond .ne 6, 3) := by decide +kernel
theorem dX4_item_8 : decode cX4_item 8 = .ok (.bipush (-4), 2) := by decide +kernel
theorem dX4_item_10 : decode cX4_item 10 = .ok (.ireturn, 1) := by decide +kernel
theorem dX4_item_11 : decode cX4_item 11 = .ok (.aload_n 0, 1) := by decide +kernel
theorem dX4_item_12 : decode cX4_item 12 = .ok (.getfield 35, 3) := by decide +kernel
theorem dX4_item_15 : decode cX4_item 15 = .ok (.iload_n 1, 1) := by decide +kernel
theorem dX4_item_16 : decode cX4_item 16 = .ok (.iload_n 2, 1) := by decide +kernel
theorem dX4_item_17 : decode cX4_item 17 = .ok (.invokevirtual 79, 3) := by decide +kernel
theorem dX4_item_20 : decode cX4_item 20 = .ok (.ireturn, 1) := by decide +kernel
set_option maxRecDepth 20000 in
theorem ggX4_step_X4_isParagraph : GoodIn wsX4_step wsX4_isParagraph := goodIn_r _ [8] (by decide +kernel) (by decide +kernel)
set_option maxRecDepth 20000 in
theorem gX4_step_X4_isParagraph : GoodIn wsX4_step (va_wsS RX4 60 yX4_isParagraph wsX4_isParagraph) := goodIn_app (goodIn_of _ (by decide +kernel)) ggX4_step_X4_isParagraph
theorem dX4_step_0 : decode cX4_step 0 = .ok (.iload_n 1, 1) := by decide +kernel
theorem dX4_step_1 : decode cX4_step 1 = .ok (.iconst 1, 1) := by decide +kernel
theorem dX4_step_2 : decode cX4_step 2 = .ok (.if_icmp .lt 22, 3) := by decide +kernel
theorem dX4_step_5 : decode cX4_step 5 = .ok (.iload_n 1, 1) := by decide +kernel
theorem dX4_step_6 : decode cX4_step 6 = .ok (.aload_n 0, 1) := by decide +kernel
theorem dX4_step_7 : decode cX4_step 7 = .ok (.getfield 64, 3) := by decide +kernel
theorem dX4_step_10 : decode cX4_step 10 = .ok (.if_icmp .gt 14, 3) := by decide +kernel
theorem dX4_step_13 : decode cX4_step 13 = .ok (.iload_n 2, 1) := by decide +kernel
theorem dX4_step_14 : decode cX4_step 14 = .ok (.aload_n 0, 1) := by decide +kernel
theorem dX4_step_15 : decode cX4_step 15 = .ok (.getfield 35, 3) := by decide +kernel
theorem dX4_step_18 : decode cX4_step 18 = .ok (.getfield 83, 3) := by decide +kernel
theorem dX4_step_21 : decode cX4_step 21 = .ok (.if_icmp .lt 6, 3) := by decide +kernel
theorem dX4_step_24 : decode cX4_step 24 = .ok (.bipush (-2), 2) := by decide +kernel
theorem dX4_step_26 : decode cX4_step 26 = .ok (.ireturn, 1) := by decide +kernel
theorem dX4_step_27 : decode cX4_step 27 = .ok (.iload_n 2, 1) := by decide +kernel
theorem dX4_step_28 : decode cX4_step 28 = .ok (.bipush (-2), 2) := by decide +kernel
theorem dX4_step_30 : decode cX4_step 30 = .ok (.if_icmp .gt 16, 3) := by decide +kernel
theorem dX4_step_33 : decode cX4_step 33 = .ok (.bipush (-2), 2) := by decide +kernel
theorem dX4_step_35 : decode cX4_step 35 = .ok (.iload_n 2, 1) := by decide +kernel
theorem dX4_step_36 : decode cX4_step 36 = .ok (.isub, 1) := by decide +kernel
theorem dX4_step_37 : decode cX4_step 37 = .ok (.invokestatic 60, 3) := by decide +kernel
theorem dX4_step_40 : decode cX4_step 40 = .ok (.ifCond .ne 6, 3) := by decide +kernel
theorem dX4_step_43 : decode cX4_step 43 = .ok (.bipush (-4), 2) := by decide +kernel
theorem dX4_step_45 : decode cX4_step 45 = .ok (.ireturn, 1) := by decide +kernel
theorem dX4_step_46 : decode cX4_step 46 = .ok (.aload_n 0, 1) := by decide +kernel
theorem dX4_step_47 : decode cX4_step 47 = .ok (.getfield 16, 3) := by decide +kernel
theorem dX4_step_50 : decode cX4_step 50 = .ok (.iload_n 1, 1) := by decide +kernel
theorem dX4_step_51 : decode cX4_step 51 = .ok (.iload_n 2, 1) := by decide +kernel
theorem dX4_step_52 : decode cX4_step 52 = .ok (.iastore, 1) := by decide +kernel
theorem dX4_step_53 : decode cX4_step 53 = .ok (.aload_n 0, 1) := by decide +kernel
theorem dX4_step_54 : decode cX4_step 54 = .ok (.getfield 19, 3) := by decide +kernel
theorem dX4_step_57 : decode cX4_step 57 = .ok (.iload_n 1, 1) := by decide +kernel
theorem dX4_step_58 : decode cX4_step 58 = .ok (.lload_n 3, 1) := by decide +kernel
theorem dX4_step_59 : decode cX4_step 59 = .ok (.lastore, 1) := by decide +kernel
theorem dX4_step_60 : decode cX4_step 60 = .ok (.iconst 1, 1) := by decide +kernel
theorem dX4_step_61 : decode cX4_step 61 = .ok (.ireturn, 1) := by decide +kernel
set_option maxRecDepth 20000 in
theorem ggX4_stop_X0_has : GoodIn wsX4_stop wsX0_has := goodIn_r _ [6, 7, 30, 31, 32, 33] (by decide +kernel) (by decide +kernel)
set_option maxRecDepth 20000 in
theorem gX4_stop_X0_has_n86 : GoodIn wsX4_stop (wsX0_has) := ggX4_stop_X0_has
set_option maxRecDepth 20000 in
theorem ggX4_stop_X3_make : GoodIn wsX4_stop wsX3_make := goodIn_r _ [11, 12, 13, 14, 15, 34, 35, 36, 37] (by decide +kernel) (by decide +kernel)
set_option maxRecDepth 20000 in
theorem gX4_stop_X3_make_n89 : GoodIn wsX4_stop (wsX3_make) := ggX4_stop_X3_make
theorem dX4_stop_0 : decode cX4_stop 0 = .ok (.iload_n 1, 1) := by decide +kernel
theorem dX4_stop_1 : decode cX4_stop 1 = .ok (.ifCond .lt 8, 3) := by decide +kernel
theorem dX4_stop_4 : decode cX4_stop 4 = .ok (.iload_n 1, 1) := by decide +kernel
theorem dX4_stop_5 : decode cX4_stop 5 = .ok (.iconst 4, 1) := by decide +kernel
theorem dX4_stop_6 : decode cX4_stop 6 = .ok (.if_icmp .le 6, 3) := by decide +kernel
theorem dX4_stop_9 : decode cX4_stop 9 = .ok (.bipush (-4), 2) := by decide +kernel
theorem dX4_stop_11 : decode cX4_stop 11 = .ok (.ireturn, 1) := by decide +kernel
theorem dX4_stop_12 : decode cX4_stop 12 = .ok (.iload_n 1, 1) := by decide +kernel
theorem dX4_stop_13 : decode cX4_stop 13 = .ok (.iconst 2, 1) := by decide +kernel
theorem dX4_stop_14 : decode cX4_stop 14 = .ok (.if_icmp .eq 8, 3) := by decide +kernel
theorem dX4_stop_17 : decode cX4_stop 17 = .ok (.iload_n 1, 1) := by decide +kernel
theorem dX4_stop_18 : decode cX4_stop 18 = .ok (.iconst 3, 1) := by decide +kernel
theorem dX4_stop_19 : decode cX4_stop 19 = .ok (.if_icmp .ne 17, 3) := by decide +kernel
theorem dX4_stop_22 : decode cX4_stop 22 = .ok (.aload_n 0, 1) := by decide +kernel
theorem dX4_stop_23 : decode cX4_stop 23 = .ok (.getfield 35, 3) := by decide +kernel
theorem dX4_stop_26 : decode cX4_stop 26 = .ok (.iload_n 2, 1) := by decide +kernel
theorem dX4_stop_27 : decode cX4_stop 27 = .ok (.invokevirtual 86, 3) := by decide +kernel
theorem dX4_stop_30 : decode cX4_stop 30 = .ok (.ifCond .ne 6, 3) := by decide +kernel
theorem dX4_stop_33 : decode cX4_stop 33 = .ok (.bipush (-2), 2) := by decide +kernel
theorem dX4_stop_35 : decode cX4_stop 35 = .ok (.ireturn, 1) := by decide +kernel
theorem dX4_stop_36 : decode cX4_stop 36 = .ok (.aload_n 0, 1) := by decide +kernel
theorem dX4_stop_37 : decode cX4_stop 37 = .ok (.getfield 42, 3) := by decide +kernel
theorem dX4_stop_40 : decode cX4_stop 40 = .ok (.iload_n 1, 1) := by decide +kernel
theorem dX4_stop_41 : decode cX4_stop 41 = .ok (.iload_n 2, 1) := by decide +kernel
theorem dX4_stop_42 : decode cX4_stop 42 = .ok (.iload_n 3, 1) := by decide +kernel
theorem dX4_stop_43 : decode cX4_stop 43 = .ok (.invokevirtual 89, 3) := by decide +kernel
theorem dX4_stop_46 : decode cX4_stop 46 = .ok (.ireturn, 1) := by decide +kernel
set_option maxRecDepth 20000 in
theorem ggX4_run_X4_metAhead : GoodIn wsX4_run wsX4_metAhead := goodIn_r _ [8, 9, 1, 10, 2, 11, 12, 13, 14, 15, 16, 17, 18, 150, 151, 152, 153, 154, 155, 156, 157, 158, 159, 160, 161, 162, 163, 164, 165, 166, 167] (by decide +kernel) (by decide +kernel)
set_option maxRecDepth 20000 in
theorem gX4_run_X4_metAhead : GoodIn wsX4_run (wsV RX4 92 RX4 yX4_metAhead wsX4_metAhead) := goodIn_app (goodIn_of _ (by decide +kernel)) ggX4_run_X4_metAhead
set_option maxRecDepth 20000 in
theorem ggX4_run_X4_runOne : GoodIn wsX4_run wsX4_runOne := goodIn_r _ [22, 1, 23, 24, 3, 25, 9, 26, 27, 28, 29, 30, 31, 32, 33, 34, 35, 36, 37, 38, 39, 40, 41, 42, 43, 44, 45, 46, 47, 48, 49, 50, 51, 52, 7, 53, 10, 54, 55, 56, 57, 58, 59, 60, 61, 62, 63, 64, 65, 66, 67, 68, 69, 70, 71, 72, 73, 74, 75, 76, 77, 78, 79, 80, 81, 82, 83, 84, 85, 86, 87, 88, 89, 90, 91, 92, 93, 94, 95, 96, 97, 98, 99, 100, 101, 102, 103, 104, 105, 106, 107, 108, 109, 110, 111, 112, 113, 114, 115, 116, 117, 118, 119, 120, 121, 122, 123, 124, 125, 126, 127, 128, 129, 130, 131, 132, 133, 134, 135, 136, 137, 138, 139, 140, 141, 142, 150, 151, 152, 153, 154, 155, 156, 157, 158, 159, 160, 161, 162, 163, 168, 169, 170, 171, 172, 173, 174, 175, 176, 177, 178, 179, 180, 181, 182, 183, 184] (by decide +kernel) (by decide +kernel)
set_option maxRecDepth 20000 in
theorem gX4_run_X4_runOne : GoodIn wsX4_run (wsV RX4 96 RX4 yX4_runOne wsX4_runOne) := goodIn_app (goodIn_of _ (by decide +kernel)) ggX4_run_X4_runOne
set_option maxRecDepth 20000 in
theorem ggX4_run_X3_leastBehind : GoodIn wsX4_run wsX3_leastBehind := goodIn_r _ [145, 16, 17, 18, 146, 147, 148, 13, 149, 89, 46, 90, 91, 92, 93, 94, 95, 96, 97, 98, 99, 100, 101, 110, 111, 112, 113, 114, 115, 116, 117, 118, 119, 120, 121, 122, 123, 164, 165, 166, 167, 175, 176, 177, 178] (by decide +kernel) (by decide +kernel)
set_option maxRecDepth 20000 in
theorem gX4_run_X3_leastBehind_n99 : GoodIn wsX4_run (wsX3_leastBehind) := ggX4_run_X3_leastBehind
theorem dX4_run_0 : decode cX4_run 0 = .ok (.iload_n 1, 1) := by decide +kernel
theorem dX4_run_1 : decode cX4_run 1 = .ok (.ifCond .lt 10, 3) := by decide +kernel
theorem dX4_run_4 : decode cX4_run 4 = .ok (.iload_n 1, 1) := by decide +kernel
theorem dX4_run_5 : decode cX4_run 5 = .ok (.sipush 200, 3) := by decide +kernel
theorem dX4_run_8 : decode cX4_run 8 = .ok (.if_icmp .le 6, 3) := by decide +kernel
theorem dX4_run_11 : decode cX4_run 11 = .ok (.bipush (-4), 2) := by decide +kernel
theorem dX4_run_13 : decode cX4_run 13 = .ok (.ireturn, 1) := by decide +kernel
theorem dX4_run_14 : decode cX4_run 14 = .ok (.iconst 0, 1) := by decide +kernel
theorem dX4_run_15 : decode cX4_run 15 = .ok (.istore_n 2, 1) := by decide +kernel
theorem dX4_run_16 : decode cX4_run 16 = .ok (.iload_n 2, 1) := by decide +kernel
theorem dX4_run_17 : decode cX4_run 17 = .ok (.iload_n 1, 1) := by decide +kernel
theorem dX4_run_18 : decode cX4_run 18 = .ok (.if_icmp .ge 55, 3) := by decide +kernel
theorem dX4_run_21 : decode cX4_run 21 = .ok (.aload_n 0, 1) := by decide +kernel
theorem dX4_run_22 : decode cX4_run 22 = .ok (.getfield 72, 3) := by decide +kernel
theorem dX4_run_25 : decode cX4_run 25 = .ok (.ifCond .eq 48, 3) := by decide +kernel
theorem dX4_run_28 : decode cX4_run 28 = .ok (.iload_n 2, 1) := by decide +kernel
theorem dX4_run_29 : decode cX4_run 29 = .ok (.ifCond .ne 7, 3) := by decide +kernel
theorem dX4_run_32 : decode cX4_run 32 = .ok (.iconst 0, 1) := by decide +kernel
theorem dX4_run_33 : decode cX4_run 33 = .ok (.goto 7, 3) := by decide +kernel
theorem dX4_run_36 : decode cX4_run 36 = .ok (.aload_n 0, 1) := by decide +kernel
theorem dX4_run_37 : decode cX4_run 37 = .ok (.invokevirtual 92, 3) := by decide +kernel
theorem dX4_run_40 : decode cX4_run 40 = .ok (.istore_n 3, 1) := by decide +kernel
theorem dX4_run_41 : decode cX4_run 41 = .ok (.iload_n 3, 1) := by decide +kernel
theorem dX4_run_42 : decode cX4_run 42 = .ok (.ifCond .ne 19, 3) := by decide +kernel
theorem dX4_run_45 : decode cX4_run 45 = .ok (.aload_n 0, 1) := by decide +kernel
theorem dX4_run_46 : decode cX4_run 46 = .ok (.getfield 42, 3) := by decide +kernel
theorem dX4_run_49 : decode cX4_run 49 = .ok (.aload_n 0, 1) := by decide +kernel
theorem dX4_run_50 : decode cX4_run 50 = .ok (.invokevirtual 96, 3) := by decide +kernel
theorem dX4_run_53 : decode cX4_run 53 = .ok (.aload_n 0, 1) := by decide +kernel
theorem dX4_run_54 : decode cX4_run 54 = .ok (.getfield 35, 3) := by decide +kernel
theorem dX4_run_57 : decode cX4_run 57 = .ok (.invokevirtual 99, 3) := by decide +kernel
theorem dX4_run_60 : decode cX4_run 60 = .ok (.istore_n 3, 1) := by decide +kernel
theorem dX4_run_61 : decode cX4_run 61 = .ok (.iload_n 3, 1) := by decide +kernel
theorem dX4_run_62 : decode cX4_run 62 = .ok (.ifCond .eq 5, 3) := by decide +kernel
theorem dX4_run_65 : decode cX4_run 65 = .ok (.iload_n 3, 1) := by decide +kernel
theorem dX4_run_66 : decode cX4_run 66 = .ok (.ireturn, 1) := by decide +kernel
theorem dX4_run_67 : decode cX4_run 67 = .ok (.iinc 2 1, 3) := by decide +kernel
theorem dX4_run_70 : decode cX4_run 70 = .ok (.goto (-54), 3) := by decide +kernel
theorem dX4_run_73 : decode cX4_run 73 = .ok (.iconst 0, 1) := by decide +kernel
theorem dX4_run_74 : decode cX4_run 74 = .ok (.ireturn, 1) := by decide +kernel
set_option maxRecDepth 20000 in
theorem ggX4_show_X0_has : GoodIn wsX4_show wsX0_has := goodIn_r _ [9, 10, 52, 53, 54, 55] (by decide +kernel) (by decide +kernel)
set_option maxRecDepth 20000 in
theorem gX4_show_X0_has_n86 : GoodIn wsX4_show (wsX0_has) := ggX4_show_X0_has
set_option maxRecDepth 20000 in
theorem ggX4_show_X0_isBad : GoodIn wsX4_show wsX0_isBad := goodIn_r _ [13, 14, 15, 16, 17, 18, 7, 19, 20, 21, 22, 23, 52, 53, 54, 55] (by decide +kernel) (by decide +kernel)
set_option maxRecDepth 20000 in
theorem gX4_show_X0_isBad_n110 : GoodIn wsX4_show (wsX0_isBad) := ggX4_show_X0_isBad
set_option maxRecDepth 20000 in
theorem ggX4_show_X0_says : GoodIn wsX4_show wsX0_says := goodIn_r _ [26, 14, 27, 28, 29, 7, 30, 15, 16, 17, 18, 19, 20, 31, 32, 33, 34, 35, 36, 37, 52, 53, 54, 55] (by decide +kernel) (by decide +kernel)
set_option maxRecDepth 20000 in
theorem gX4_show_X0_says_n118 : GoodIn wsX4_show (wsX0_says) := ggX4_show_X0_says
theorem dX4_show_0 : decode cX4_show 0 = .ok (.aload_n 0, 1) := by decide +kernel
theorem dX4_show_1 : decode cX4_show 1 = .ok (.getfield 35, 3) := by decide +kernel
theorem dX4_show_4 : decode cX4_show 4 = .ok (.iload_n 1, 1) := by decide +kernel
theorem dX4_show_5 : decode cX4_show 5 = .ok (.invokevirtual 86, 3) := by decide +kernel
theorem dX4_show_8 : decode cX4_show 8 = .ok (.ifCond .ne 13, 3) := by decide +kernel
theorem dX4_show_11 : decode cX4_show 11 = .ok (.new 103, 3) := by decide +kernel
theorem dX4_show_14 : decode cX4_show 14 = .ok (.dup, 1) := by decide +kernel
theorem dX4_show_15 : decode cX4_show 15 = .ok (.ldc 105, 2) := by decide +kernel
theorem dX4_show_17 : decode cX4_show 17 = .ok (.invokespecial 107, 3) := by decide +kernel
theorem dX4_show_20 : decode cX4_show 20 = .ok (.athrow, 1) := by decide +kernel
theorem dX4_show_21 : decode cX4_show 21 = .ok (.aload_n 0, 1) := by decide +kernel
theorem dX4_show_22 : decode cX4_show 22 = .ok (.getfield 35, 3) := by decide +kernel
theorem dX4_show_25 : decode cX4_show 25 = .ok (.iload_n 1, 1) := by decide +kernel
theorem dX4_show_26 : decode cX4_show 26 = .ok (.invokevirtual 110, 3) := by decide +kernel
theorem dX4_show_29 : decode cX4_show 29 = .ok (.ifCond .eq 13, 3) := by decide +kernel
theorem dX4_show_32 : decode cX4_show 32 = .ok (.new 113, 3) := by decide +kernel
theorem dX4_show_35 : decode cX4_show 35 = .ok (.dup, 1) := by decide +kernel
theorem dX4_show_36 : decode cX4_show 36 = .ok (.ldc 115, 2) := by decide +kernel
theorem dX4_show_38 : decode cX4_show 38 = .ok (.invokespecial 117, 3) := by decide +kernel
theorem dX4_show_41 : decode cX4_show 41 = .ok (.athrow, 1) := by decide +kernel
theorem dX4_show_42 : decode cX4_show 42 = .ok (.aload_n 0, 1) := by decide +kernel
theorem dX4_show_43 : decode cX4_show 43 = .ok (.getfield 35, 3) := by decide +kernel
theorem dX4_show_46 : decode cX4_show 46 = .ok (.iload_n 1, 1) := by decide +kernel
theorem dX4_show_47 : decode cX4_show 47 = .ok (.invokevirtual 118, 3) := by decide +kernel
theorem dX4_show_50 : decode cX4_show 50 = .ok (.lreturn, 1) := by decide +kernel
set_option maxRecDepth 20000 in
theorem ggX4_change_X0_has : GoodIn wsX4_change wsX0_has := goodIn_r _ [5, 6, 49, 50, 51, 52] (by decide +kernel) (by decide +kernel)
set_option maxRecDepth 20000 in
theorem gX4_change_X0_has_n86 : GoodIn wsX4_change (wsX0_has) := ggX4_change_X0_has
set_option maxRecDepth 20000 in
theorem ggX4_change_X0_isConstant : GoodIn wsX4_change wsX0_isConstant := goodIn_r _ [9, 10, 49, 50, 51, 52] (by decide +kernel) (by decide +kernel)
set_option maxRecDepth 20000 in
theorem gX4_change_X0_isConstant_n122 : GoodIn wsX4_change (wsX0_isConstant) := ggX4_change_X0_isConstant
set_option maxRecDepth 20000 in
theorem ggX4_change_X0_write : GoodIn wsX4_change wsX0_write := goodIn_r _ [13, 10, 14, 15, 16, 3, 17, 18, 19, 20, 21, 22, 23, 24, 25, 26, 27, 28, 29, 30, 31, 32, 33, 34, 49, 50, 51, 52] (by decide +kernel) (by decide +kernel)
set_option maxRecDepth 20000 in
theorem gX4_change_X0_write_n125 : GoodIn wsX4_change (wsX0_write) := ggX4_change_X0_write
theorem dX4_change_0 : decode cX4_change 0 = .ok (.aload_n 0, 1) := by decide +kernel
theorem dX4_change_1 : decode cX4_change 1 = .ok (.getfield 35, 3) := by decide +kernel
theorem dX4_change_4 : decode cX4_change 4 = .ok (.iload_n 1, 1) := by decide +kernel
theorem dX4_change_5 : decode cX4_change 5 = .ok (.invokevirtual 86, 3) := by decide +kernel
theorem dX4_change_8 : decode cX4_change 8 = .ok (.ifCond .ne 6, 3) := by decide +kernel
theorem dX4_change_11 : decode cX4_change 11 = .ok (.bipush (-2), 2) := by decide +kernel
theorem dX4_change_13 : decode cX4_change 13 = .ok (.ireturn, 1) := by decide +kernel
theorem dX4_change_14 : decode cX4_change 14 = .ok (.aload_n 0, 1) := by decide +kernel
theorem dX4_change_15 : decode cX4_change 15 = .ok (.getfield 35, 3) := by decide +kernel
theorem dX4_change_18 : decode cX4_change 18 = .ok (.iload_n 1, 1) := by decide +kernel
theorem dX4_change_19 : decode cX4_change 19 = .ok (.invokevirtual 122, 3) := by decide +kernel
theorem dX4_change_22 : decode cX4_change 22 = .ok (.ifCond .eq 5, 3) := by decide +kernel
theorem dX4_change_25 : decode cX4_change 25 = .ok (.iconst 0, 1) := by decide +kernel
theorem dX4_change_26 : decode cX4_change 26 = .ok (.ireturn, 1) := by decide +kernel
theorem dX4_change_27 : decode cX4_change 27 = .ok (.aload_n 0, 1) := by decide +kernel
theorem dX4_change_28 : decode cX4_change 28 = .ok (.getfield 35, 3) := by decide +kernel
theorem dX4_change_31 : decode cX4_change 31 = .ok (.iload_n 1, 1) := by decide +kernel
theorem dX4_change_32 : decode cX4_change 32 = .ok (.lload_n 2, 1) := by decide +kernel
theorem dX4_change_33 : decode cX4_change 33 = .ok (.invokevirtual 125, 3) := by decide +kernel
theorem dX4_change_36 : decode cX4_change 36 = .ok (.pop, 1) := by decide +kernel
theorem dX4_change_37 : decode cX4_change 37 = .ok (.iconst 1, 1) := by decide +kernel
theorem dX4_change_38 : decode cX4_change 38 = .ok (.ireturn, 1) := by decide +kernel
set_option maxRecDepth 20000 in
theorem ggX4_back_X4_takeBackOne : GoodIn wsX4_back wsX4_takeBackOne := goodIn_r _ [7, 1, 2, 8, 9, 10, 11, 12, 13, 14, 15, 16, 17, 18, 19, 20, 21, 22, 23, 24, 25, 26, 27, 28, 29, 30, 31, 32, 33, 34, 35, 36, 37, 38, 39, 40, 41, 42, 43, 44, 45, 46, 47, 48, 49, 50, 51, 52, 53, 54, 55, 56, 57, 58, 59, 60, 61, 62, 63, 64, 65, 66, 67, 68, 69, 70, 71, 72, 73, 74, 75, 76, 77, 78, 79, 80, 81, 82, 83, 84, 85, 86, 87, 88, 89, 90, 91, 92, 93, 94, 95] (by decide +kernel) (by decide +kernel)
set_option maxRecDepth 20000 in
theorem gX4_back_X4_takeBackOne : GoodIn wsX4_back (wsV RX4 132 RX4 yX4_takeBackOne wsX4_takeBackOne) := goodIn_app (goodIn_of _ (by decide +kernel)) ggX4_back_X4_takeBackOne
theorem dX4_back_0 : decode cX4_back 0 = .ok (.iload_n 1, 1) := by decide +kernel
theorem dX4_back_1 : decode cX4_back 1 = .ok (.ifCond .lt 14, 3) := by decide +kernel
theorem dX4_back_4 : decode cX4_back 4 = .ok (.iload_n 1, 1) := by decide +kernel
theorem dX4_back_5 : decode cX4_back 5 = .ok (.aload_n 0, 1) := by decide +kernel
theorem dX4_back_6 : decode cX4_back 6 = .ok (.getfield 56, 3) := by decide +kernel
theorem dX4_back_9 : decode cX4_back 9 = .ok (.getfield 129, 3) := by decide +kernel
theorem dX4_back_12 : decode cX4_back 12 = .ok (.if_icmp .le 6, 3) := by decide +kernel
theorem dX4_back_15 : decode cX4_back 15 = .ok (.bipush (-4), 2) := by decide +kernel
theorem dX4_back_17 : decode cX4_back 17 = .ok (.ireturn, 1) := by decide +kernel
theorem dX4_back_18 : decode cX4_back 18 = .ok (.iconst 0, 1) := by decide +kernel
theorem dX4_back_19 : decode cX4_back 19 = .ok (.istore_n 2, 1) := by decide +kernel
theorem dX4_back_20 : decode cX4_back 20 = .ok (.iload_n 2, 1) := by decide +kernel
theorem dX4_back_21 : decode cX4_back 21 = .ok (.iload_n 1, 1) := by decide +kernel
theorem dX4_back_22 : decode cX4_back 22 = .ok (.if_icmp .ge 13, 3) := by decide +kernel
theorem dX4_back_25 : decode cX4_back 25 = .ok (.aload_n 0, 1) := by decide +kernel
theorem dX4_back_26 : decode cX4_back 26 = .ok (.invokevirtual 132, 3) := by decide +kernel
theorem dX4_back_29 : decode cX4_back 29 = .ok (.iinc 2 1, 3) := by decide +kernel
theorem dX4_back_32 : decode cX4_back 32 = .ok (.goto (-12), 3) := by decide +kernel
theorem dX4_back_35 : decode cX4_back 35 = .ok (.aload_n 0, 1) := by decide +kernel
theorem dX4_back_36 : decode cX4_back 36 = .ok (.getfield 72, 3) := by decide +kernel
theorem dX4_back_39 : decode cX4_back 39 = .ok (.ireturn, 1) := by decide +kernel
set_option maxRecDepth 20000 in
theorem ggX4_performed_X2_performer : GoodIn wsX4_performed wsX2_performer := goodIn_r _ [5, 6, 7, 22, 23, 24, 25, 26, 27] (by decide +kernel) (by decide +kernel)
set_option maxRecDepth 20000 in
theorem gX4_performed_X2_performer_n135 : GoodIn wsX4_performed (wsX2_performer) := ggX4_performed_X2_performer
theorem dX4_performed_0 : decode cX4_performed 0 = .ok (.aload_n 0, 1) := by decide +kernel
theorem dX4_performed_1 : decode cX4_performed 1 = .ok (.getfield 49, 3) := by decide +kernel
theorem dX4_performed_4 : decode cX4_performed 4 = .ok (.iload_n 1, 1) := by decide +kernel
theorem dX4_performed_5 : decode cX4_performed 5 = .ok (.invokevirtual 135, 3) := by decide +kernel
theorem dX4_performed_8 : decode cX4_performed 8 = .ok (.ireturn, 1) := by decide +kernel
set_option maxRecDepth 20000 in
theorem ggX4_count_X4_isParagraph : GoodIn wsX4_count wsX4_isParagraph := goodIn_r _ [5] (by decide +kernel) (by decide +kernel)
set_option maxRecDepth 20000 in
theorem gX4_count_X4_isParagraph : GoodIn wsX4_count (va_wsS RX4 60 yX4_isParagraph wsX4_isParagraph) := goodIn_app (goodIn_of _ (by decide +kernel)) ggX4_count_X4_isParagraph
theorem dX4_count_0 : decode cX4_count 0 = .ok (.iload_n 1, 1) := by decide +kernel
theorem dX4_count_1 : decode cX4_count 1 = .ok (.invokestatic 60, 3) := by decide +kernel
theorem dX4_count_4 : decode cX4_count 4 = .ok (.ifCond .eq 12, 3) := by decide +kernel
theorem dX4_count_7 : decode cX4_count 7 = .ok (.aload_n 0, 1) := by decide +kernel
theorem dX4_count_8 : decode cX4_count 8 = .ok (.getfield 29, 3) := by decide +kernel
theorem dX4_count_11 : decode cX4_count 11 = .ok (.iload_n 1, 1) := by decide +kernel
theorem dX4_count_12 : decode cX4_count 12 = .ok (.iaload, 1) := by decide +kernel
theorem dX4_count_13 : decode cX4_count 13 = .ok (.goto 5, 3) := by decide +kernel
theorem dX4_count_16 : decode cX4_count 16 = .ok (.bipush (-4), 2) := by decide +kernel
theorem dX4_count_18 : decode cX4_count 18 = .ok (.ireturn, 1) := by decide +kernel
set_option maxRecDepth 20000 in
theorem ggX4_caught_X3_leastForTask : GoodIn wsX4_caught wsX3_leastForTask := goodIn_r _ [5, 6, 7, 8, 9, 24, 25, 26, 27] (by decide +kernel) (by decide +kernel)
set_option maxRecDepth 20000 in
theorem gX4_caught_X3_leastForTask_n139 : GoodIn wsX4_caught (wsX3_leastForTask) := ggX4_caught_X3_leastForTask
theorem dX4_caught_0 : decode cX4_caught 0 = .ok (.aload_n 0, 1) := by decide +kernel
theorem dX4_caught_1 : decode cX4_caught 1 = .ok (.getfield 42, 3) := by decide +kernel
theorem dX4_caught_4 : decode cX4_caught 4 = .ok (.iload_n 1, 1) := by decide +kernel
theorem dX4_caught_5 : decode cX4_caught 5 = .ok (.iload_n 2, 1) := by decide +kernel
theorem dX4_caught_6 : decode cX4_caught 6 = .ok (.invokevirtual 139, 3) := by decide +kernel
theorem dX4_caught_9 : decode cX4_caught 9 = .ok (.ireturn, 1) := by decide +kernel
theorem dX4_near_0 : decode cX4_near 0 = .ok (.aload_n 0, 1) := by decide +kernel
theorem dX4_near_1 : decode cX4_near 1 = .ok (.getfield 35, 3) := by decide +kernel
theorem dX4_near_4 : decode cX4_near 4 = .ok (.getfield 83, 3) := by decide +kernel
theorem dX4_near_7 : decode cX4_near 7 = .ok (.ifCond .ne 5, 3) := by decide +kernel
theorem dX4_near_10 : decode cX4_near 10 = .ok (.iconst (-1), 1) := by decide +kernel
theorem dX4_near_11 : decode cX4_near 11 = .ok (.ireturn, 1) := by decide +kernel
theorem dX4_near_12 : decode cX4_near 12 = .ok (.iconst 0, 1) := by decide +kernel
theorem dX4_near_13 : decode cX4_near 13 = .ok (.iload_n 1, 1) := by decide +kernel
theorem dX4_near_14 : decode cX4_near 14 = .ok (.aload_n 0, 1) := by decide +kernel
theorem dX4_near_15 : decode cX4_near 15 = .ok (.getfield 35, 3) := by decide +kernel
theorem dX4_near_18 : decode cX4_near 18 = .ok (.getfield 83, 3) := by decide +kernel
theorem dX4_near_21 : decode cX4_near 21 = .ok (.iconst 1, 1) := by decide +kernel
theorem dX4_near_22 : decode cX4_near 22 = .ok (.isub, 1) := by decide +kernel
theorem dX4_near_23 : decode cX4_near 23 = .ok (.invokestatic 142, 3) := by decide +kernel
theorem dX4_near_26 : decode cX4_near 26 = .ok (.invokestatic 147, 3) := by decide +kernel
theorem dX4_near_29 : decode cX4_near 29 = .ok (.ireturn, 1) := by decide +kernel
set_option maxRecDepth 20000 in
theorem ggX4_octet_X0_has : GoodIn wsX4_octet wsX0_has := goodIn_r _ [8, 9, 38, 39, 40, 41] (by decide +kernel) (by decide +kernel)
set_option maxRecDepth 20000 in
theorem gX4_octet_X0_has_n86 : GoodIn wsX4_octet (wsX0_has) := ggX4_octet_X0_has
set_option maxRecDepth 20000 in
theorem ggX4_octet_X0_hasByte : GoodIn wsX4_octet wsX0_hasByte := goodIn_r _ [12, 13, 38, 39, 40, 41] (by decide +kernel) (by decide +kernel)
set_option maxRecDepth 20000 in
theorem gX4_octet_X0_hasByte_n150 : GoodIn wsX4_octet (wsX0_hasByte) := ggX4_octet_X0_hasByte
set_option maxRecDepth 20000 in
theorem ggX4_octet_X0_byteAt : GoodIn wsX4_octet wsX0_byteAt := goodIn_r _ [16, 17, 38, 39, 40, 41] (by decide +kernel) (by decide +kernel)
set_option maxRecDepth 20000 in
theorem gX4_octet_X0_byteAt_n158 : GoodIn wsX4_octet (wsX0_byteAt) := ggX4_octet_X0_byteAt
theorem dX4_octet_0 : decode cX4_octet 0 = .ok (.aload_n 0, 1) := by decide +kernel
theorem dX4_octet_1 : decode cX4_octet 1 = .ok (.getfield 35, 3) := by decide +kernel
theorem dX4_octet_4 : decode cX4_octet 4 = .ok (.iload_n 1, 1) := by decide +kernel
theorem dX4_octet_5 : decode cX4_octet 5 = .ok (.invokevirtual 86, 3) := by decide +kernel
theorem dX4_octet_8 : decode cX4_octet 8 = .ok (.ifCond .eq 15, 3) := by decide +kernel
theorem dX4_octet_11 : decode cX4_octet 11 = .ok (.aload_n 0, 1) := by decide +kernel
theorem dX4_octet_12 : decode cX4_octet 12 = .ok (.getfield 35, 3) := by decide +kernel
theorem dX4_octet_15 : decode cX4_octet 15 = .ok (.iload_n 1, 1) := by decide +kernel
theorem dX4_octet_16 : decode cX4_octet 16 = .ok (.iload_n 2, 1) := by decide +kernel
theorem dX4_octet_17 : decode cX4_octet 17 = .ok (.invokevirtual 150, 3) := by decide +kernel
theorem dX4_octet_20 : decode cX4_octet 20 = .ok (.ifCond .ne 13, 3) := by decide +kernel
theorem dX4_octet_23 : decode cX4_octet 23 = .ok (.new 153, 3) := by decide +kernel
theorem dX4_octet_26 : decode cX4_octet 26 = .ok (.dup, 1) := by decide +kernel
theorem dX4_octet_27 : decode cX4_octet 27 = .ok (.ldc 155, 2) := by decide +kernel
theorem dX4_octet_29 : decode cX4_octet 29 = .ok (.invokespecial 157, 3) := by decide +kernel
theorem dX4_octet_32 : decode cX4_octet 32 = .ok (.athrow, 1) := by decide +kernel
theorem dX4_octet_33 : decode cX4_octet 33 = .ok (.aload_n 0, 1) := by decide +kernel
theorem dX4_octet_34 : decode cX4_octet 34 = .ok (.getfield 35, 3) := by decide +kernel
theorem dX4_octet_37 : decode cX4_octet 37 = .ok (.iload_n 1, 1) := by decide +kernel
theorem dX4_octet_38 : decode cX4_octet 38 = .ok (.iload_n 2, 1) := by decide +kernel
theorem dX4_octet_39 : decode cX4_octet 39 = .ok (.invokevirtual 158, 3) := by decide +kernel
theorem dX4_octet_42 : decode cX4_octet 42 = .ok (.ireturn, 1) := by decide +kernel
set_option maxRecDepth 20000 in
theorem ggX4_poke_X0_has : GoodIn wsX4_poke wsX0_has := goodIn_r _ [5, 6, 33, 34, 35, 36] (by decide +kernel) (by decide +kernel)
set_option maxRecDepth 20000 in
theorem gX4_poke_X0_has_n86 : GoodIn wsX4_poke (wsX0_has) := ggX4_poke_X0_has
set_option maxRecDepth 20000 in
theorem ggX4_poke_X0_isConstant : GoodIn wsX4_poke wsX0_isConstant := goodIn_r _ [9, 10, 33, 34, 35, 36] (by decide +kernel) (by decide +kernel)
set_option maxRecDepth 20000 in
theorem gX4_poke_X0_isConstant_n122 : GoodIn wsX4_poke (wsX0_isConstant) := ggX4_poke_X0_isConstant
set_option maxRecDepth 20000 in
theorem ggX4_poke_X0_hasByte : GoodIn wsX4_poke wsX0_hasByte := goodIn_r _ [13, 14, 33, 34, 35, 36] (by decide +kernel) (by decide +kernel)
set_option maxRecDepth 20000 in
theorem gX4_poke_X0_hasByte_n150 : GoodIn wsX4_poke (wsX0_hasByte) := ggX4_poke_X0_hasByte
set_option maxRecDepth 20000 in
theorem ggX4_poke_X0_setByte : GoodIn wsX4_poke wsX0_setByte := goodIn_r _ [17, 18, 33, 34, 35, 36] (by decide +kernel) (by decide +kernel)
set_option maxRecDepth 20000 in
theorem gX4_poke_X0_setByte_n162 : GoodIn wsX4_poke (wsX0_setByte) := ggX4_poke_X0_setByte
theorem dX4_poke_0 : decode cX4_poke 0 = .ok (.aload_n 0, 1) := by decide +kernel
theorem dX4_poke_1 : decode cX4_poke 1 = .ok (.getfield 35, 3) := by decide +kernel
theorem dX4_poke_4 : decode cX4_poke 4 = .ok (.iload_n 1, 1) := by decide +kernel
theorem dX4_poke_5 : decode cX4_poke 5 = .ok (.invokevirtual 86, 3) := by decide +kernel
theorem dX4_poke_8 : decode cX4_poke 8 = .ok (.ifCond .ne 6, 3) := by decide +kernel
theorem dX4_poke_11 : decode cX4_poke 11 = .ok (.bipush (-2), 2) := by decide +kernel
theorem dX4_poke_13 : decode cX4_poke 13 = .ok (.ireturn, 1) := by decide +kernel
theorem dX4_poke_14 : decode cX4_poke 14 = .ok (.aload_n 0, 1) := by decide +kernel
theorem dX4_poke_15 : decode cX4_poke 15 = .ok (.getfield 35, 3) := by decide +kernel
theorem dX4_poke_18 : decode cX4_poke 18 = .ok (.iload_n 1, 1) := by decide +kernel
theorem dX4_poke_19 : decode cX4_poke 19 = .ok (.invokevirtual 122, 3) := by decide +kernel
theorem dX4_poke_22 : decode cX4_poke 22 = .ok (.ifCond .eq 5, 3) := by decide +kernel
theorem dX4_poke_25 : decode cX4_poke 25 = .ok (.iconst 0, 1) := by decide +kernel
theorem dX4_poke_26 : decode cX4_poke 26 = .ok (.ireturn, 1) := by decide +kernel
theorem dX4_poke_27 : decode cX4_poke 27 = .ok (.aload_n 0, 1) := by decide +kernel
theorem dX4_poke_28 : decode cX4_poke 28 = .ok (.getfield 35, 3) := by decide +kernel
theorem dX4_poke_31 : decode cX4_poke 31 = .ok (.iload_n 1, 1) := by decide +kernel
theorem dX4_poke_32 : decode cX4_poke 32 = .ok (.iload_n 2, 1) := by decide +kernel
theorem dX4_poke_33 : decode cX4_poke 33 = .ok (.invokevirtual 150, 3) := by decide +kernel
theorem dX4_poke_36 : decode cX4_poke 36 = .ok (.ifCond .ne 6, 3) := by decide +kernel
theorem dX4_poke_39 : decode cX4_poke 39 = .ok (.bipush (-4), 2) := by decide +kernel
theorem dX4_poke_41 : decode cX4_poke 41 = .ok (.ireturn, 1) := by decide +kernel
theorem dX4_poke_42 : decode cX4_poke 42 = .ok (.aload_n 0, 1) := by decide +kernel
theorem dX4_poke_43 : decode cX4_poke 43 = .ok (.getfield 35, 3) := by decide +kernel
theorem dX4_poke_46 : decode cX4_poke 46 = .ok (.iload_n 1, 1) := by decide +kernel
theorem dX4_poke_47 : decode cX4_poke 47 = .ok (.iload_n 2, 1) := by decide +kernel
theorem dX4_poke_48 : decode cX4_poke 48 = .ok (.iload_n 3, 1) := by decide +kernel
theorem dX4_poke_49 : decode cX4_poke 49 = .ok (.invokevirtual 162, 3) := by decide +kernel
theorem dX4_poke_52 : decode cX4_poke 52 = .ok (.iconst 1, 1) := by decide +kernel
theorem dX4_poke_53 : decode cX4_poke 53 = .ok (.ireturn, 1) := by decide +kernel
theorem dX4_told_0 : decode cX4_told 0 = .ok (.iload_n 1, 1) := by decide +kernel
theorem dX4_told_1 : decode cX4_told 1 = .ok (.tableswitch 90 0 6 #[43, 48, 56, 64, 69, 77, 82], 43) := by decide +kernel
theorem dX4_told_44 : decode cX4_told 44 = .ok (.aload_n 0, 1) := by decide +kernel
theorem dX4_told_45 : decode cX4_told 45 = .ok (.getfield 64, 3) := by decide +kernel
theorem dX4_told_48 : decode cX4_told 48 = .ok (.ireturn, 1) := by decide +kernel
theorem dX4_told_49 : decode cX4_told 49 = .ok (.aload_n 0, 1) := by decide +kernel
theorem dX4_told_50 : decode cX4_told 50 = .ok (.getfield 35, 3) := by decide +kernel
theorem dX4_told_53 : decode cX4_told 53 = .ok (.getfield 83, 3) := by decide +kernel
theorem dX4_told_56 : decode cX4_told 56 = .ok (.ireturn, 1) := by decide +kernel
theorem dX4_told_57 : decode cX4_told 57 = .ok (.aload_n 0, 1) := by decide +kernel
theorem dX4_told_58 : decode cX4_told 58 = .ok (.getfield 42, 3) := by decide +kernel
theorem dX4_told_61 : decode cX4_told 61 = .ok (.getfield 166, 3) := by decide +kernel
theorem dX4_told_64 : decode cX4_told 64 = .ok (.ireturn, 1) := by decide +kernel
theorem dX4_told_65 : decode cX4_told 65 = .ok (.aload_n 0, 1) := by decide +kernel
theorem dX4_told_66 : decode cX4_told 66 = .ok (.getfield 72, 3) := by decide +kernel
theorem dX4_told_69 : decode cX4_told 69 = .ok (.ireturn, 1) := by decide +kernel
theorem dX4_told_70 : decode cX4_told 70 = .ok (.aload_n 0, 1) := by decide +kernel
theorem dX4_told_71 : decode cX4_told 71 = .ok (.getfield 56, 3) := by decide +kernel
theorem dX4_told_74 : decode cX4_told 74 = .ok (.getfield 129, 3) := by decide +kernel
theorem dX4_told_77 : decode cX4_told 77 = .ok (.ireturn, 1) := by decide +kernel
theorem dX4_told_78 : decode cX4_told 78 = .ok (.aload_n 0, 1) := by decide +kernel
theorem dX4_told_79 : decode cX4_told 79 = .ok (.getfield 167, 3) := by decide +kernel
theorem dX4_told_82 : decode cX4_told 82 = .ok (.ireturn, 1) := by decide +kernel
theorem dX4_told_83 : decode cX4_told 83 = .ok (.aload_n 0, 1) := by decide +kernel
theorem dX4_told_84 : decode cX4_told 84 = .ok (.getfield 49, 3) := by decide +kernel
theorem dX4_told_87 : decode cX4_told 87 = .ok (.getfield 170, 3) := by decide +kernel
theorem dX4_told_90 : decode cX4_told 90 = .ok (.ireturn, 1) := by decide +kernel
theorem dX4_told_91 : decode cX4_told 91 = .ok (.iconst (-1), 1) := by decide +kernel
theorem dX4_told_92 : decode cX4_told 92 = .ok (.ireturn, 1) := by decide +kernel
theorem dX4_isParagraph_0 : decode cX4_isParagraph 0 = .ok (.iload_n 0, 1) := by decide +kernel
theorem dX4_isParagraph_1 : decode cX4_isParagraph 1 = .ok (.ifCond .lt 13, 3) := by decide +kernel
theorem dX4_isParagraph_4 : decode cX4_isParagraph 4 = .ok (.iload_n 0, 1) := by decide +kernel
theorem dX4_isParagraph_5 : decode cX4_isParagraph 5 = .ok (.bipush 20, 2) := by decide +kernel
theorem dX4_isParagraph_7 : decode cX4_isParagraph 7 = .ok (.if_icmp .ge 7, 3) := by decide +kernel
theorem dX4_isParagraph_10 : decode cX4_isParagraph 10 = .ok (.iconst 1, 1) := by decide +kernel
theorem dX4_isParagraph_11 : decode cX4_isParagraph 11 = .ok (.goto 4, 3) := by decide +kernel
theorem dX4_isParagraph_14 : decode cX4_isParagraph 14 = .ok (.iconst 0, 1) := by decide +kernel
theorem dX4_isParagraph_15 : decode cX4_isParagraph 15 = .ok (.ireturn, 1) := by decide +kernel
theorem dX4_extendParagraph_0 : decode cX4_extendParagraph 0 = .ok (.aload_n 0, 1) := by decide +kernel
theorem dX4_extendParagraph_1 : decode cX4_extendParagraph 1 = .ok (.getfield 23, 3) := by decide +kernel
theorem dX4_extendParagraph_4 : decode cX4_extendParagraph 4 = .ok (.iload_n 1, 1) := by decide +kernel
theorem dX4_extendParagraph_5 : decode cX4_extendParagraph 5 = .ok (.iaload, 1) := by decide +kernel
theorem dX4_extendParagraph_6 : decode cX4_extendParagraph 6 = .ok (.ifCond .ne 26, 3) := by decide +kernel
theorem dX4_extendParagraph_9 : decode cX4_extendParagraph 9 = .ok (.aload_n 0, 1) := by decide +kernel
theorem dX4_extendParagraph_10 : decode cX4_extendParagraph 10 = .ok (.getfield 23, 3) := by decide +kernel
theorem dX4_extendParagraph_13 : decode cX4_extendParagraph 13 = .ok (.iload_n 1, 1) := by decide +kernel
theorem dX4_extendParagraph_14 : decode cX4_extendParagraph 14 = .ok (.aload_n 0, 1) := by decide +kernel
theorem dX4_extendParagraph_15 : decode cX4_extendParagraph 15 = .ok (.getfield 64, 3) := by decide +kernel
theorem dX4_extendParagraph_18 : decode cX4_extendParagraph 18 = .ok (.iastore, 1) := by decide +kernel
theorem dX4_extendParagraph_19 : decode cX4_extendParagraph 19 = .ok (.aload_n 0, 1) := by decide +kernel
theorem dX4_extendParagraph_20 : decode cX4_extendParagraph 20 = .ok (.getfield 26, 3) := by decide +kernel
theorem dX4_extendParagraph_23 : decode cX4_extendParagraph 23 = .ok (.iload_n 1, 1) := by decide +kernel
theorem dX4_extendParagraph_24 : decode cX4_extendParagraph 24 = .ok (.aload_n 0, 1) := by decide +kernel
theorem dX4_extendParagraph_25 : decode cX4_extendParagraph 25 = .ok (.getfield 64, 3) := by decide +kernel
theorem dX4_extendParagraph_28 : decode cX4_extendParagraph 28 = .ok (.iastore, 1) := by decide +kernel
theorem dX4_extendParagraph_29 : decode cX4_extendParagraph 29 = .ok (.goto 28, 3) := by decide +kernel
theorem dX4_extendParagraph_32 : decode cX4_extendParagraph 32 = .ok (.aload_n 0, 1) := by decide +kernel
theorem dX4_extendParagraph_33 : decode cX4_extendParagraph 33 = .ok (.getfield 26, 3) := by decide +kernel
theorem dX4_extendParagraph_36 : decode cX4_extendParagraph 36 = .ok (.iload_n 1, 1) := by decide +kernel
theorem dX4_extendParagraph_37 : decode cX4_extendParagraph 37 = .ok (.iaload, 1) := by decide +kernel
theorem dX4_extendParagraph_38 : decode cX4_extendParagraph 38 = .ok (.aload_n 0, 1) := by decide +kernel
theorem dX4_extendParagraph_39 : decode cX4_extendParagraph 39 = .ok (.getfield 64, 3) := by decide +kernel
theorem dX4_extendParagraph_42 : decode cX4_extendParagraph 42 = .ok (.iconst 1, 1) := by decide +kernel
theorem dX4_extendParagraph_43 : decode cX4_extendParagraph 43 = .ok (.isub, 1) := by decide +kernel
theorem dX4_extendParagraph_44 : decode cX4_extendParagraph 44 = .ok (.if_icmp .ne 13, 3) := by decide +kernel
theorem dX4_extendParagraph_47 : decode cX4_extendParagraph 47 = .ok (.aload_n 0, 1) := by decide +kernel
theorem dX4_extendParagraph_48 : decode cX4_extendParagraph 48 = .ok (.getfield 26, 3) := by decide +kernel
theorem dX4_extendParagraph_51 : decode cX4_extendParagraph 51 = .ok (.iload_n 1, 1) := by decide +kernel
theorem dX4_extendParagraph_52 : decode cX4_extendParagraph 52 = .ok (.aload_n 0, 1) := by decide +kernel
theorem dX4_extendParagraph_53 : decode cX4_extendParagraph 53 = .ok (.getfield 64, 3) := by decide +kernel
theorem dX4_extendParagraph_56 : decode cX4_extendParagraph 56 = .ok (.iastore, 1) := by decide +kernel
theorem dX4_extendParagraph_57 : decode cX4_extendParagraph 57 = .ok (.return_, 1) := by decide +kernel
set_option maxRecDepth 20000 in
theorem ggX4_metAhead_X3_leastAhead : GoodIn wsX4_metAhead wsX3_leastAhead := goodIn_r _ [9, 10, 11, 12, 27, 28, 29, 30] (by decide +kernel) (by decide +kernel)
set_option maxRecDepth 20000 in
theorem gX4_metAhead_X3_leastAhead_n173 : GoodIn wsX4_metAhead (wsX3_leastAhead) := ggX4_metAhead_X3_leastAhead
theorem dX4_metAhead_0 : decode cX4_metAhead 0 = .ok (.aload_n 0, 1) := by decide +kernel
theorem dX4_metAhead_1 : decode cX4_metAhead 1 = .ok (.getfield 9, 3) := by decide +kernel
theorem dX4_metAhead_4 : decode cX4_metAhead 4 = .ok (.aload_n 0, 1) := by decide +kernel
theorem dX4_metAhead_5 : decode cX4_metAhead 5 = .ok (.getfield 72, 3) := by decide +kernel
theorem dX4_metAhead_8 : decode cX4_metAhead 8 = .ok (.iaload, 1) := by decide +kernel
theorem dX4_metAhead_9 : decode cX4_metAhead 9 = .ok (.istore_n 1, 1) := by decide +kernel
theorem dX4_metAhead_10 : decode cX4_metAhead 10 = .ok (.aload_n 0, 1) := by decide +kernel
theorem dX4_metAhead_11 : decode cX4_metAhead 11 = .ok (.getfield 23, 3) := by decide +kernel
theorem dX4_metAhead_14 : decode cX4_metAhead 14 = .ok (.iload_n 1, 1) := by decide +kernel
theorem dX4_metAhead_15 : decode cX4_metAhead 15 = .ok (.iaload, 1) := by decide +kernel
theorem dX4_metAhead_16 : decode cX4_metAhead 16 = .ok (.aload_n 0, 1) := by decide +kernel
theorem dX4_metAhead_17 : decode cX4_metAhead 17 = .ok (.getfield 72, 3) := by decide +kernel
theorem dX4_metAhead_20 : decode cX4_metAhead 20 = .ok (.if_icmp .ne 7, 3) := by decide +kernel
theorem dX4_metAhead_23 : decode cX4_metAhead 23 = .ok (.iload_n 1, 1) := by decide +kernel
theorem dX4_metAhead_24 : decode cX4_metAhead 24 = .ok (.goto 4, 3) := by decide +kernel
theorem dX4_metAhead_27 : decode cX4_metAhead 27 = .ok (.iconst (-1), 1) := by decide +kernel
theorem dX4_metAhead_28 : decode cX4_metAhead 28 = .ok (.istore_n 2, 1) := by decide +kernel
theorem dX4_metAhead_29 : decode cX4_metAhead 29 = .ok (.aload_n 0, 1) := by decide +kernel
theorem dX4_metAhead_30 : decode cX4_metAhead 30 = .ok (.getfield 42, 3) := by decide +kernel
theorem dX4_metAhead_33 : decode cX4_metAhead 33 = .ok (.iload_n 2, 1) := by decide +kernel
theorem dX4_metAhead_34 : decode cX4_metAhead 34 = .ok (.aload_n 0, 1) := by decide +kernel
theorem dX4_metAhead_35 : decode cX4_metAhead 35 = .ok (.getfield 13, 3) := by decide +kernel
theorem dX4_metAhead_38 : decode cX4_metAhead 38 = .ok (.aload_n 0, 1) := by decide +kernel
theorem dX4_metAhead_39 : decode cX4_metAhead 39 = .ok (.getfield 72, 3) := by decide +kernel
theorem dX4_metAhead_42 : decode cX4_metAhead 42 = .ok (.iaload, 1) := by decide +kernel
theorem dX4_metAhead_43 : decode cX4_metAhead 43 = .ok (.invokevirtual 173, 3) := by decide +kernel
theorem dX4_metAhead_46 : decode cX4_metAhead 46 = .ok (.ireturn, 1) := by decide +kernel
set_option maxRecDepth 20000 in
theorem ggX4_runOne_X1_keep : GoodIn wsX4_runOne wsX1_keep := goodIn_r _ [11, 12, 13, 14, 15, 16, 17, 18, 19, 20, 21, 22, 23, 24, 25, 26, 27, 28, 29, 30, 140, 141, 142, 143, 144, 145, 146, 147, 148, 149, 150] (by decide +kernel) (by decide +kernel)
set_option maxRecDepth 20000 in
theorem gX4_runOne_X1_keep_n176 : GoodIn wsX4_runOne (wsX1_keep) := ggX4_runOne_X1_keep
set_option maxRecDepth 20000 in
theorem ggX4_runOne_X4_goInto : GoodIn wsX4_runOne wsX4_goInto := goodIn_r _ [35, 36, 37, 38, 39, 3, 1, 40, 41, 42, 43, 44, 45, 46, 47, 48, 49, 34, 50, 51, 52, 53, 54, 55, 56, 57, 58, 59, 60, 61, 9, 62, 63, 64, 13, 65, 66, 67, 126, 127, 128, 129, 130, 131, 132, 133, 134, 135, 136, 137, 138, 139, 151, 152, 153, 154, 155, 156, 140, 141, 142, 143, 144, 145, 146] (by decide +kernel) (by decide +kernel)
set_option maxRecDepth 20000 in
theorem gX4_runOne_X4_goInto : GoodIn wsX4_runOne (wsV RX4 180 RX4 yX4_goInto wsX4_goInto) := goodIn_app (goodIn_of _ (by decide +kernel)) ggX4_runOne_X4_goInto
set_option maxRecDepth 20000 in
theorem ggX4_runOne_X4_addTo : GoodIn wsX4_runOne wsX4_addTo := goodIn_r _ [71, 4, 39, 72, 27, 73, 74, 75, 76, 77, 78, 79, 80, 81, 82, 83, 84, 85, 86, 87, 88, 89, 90, 91, 92, 93, 94, 95, 96, 97, 98, 99, 100, 101, 102, 103, 104, 105, 106, 107, 108, 109, 110, 111, 112, 113, 114, 115, 116, 117, 118, 119, 120, 121, 122, 123, 124, 17, 125, 126, 127, 128, 129, 130, 131, 132, 133, 134, 135, 136, 137, 138, 139, 147, 148, 149, 150] (by decide +kernel) (by decide +kernel)
set_option maxRecDepth 20000 in
theorem gX4_runOne_X4_addTo : GoodIn wsX4_runOne (wsV RX4 184 RX4 yX4_addTo wsX4_addTo) := goodIn_app (goodIn_of _ (by decide +kernel)) ggX4_runOne_X4_addTo
set_option maxRecDepth 20000 in
theorem ggX4_runOne_X4_goBehind : GoodIn wsX4_runOne wsX4_goBehind := goodIn_r _ [50, 37, 3, 51, 1, 52, 41, 53, 54, 44, 46, 55, 56, 57, 58, 59, 45, 60, 61, 9, 62, 63, 64, 13, 126, 127, 128, 129, 130, 131, 132, 133, 134, 135, 136, 137, 138, 139, 151, 152, 153, 154, 155, 156, 140, 141, 142, 143, 144, 145, 146] (by decide +kernel) (by decide +kernel)
set_option maxRecDepth 20000 in
theorem gX4_runOne_X4_goBehind : GoodIn wsX4_runOne (wsV RX4 187 RX4 yX4_goBehind wsX4_goBehind) := goodIn_app (goodIn_of _ (by decide +kernel)) ggX4_runOne_X4_goBehind
theorem dX4_runOne_0 : decode cX4_runOne 0 = .ok (.aload_n 0, 1) := by decide +kernel
theorem dX4_runOne_1 : decode cX4_runOne 1 = .ok (.getfield 72, 3) := by decide +kernel
theorem dX4_runOne_4 : decode cX4_runOne 4 = .ok (.istore_n 1, 1) := by decide +kernel
theorem dX4_runOne_5 : decode cX4_runOne 5 = .ok (.aload_n 0, 1) := by decide +kernel
theorem dX4_runOne_6 : decode cX4_runOne 6 = .ok (.getfield 16, 3) := by decide +kernel
theorem dX4_runOne_9 : decode cX4_runOne 9 = .ok (.iload_n 1, 1) := by decide +kernel
theorem dX4_runOne_10 : decode cX4_runOne 10 = .ok (.iaload, 1) := by decide +kernel
theorem dX4_runOne_11 : decode cX4_runOne 11 = .ok (.istore_n 2, 1) := by decide +kernel
theorem dX4_runOne_12 : decode cX4_runOne 12 = .ok (.aload_n 0, 1) := by decide +kernel
theorem dX4_runOne_13 : decode cX4_runOne 13 = .ok (.getfield 56, 3) := by decide +kernel
theorem dX4_runOne_16 : decode cX4_runOne 16 = .ok (.iload_n 1, 1) := by decide +kernel
theorem dX4_runOne_17 : decode cX4_runOne 17 = .ok (.iload_n 2, 1) := by decide +kernel
theorem dX4_runOne_18 : decode cX4_runOne 18 = .ok (.aload_n 0, 1) := by decide +kernel
theorem dX4_runOne_19 : decode cX4_runOne 19 = .ok (.getfield 35, 3) := by decide +kernel
theorem dX4_runOne_22 : decode cX4_runOne 22 = .ok (.invokevirtual 176, 3) := by decide +kernel
theorem dX4_runOne_25 : decode cX4_runOne 25 = .ok (.aload_n 0, 1) := by decide +kernel
theorem dX4_runOne_26 : decode cX4_runOne 26 = .ok (.getfield 29, 3) := by decide +kernel
theorem dX4_runOne_29 : decode cX4_runOne 29 = .ok (.aload_n 0, 1) := by decide +kernel
theorem dX4_runOne_30 : decode cX4_runOne 30 = .ok (.getfield 9, 3) := by decide +kernel
theorem dX4_runOne_33 : decode cX4_runOne 33 = .ok (.iload_n 1, 1) := by decide +kernel
theorem dX4_runOne_34 : decode cX4_runOne 34 = .ok (.iaload, 1) := by decide +kernel
theorem dX4_runOne_35 : decode cX4_runOne 35 = .ok (.dup2, 1) := by decide +kernel
theorem dX4_runOne_36 : decode cX4_runOne 36 = .ok (.iaload, 1) := by decide +kernel
theorem dX4_runOne_37 : decode cX4_runOne 37 = .ok (.iconst 1, 1) := by decide +kernel
theorem dX4_runOne_38 : decode cX4_runOne 38 = .ok (.iadd, 1) := by decide +kernel
theorem dX4_runOne_39 : decode cX4_runOne 39 = .ok (.iastore, 1) := by decide +kernel
theorem dX4_runOne_40 : decode cX4_runOne 40 = .ok (.iload_n 2, 1) := by decide +kernel
theorem dX4_runOne_41 : decode cX4_runOne 41 = .ok (.bipush (-2), 2) := by decide +kernel
theorem dX4_runOne_43 : decode cX4_runOne 43 = .ok (.if_icmp .gt 14, 3) := by decide +kernel
theorem dX4_runOne_46 : decode cX4_runOne 46 = .ok (.aload_n 0, 1) := by decide +kernel
theorem dX4_runOne_47 : decode cX4_runOne 47 = .ok (.iload_n 1, 1) := by decide +kernel
theorem dX4_runOne_48 : decode cX4_runOne 48 = .ok (.bipush (-2), 2) := by decide +kernel
theorem dX4_runOne_50 : decode cX4_runOne 50 = .ok (.iload_n 2, 1) := by decide +kernel
theorem dX4_runOne_51 : decode cX4_runOne 51 = .ok (.isub, 1) := by decide +kernel
theorem dX4_runOne_52 : decode cX4_runOne 52 = .ok (.invokevirtual 180, 3) := by decide +kernel
theorem dX4_runOne_55 : decode cX4_runOne 55 = .ok (.iconst (-1), 1) := by decide +kernel
theorem dX4_runOne_56 : decode cX4_runOne 56 = .ok (.ireturn, 1) := by decide +kernel
theorem dX4_runOne_57 : decode cX4_runOne 57 = .ok (.iload_n 2, 1) := by decide +kernel
theorem dX4_runOne_58 : decode cX4_runOne 58 = .ok (.ifCond .lt 21, 3) := by decide +kernel
theorem dX4_runOne_61 : decode cX4_runOne 61 = .ok (.aload_n 0, 1) := by decide +kernel
theorem dX4_runOne_62 : decode cX4_runOne 62 = .ok (.iload_n 2, 1) := by decide +kernel
theorem dX4_runOne_63 : decode cX4_runOne 63 = .ok (.aload_n 0, 1) := by decide +kernel
theorem dX4_runOne_64 : decode cX4_runOne 64 = .ok (.getfield 19, 3) := by decide +kernel
theorem dX4_runOne_67 : decode cX4_runOne 67 = .ok (.iload_n 1, 1) := by decide +kernel
theorem dX4_runOne_68 : decode cX4_runOne 68 = .ok (.laload, 1) := by decide +kernel
theorem dX4_runOne_69 : decode cX4_runOne 69 = .ok (.invokevirtual 184, 3) := by decide +kernel
theorem dX4_runOne_72 : decode cX4_runOne 72 = .ok (.ifCond .eq 7, 3) := by decide +kernel
theorem dX4_runOne_75 : decode cX4_runOne 75 = .ok (.iconst 1, 1) := by decide +kernel
theorem dX4_runOne_76 : decode cX4_runOne 76 = .ok (.goto 4, 3) := by decide +kernel
theorem dX4_runOne_79 : decode cX4_runOne 79 = .ok (.iconst 0, 1) := by decide +kernel
theorem dX4_runOne_80 : decode cX4_runOne 80 = .ok (.istore_n 3, 1) := by decide +kernel
theorem dX4_runOne_81 : decode cX4_runOne 81 = .ok (.aload_n 0, 1) := by decide +kernel
theorem dX4_runOne_82 : decode cX4_runOne 82 = .ok (.iload_n 1, 1) := by decide +kernel
theorem dX4_runOne_83 : decode cX4_runOne 83 = .ok (.invokevirtual 187, 3) := by decide +kernel
theorem dX4_runOne_86 : decode cX4_runOne 86 = .ok (.iload_n 3, 1) := by decide +kernel
theorem dX4_runOne_87 : decode cX4_runOne 87 = .ok (.ifCond .eq 7, 3) := by decide +kernel
theorem dX4_runOne_90 : decode cX4_runOne 90 = .ok (.iload_n 2, 1) := by decide +kernel
theorem dX4_runOne_91 : decode cX4_runOne 91 = .ok (.goto 4, 3) := by decide +kernel
theorem dX4_runOne_94 : decode cX4_runOne 94 = .ok (.iconst (-1), 1) := by decide +kernel
theorem dX4_runOne_95 : decode cX4_runOne 95 = .ok (.ireturn, 1) := by decide +kernel
set_option maxRecDepth 20000 in
theorem ggX4_addTo_X0_isBad : GoodIn wsX4_addTo wsX0_isBad := goodIn_r _ [6, 7, 8, 9, 10, 11, 4, 12, 13, 14, 15, 16, 73, 74, 75, 76] (by decide +kernel) (by decide +kernel)
set_option maxRecDepth 20000 in
theorem gX4_addTo_X0_isBad_n110 : GoodIn wsX4_addTo (wsX0_isBad) := ggX4_addTo_X0_isBad
set_option maxRecDepth 20000 in
theorem ggX4_addTo_X0_isConstant : GoodIn wsX4_addTo wsX0_isConstant := goodIn_r _ [19, 7, 73, 74, 75, 76] (by decide +kernel) (by decide +kernel)
set_option maxRecDepth 20000 in
theorem gX4_addTo_X0_isConstant_n122 : GoodIn wsX4_addTo (wsX0_isConstant) := ggX4_addTo_X0_isConstant
set_option maxRecDepth 20000 in
theorem ggX4_addTo_X0_add : GoodIn wsX4_addTo wsX0_add := goodIn_r _ [22, 7, 23, 8, 24, 25, 26, 4, 27, 28, 29, 30, 31, 9, 10, 11, 12, 13, 32, 33, 34, 35, 36, 37, 38, 39, 40, 41, 42, 43, 44, 45, 46, 47, 48, 49, 50, 51, 52, 53, 54, 55, 56, 57, 58, 73, 74, 75, 76] (by decide +kernel) (by decide +kernel)
set_option maxRecDepth 20000 in
theorem gX4_addTo_X0_add_n190 : GoodIn wsX4_addTo (wsX0_add) := ggX4_addTo_X0_add
theorem dX4_addTo_0 : decode cX4_addTo 0 = .ok (.aload_n 0, 1) := by decide +kernel
theorem dX4_addTo_1 : decode cX4_addTo 1 = .ok (.getfield 35, 3) := by decide +kernel
theorem dX4_addTo_4 : decode cX4_addTo 4 = .ok (.iload_n 1, 1) := by decide +kernel
theorem dX4_addTo_5 : decode cX4_addTo 5 = .ok (.invokevirtual 110, 3) := by decide +kernel
theorem dX4_addTo_8 : decode cX4_addTo 8 = .ok (.ifCond .eq 15, 3) := by decide +kernel
theorem dX4_addTo_11 : decode cX4_addTo 11 = .ok (.aload_n 0, 1) := by decide +kernel
theorem dX4_addTo_12 : decode cX4_addTo 12 = .ok (.dup, 1) := by decide +kernel
theorem dX4_addTo_13 : decode cX4_addTo 13 = .ok (.getfield 167, 3) := by decide +kernel
theorem dX4_addTo_16 : decode cX4_addTo 16 = .ok (.iconst 1, 1) := by decide +kernel
theorem dX4_addTo_17 : decode cX4_addTo 17 = .ok (.iadd, 1) := by decide +kernel
theorem dX4_addTo_18 : decode cX4_addTo 18 = .ok (.putfield 167, 3) := by decide +kernel
theorem dX4_addTo_21 : decode cX4_addTo 21 = .ok (.iconst 0, 1) := by decide +kernel
theorem dX4_addTo_22 : decode cX4_addTo 22 = .ok (.ireturn, 1) := by decide +kernel
theorem dX4_addTo_23 : decode cX4_addTo 23 = .ok (.aload_n 0, 1) := by decide +kernel
theorem dX4_addTo_24 : decode cX4_addTo 24 = .ok (.getfield 35, 3) := by decide +kernel
theorem dX4_addTo_27 : decode cX4_addTo 27 = .ok (.iload_n 1, 1) := by decide +kernel
theorem dX4_addTo_28 : decode cX4_addTo 28 = .ok (.invokevirtual 122, 3) := by decide +kernel
theorem dX4_addTo_31 : decode cX4_addTo 31 = .ok (.ifCond .ne 19, 3) := by decide +kernel
theorem dX4_addTo_34 : decode cX4_addTo 34 = .ok (.aload_n 0, 1) := by decide +kernel
theorem dX4_addTo_35 : decode cX4_addTo 35 = .ok (.getfield 35, 3) := by decide +kernel
theorem dX4_addTo_38 : decode cX4_addTo 38 = .ok (.iload_n 1, 1) := by decide +kernel
theorem dX4_addTo_39 : decode cX4_addTo 39 = .ok (.lload_n 2, 1) := by decide +kernel
theorem dX4_addTo_40 : decode cX4_addTo 40 = .ok (.invokevirtual 190, 3) := by decide +kernel
theorem dX4_addTo_43 : decode cX4_addTo 43 = .ok (.ifCond .eq 7, 3) := by decide +kernel
theorem dX4_addTo_46 : decode cX4_addTo 46 = .ok (.iconst 1, 1) := by decide +kernel
theorem dX4_addTo_47 : decode cX4_addTo 47 = .ok (.goto 4, 3) := by decide +kernel
theorem dX4_addTo_50 : decode cX4_addTo 50 = .ok (.iconst 0, 1) := by decide +kernel
theorem dX4_addTo_51 : decode cX4_addTo 51 = .ok (.ireturn, 1) := by decide +kernel
set_option maxRecDepth 20000 in
theorem ggX4_goInto_X2_enter : GoodIn wsX4_goInto wsX2_enter := goodIn_r _ [10, 11, 12, 13, 52, 53, 54, 55, 56, 57] (by decide +kernel) (by decide +kernel)
set_option maxRecDepth 20000 in
theorem gX4_goInto_X2_enter_n193 : GoodIn wsX4_goInto (wsX2_enter) := ggX4_goInto_X2_enter
set_option maxRecDepth 20000 in
theorem ggX4_goInto_X4_goBehind : GoodIn wsX4_goInto wsX4_goBehind := goodIn_r _ [18, 2, 5, 19, 6, 20, 8, 21, 22, 11, 13, 23, 24, 25, 26, 27, 12, 28, 29, 30, 31, 32, 33, 34, 38, 39, 40, 41, 42, 43, 44, 45, 46, 47, 48, 49, 50, 51, 52, 53, 54, 55, 56, 57, 58, 59, 60, 61, 62, 63, 64] (by decide +kernel) (by decide +kernel)
set_option maxRecDepth 20000 in
theorem gX4_goInto_X4_goBehind : GoodIn wsX4_goInto (wsV RX4 187 RX4 yX4_goBehind wsX4_goBehind) := goodIn_app (goodIn_of _ (by decide +kernel)) ggX4_goInto_X4_goBehind
set_option maxRecDepth 20000 in
theorem ggX4_goInto_X1_noteEntered : GoodIn wsX4_goInto wsX1_noteEntered := goodIn_r _ [37, 33, 34, 58, 59, 60, 61, 62, 63, 64] (by decide +kernel) (by decide +kernel)
set_option maxRecDepth 20000 in
theorem gX4_goInto_X1_noteEntered_n196 : GoodIn wsX4_goInto (wsX1_noteEntered) := ggX4_goInto_X1_noteEntered
theorem dX4_goInto_0 : decode cX4_goInto 0 = .ok (.aload_n 0, 1) := by decide +kernel
theorem dX4_goInto_1 : decode cX4_goInto 1 = .ok (.getfield 23, 3) := by decide +kernel
theorem dX4_goInto_4 : decode cX4_goInto 4 = .ok (.iload_n 2, 1) := by decide +kernel
theorem dX4_goInto_5 : decode cX4_goInto 5 = .ok (.iaload, 1) := by decide +kernel
theorem dX4_goInto_6 : decode cX4_goInto 6 = .ok (.istore_n 3, 1) := by decide +kernel
theorem dX4_goInto_7 : decode cX4_goInto 7 = .ok (.iload_n 3, 1) := by decide +kernel
theorem dX4_goInto_8 : decode cX4_goInto 8 = .ok (.ifCond .eq 20, 3) := by decide +kernel
theorem dX4_goInto_11 : decode cX4_goInto 11 = .ok (.aload_n 0, 1) := by decide +kernel
theorem dX4_goInto_12 : decode cX4_goInto 12 = .ok (.getfield 49, 3) := by decide +kernel
theorem dX4_goInto_15 : decode cX4_goInto 15 = .ok (.iload_n 1, 1) := by decide +kernel
theorem dX4_goInto_16 : decode cX4_goInto 16 = .ok (.aload_n 0, 1) := by decide +kernel
theorem dX4_goInto_17 : decode cX4_goInto 17 = .ok (.getfield 26, 3) := by decide +kernel
theorem dX4_goInto_20 : decode cX4_goInto 20 = .ok (.iload_n 2, 1) := by decide +kernel
theorem dX4_goInto_21 : decode cX4_goInto 21 = .ok (.iaload, 1) := by decide +kernel
theorem dX4_goInto_22 : decode cX4_goInto 22 = .ok (.invokevirtual 193, 3) := by decide +kernel
theorem dX4_goInto_25 : decode cX4_goInto 25 = .ok (.ifCond .ne 19, 3) := by decide +kernel
theorem dX4_goInto_28 : decode cX4_goInto 28 = .ok (.aload_n 0, 1) := by decide +kernel
theorem dX4_goInto_29 : decode cX4_goInto 29 = .ok (.dup, 1) := by decide +kernel
theorem dX4_goInto_30 : decode cX4_goInto 30 = .ok (.getfield 167, 3) := by decide +kernel
theorem dX4_goInto_33 : decode cX4_goInto 33 = .ok (.iconst 1, 1) := by decide +kernel
theorem dX4_goInto_34 : decode cX4_goInto 34 = .ok (.iadd, 1) := by decide +kernel
theorem dX4_goInto_35 : decode cX4_goInto 35 = .ok (.putfield 167, 3) := by decide +kernel
theorem dX4_goInto_38 : decode cX4_goInto 38 = .ok (.aload_n 0, 1) := by decide +kernel
theorem dX4_goInto_39 : decode cX4_goInto 39 = .ok (.iload_n 1, 1) := by decide +kernel
theorem dX4_goInto_40 : decode cX4_goInto 40 = .ok (.invokevirtual 187, 3) := by decide +kernel
theorem dX4_goInto_43 : decode cX4_goInto 43 = .ok (.return_, 1) := by decide +kernel
theorem dX4_goInto_44 : decode cX4_goInto 44 = .ok (.aload_n 0, 1) := by decide +kernel
theorem dX4_goInto_45 : decode cX4_goInto 45 = .ok (.getfield 56, 3) := by decide +kernel
theorem dX4_goInto_48 : decode cX4_goInto 48 = .ok (.invokevirtual 196, 3) := by decide +kernel
theorem dX4_goInto_51 : decode cX4_goInto 51 = .ok (.aload_n 0, 1) := by decide +kernel
theorem dX4_goInto_52 : decode cX4_goInto 52 = .ok (.iload_n 3, 1) := by decide +kernel
theorem dX4_goInto_53 : decode cX4_goInto 53 = .ok (.putfield 72, 3) := by decide +kernel
theorem dX4_goInto_56 : decode cX4_goInto 56 = .ok (.return_, 1) := by decide +kernel
set_option maxRecDepth 20000 in
theorem ggX4_goBehind_X2_endsAt : GoodIn wsX4_goBehind wsX2_endsAt := goodIn_r _ [8, 9, 10, 38, 39, 40, 41, 42, 43] (by decide +kernel) (by decide +kernel)
set_option maxRecDepth 20000 in
theorem gX4_goBehind_X2_endsAt_n199 : GoodIn wsX4_goBehind (wsX2_endsAt) := ggX4_goBehind_X2_endsAt
set_option maxRecDepth 20000 in
theorem ggX4_goBehind_X2_leave : GoodIn wsX4_goBehind wsX2_leave := goodIn_r _ [13, 9, 14, 15, 16, 17, 10, 38, 39, 40, 41, 42, 43] (by decide +kernel) (by decide +kernel)
set_option maxRecDepth 20000 in
theorem gX4_goBehind_X2_leave_n202 : GoodIn wsX4_goBehind (wsX2_leave) := ggX4_goBehind_X2_leave
set_option maxRecDepth 20000 in
theorem ggX4_goBehind_X1_noteLeft : GoodIn wsX4_goBehind wsX1_noteLeft := goodIn_r _ [21, 22, 23, 44, 45, 46, 47, 48, 49, 50] (by decide +kernel) (by decide +kernel)
set_option maxRecDepth 20000 in
theorem gX4_goBehind_X1_noteLeft_n205 : GoodIn wsX4_goBehind (wsX1_noteLeft) := ggX4_goBehind_X1_noteLeft
theorem dX4_goBehind_0 : decode cX4_goBehind 0 = .ok (.iload_n 1, 1) := by decide +kernel
theorem dX4_goBehind_1 : decode cX4_goBehind 1 = .ok (.istore_n 2, 1) := by decide +kernel
theorem dX4_goBehind_2 : decode cX4_goBehind 2 = .ok (.iconst 0, 1) := by decide +kernel
theorem dX4_goBehind_3 : decode cX4_goBehind 3 = .ok (.istore_n 3, 1) := by decide +kernel
theorem dX4_goBehind_4 : decode cX4_goBehind 4 = .ok (.iload_n 3, 1) := by decide +kernel
theorem dX4_goBehind_5 : decode cX4_goBehind 5 = .ok (.bipush 20, 2) := by decide +kernel
theorem dX4_goBehind_7 : decode cX4_goBehind 7 = .ok (.if_icmp .ge 28, 3) := by decide +kernel
theorem dX4_goBehind_10 : decode cX4_goBehind 10 = .ok (.aload_n 0, 1) := by decide +kernel
theorem dX4_goBehind_11 : decode cX4_goBehind 11 = .ok (.getfield 49, 3) := by decide +kernel
theorem dX4_goBehind_14 : decode cX4_goBehind 14 = .ok (.iload_n 2, 1) := by decide +kernel
theorem dX4_goBehind_15 : decode cX4_goBehind 15 = .ok (.invokevirtual 199, 3) := by decide +kernel
theorem dX4_goBehind_18 : decode cX4_goBehind 18 = .ok (.ifCond .eq 17, 3) := by decide +kernel
theorem dX4_goBehind_21 : decode cX4_goBehind 21 = .ok (.aload_n 0, 1) := by decide +kernel
theorem dX4_goBehind_22 : decode cX4_goBehind 22 = .ok (.getfield 49, 3) := by decide +kernel
theorem dX4_goBehind_25 : decode cX4_goBehind 25 = .ok (.invokevirtual 202, 3) := by decide +kernel
theorem dX4_goBehind_28 : decode cX4_goBehind 28 = .ok (.istore_n 2, 1) := by decide +kernel
theorem dX4_goBehind_29 : decode cX4_goBehind 29 = .ok (.iinc 3 1, 3) := by decide +kernel
theorem dX4_goBehind_32 : decode cX4_goBehind 32 = .ok (.goto (-28), 3) := by decide +kernel
theorem dX4_goBehind_35 : decode cX4_goBehind 35 = .ok (.aload_n 0, 1) := by decide +kernel
theorem dX4_goBehind_36 : decode cX4_goBehind 36 = .ok (.getfield 56, 3) := by decide +kernel
theorem dX4_goBehind_39 : decode cX4_goBehind 39 = .ok (.iload_n 3, 1) := by decide +kernel
theorem dX4_goBehind_40 : decode cX4_goBehind 40 = .ok (.invokevirtual 205, 3) := by decide +kernel
theorem dX4_goBehind_43 : decode cX4_goBehind 43 = .ok (.aload_n 0, 1) := by decide +kernel
theorem dX4_goBehind_44 : decode cX4_goBehind 44 = .ok (.iload_n 2, 1) := by decide +kernel
theorem dX4_goBehind_45 : decode cX4_goBehind 45 = .ok (.aload_n 0, 1) := by decide +kernel
theorem dX4_goBehind_46 : decode cX4_goBehind 46 = .ok (.getfield 64, 3) := by decide +kernel
theorem dX4_goBehind_49 : decode cX4_goBehind 49 = .ok (.if_icmp .ge 9, 3) := by decide +kernel
theorem dX4_goBehind_52 : decode cX4_goBehind 52 = .ok (.iload_n 2, 1) := by decide +kernel
theorem dX4_goBehind_53 : decode cX4_goBehind 53 = .ok (.iconst 1, 1) := by decide +kernel
theorem dX4_goBehind_54 : decode cX4_goBehind 54 = .ok (.iadd, 1) := by decide +kernel
theorem dX4_goBehind_55 : decode cX4_goBehind 55 = .ok (.goto 4, 3) := by decide +kernel
theorem dX4_goBehind_58 : decode cX4_goBehind 58 = .ok (.iconst 0, 1) := by decide +kernel
theorem dX4_goBehind_59 : decode cX4_goBehind 59 = .ok (.putfield 72, 3) := by decide +kernel
theorem dX4_goBehind_62 : decode cX4_goBehind 62 = .ok (.return_, 1) := by decide +kernel
set_option maxRecDepth 20000 in
theorem ggX4_takeBackOne_X1_takeNewest : GoodIn wsX4_takeBackOne wsX1_takeNewest := goodIn_r _ [10, 11, 12, 13, 74, 75, 76, 77, 78, 79, 80] (by decide +kernel) (by decide +kernel)
set_option maxRecDepth 20000 in
theorem gX4_takeBackOne_X1_takeNewest_n208 : GoodIn wsX4_takeBackOne (wsX1_takeNewest) := ggX4_takeBackOne_X1_takeNewest
set_option maxRecDepth 20000 in
theorem ggX4_takeBackOne_X1_newestStatement : GoodIn wsX4_takeBackOne wsX1_newestStatement := goodIn_r _ [16, 17, 12, 74, 75, 76, 77, 78, 79, 80] (by decide +kernel) (by decide +kernel)
set_option maxRecDepth 20000 in
theorem gX4_takeBackOne_X1_newestStatement_n211 : GoodIn wsX4_takeBackOne (wsX1_newestStatement) := ggX4_takeBackOne_X1_newestStatement
set_option maxRecDepth 20000 in
theorem ggX4_takeBackOne_X1_restoreBytes : GoodIn wsX4_takeBackOne wsX1_restoreBytes := goodIn_r _ [20, 21, 12, 22, 23, 24, 25, 26, 27, 28, 29, 30, 31, 74, 75, 76, 77, 78, 79, 80, 81, 82, 83, 84] (by decide +kernel) (by decide +kernel)
set_option maxRecDepth 20000 in
theorem gX4_takeBackOne_X1_restoreBytes_n214 : GoodIn wsX4_takeBackOne (wsX1_restoreBytes) := ggX4_takeBackOne_X1_restoreBytes
set_option maxRecDepth 20000 in
theorem ggX4_takeBackOne_X1_newestEntered : GoodIn wsX4_takeBackOne wsX1_newestEntered := goodIn_r _ [34, 35, 12, 74, 75, 76, 77, 78, 79, 80] (by decide +kernel) (by decide +kernel)
set_option maxRecDepth 20000 in
theorem gX4_takeBackOne_X1_newestEntered_n218 : GoodIn wsX4_takeBackOne (wsX1_newestEntered) := ggX4_takeBackOne_X1_newestEntered
set_option maxRecDepth 20000 in
theorem ggX4_takeBackOne_X2_forgetNewest : GoodIn wsX4_takeBackOne wsX2_forgetNewest := goodIn_r _ [39, 40, 85, 86, 87, 88, 89, 90] (by decide +kernel) (by decide +kernel)
set_option maxRecDepth 20000 in
theorem gX4_takeBackOne_X2_forgetNewest_n222 : GoodIn wsX4_takeBackOne (wsX2_forgetNewest) := ggX4_takeBackOne_X2_forgetNewest
set_option maxRecDepth 20000 in
theorem ggX4_takeBackOne_X1_newestLeft : GoodIn wsX4_takeBackOne wsX1_newestLeft := goodIn_r _ [43, 35, 12, 44, 45, 46, 47, 74, 75, 76, 77, 78, 79, 80] (by decide +kernel) (by decide +kernel)
set_option maxRecDepth 20000 in
theorem gX4_takeBackOne_X1_newestLeft_n225 : GoodIn wsX4_takeBackOne (wsX1_newestLeft) := ggX4_takeBackOne_X1_newestLeft
set_option maxRecDepth 20000 in
theorem ggX4_takeBackOne_X2_reopen : GoodIn wsX4_takeBackOne wsX2_reopen := goodIn_r _ [50, 51, 52, 53, 54, 55, 56, 37, 57, 40, 58, 59, 85, 86, 87, 88, 89, 90] (by decide +kernel) (by decide +kernel)
set_option maxRecDepth 20000 in
theorem gX4_takeBackOne_X2_reopen_n228 : GoodIn wsX4_takeBackOne (wsX2_reopen) := ggX4_takeBackOne_X2_reopen
theorem dX4_takeBackOne_0 : decode cX4_takeBackOne 0 = .ok (.aload_n 0, 1) := by decide +kernel
theorem dX4_takeBackOne_1 : decode cX4_takeBackOne 1 = .ok (.getfield 56, 3) := by decide +kernel
theorem dX4_takeBackOne_4 : decode cX4_takeBackOne 4 = .ok (.invokevirtual 208, 3) := by decide +kernel
theorem dX4_takeBackOne_7 : decode cX4_takeBackOne 7 = .ok (.aload_n 0, 1) := by decide +kernel
theorem dX4_takeBackOne_8 : decode cX4_takeBackOne 8 = .ok (.aload_n 0, 1) := by decide +kernel
theorem dX4_takeBackOne_9 : decode cX4_takeBackOne 9 = .ok (.getfield 56, 3) := by decide +kernel
theorem dX4_takeBackOne_12 : decode cX4_takeBackOne 12 = .ok (.invokevirtual 211, 3) := by decide +kernel
theorem dX4_takeBackOne_15 : decode cX4_takeBackOne 15 = .ok (.putfield 72, 3) := by decide +kernel
theorem dX4_takeBackOne_18 : decode cX4_takeBackOne 18 = .ok (.aload_n 0, 1) := by decide +kernel
theorem dX4_takeBackOne_19 : decode cX4_takeBackOne 19 = .ok (.getfield 29, 3) := by decide +kernel
