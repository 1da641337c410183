theorem dX4_takeBackOne_22 : decode cX4_takeBackOne 22 = .ok (.aload_n 0, 1) := by decide +kernel
theorem dX4_takeBackOne_23 : decode cX4_takeBackOne 23 = .ok (.getfield 9, 3) := by decide +kernel
theorem dX4_takeBackOne_26 : decode cX4_takeBackOne 26 = .ok (.aload_n 0, 1) := by decide +kernel
theorem dX4_takeBackOne_27 : decode cX4_takeBackOne 27 = .ok (.getfield 72, 3) := by decide +kernel
theorem dX4_takeBackOne_30 : decode cX4_takeBackOne 30 = .ok (.iaload, 1) := by decide +kernel
theorem dX4_takeBackOne_31 : decode cX4_takeBackOne 31 = .ok (.dup2, 1) := by decide +kernel
theorem dX4_takeBackOne_32 : decode cX4_takeBackOne 32 = .ok (.iaload, 1) := by decide +kernel
theorem dX4_takeBackOne_33 : decode cX4_takeBackOne 33 = .ok (.iconst 1, 1) := by decide +kernel
theorem dX4_takeBackOne_34 : decode cX4_takeBackOne 34 = .ok (.isub, 1) := by decide +kernel
theorem dX4_takeBackOne_35 : decode cX4_takeBackOne 35 = .ok (.iastore, 1) := by decide +kernel
theorem dX4_takeBackOne_36 : decode cX4_takeBackOne 36 = .ok (.aload_n 0, 1) := by decide +kernel
theorem dX4_takeBackOne_37 : decode cX4_takeBackOne 37 = .ok (.getfield 56, 3) := by decide +kernel
theorem dX4_takeBackOne_40 : decode cX4_takeBackOne 40 = .ok (.aload_n 0, 1) := by decide +kernel
theorem dX4_takeBackOne_41 : decode cX4_takeBackOne 41 = .ok (.getfield 35, 3) := by decide +kernel
theorem dX4_takeBackOne_44 : decode cX4_takeBackOne 44 = .ok (.invokevirtual 214, 3) := by decide +kernel
theorem dX4_takeBackOne_47 : decode cX4_takeBackOne 47 = .ok (.aload_n 0, 1) := by decide +kernel
theorem dX4_takeBackOne_48 : decode cX4_takeBackOne 48 = .ok (.getfield 56, 3) := by decide +kernel
theorem dX4_takeBackOne_51 : decode cX4_takeBackOne 51 = .ok (.invokevirtual 218, 3) := by decide +kernel
theorem dX4_takeBackOne_54 : decode cX4_takeBackOne 54 = .ok (.ifCond .eq 10, 3) := by decide +kernel
theorem dX4_takeBackOne_57 : decode cX4_takeBackOne 57 = .ok (.aload_n 0, 1) := by decide +kernel
theorem dX4_takeBackOne_58 : decode cX4_takeBackOne 58 = .ok (.getfield 49, 3) := by decide +kernel
theorem dX4_takeBackOne_61 : decode cX4_takeBackOne 61 = .ok (.invokevirtual 222, 3) := by decide +kernel
theorem dX4_takeBackOne_64 : decode cX4_takeBackOne 64 = .ok (.aload_n 0, 1) := by decide +kernel
theorem dX4_takeBackOne_65 : decode cX4_takeBackOne 65 = .ok (.getfield 56, 3) := by decide +kernel
theorem dX4_takeBackOne_68 : decode cX4_takeBackOne 68 = .ok (.invokevirtual 225, 3) := by decide +kernel
theorem dX4_takeBackOne_71 : decode cX4_takeBackOne 71 = .ok (.istore_n 1, 1) := by decide +kernel
theorem dX4_takeBackOne_72 : decode cX4_takeBackOne 72 = .ok (.iconst 0, 1) := by decide +kernel
theorem dX4_takeBackOne_73 : decode cX4_takeBackOne 73 = .ok (.istore_n 2, 1) := by decide +kernel
theorem dX4_takeBackOne_74 : decode cX4_takeBackOne 74 = .ok (.iload_n 2, 1) := by decide +kernel
theorem dX4_takeBackOne_75 : decode cX4_takeBackOne 75 = .ok (.iload_n 1, 1) := by decide +kernel
theorem dX4_takeBackOne_76 : decode cX4_takeBackOne 76 = .ok (.if_icmp .ge 16, 3) := by decide +kernel
theorem dX4_takeBackOne_79 : decode cX4_takeBackOne 79 = .ok (.aload_n 0, 1) := by decide +kernel
theorem dX4_takeBackOne_80 : decode cX4_takeBackOne 80 = .ok (.getfield 49, 3) := by decide +kernel
theorem dX4_takeBackOne_83 : decode cX4_takeBackOne 83 = .ok (.invokevirtual 228, 3) := by decide +kernel
theorem dX4_takeBackOne_86 : decode cX4_takeBackOne 86 = .ok (.iinc 2 1, 3) := by decide +kernel
theorem dX4_takeBackOne_89 : decode cX4_takeBackOne 89 = .ok (.goto (-15), 3) := by decide +kernel
theorem dX4_takeBackOne_92 : decode cX4_takeBackOne 92 = .ok (.return_, 1) := by decide +kernel
theorem dX5_init_0 : decode cX5_init 0 = .ok (.aload_n 0, 1) := by decide +kernel
theorem dX5_init_1 : decode cX5_init 1 = .ok (.invokespecial 1, 3) := by decide +kernel
theorem dX5_init_4 : decode cX5_init 4 = .ok (.aload_n 0, 1) := by decide +kernel
theorem dX5_init_5 : decode cX5_init 5 = .ok (.bipush 102, 2) := by decide +kernel
theorem dX5_init_7 : decode cX5_init 7 = .ok (.newarray .int, 2) := by decide +kernel
theorem dX5_init_9 : decode cX5_init 9 = .ok (.putfield 7, 3) := by decide +kernel
theorem dX5_init_12 : decode cX5_init 12 = .ok (.aload_n 0, 1) := by decide +kernel
theorem dX5_init_13 : decode cX5_init 13 = .ok (.bipush 102, 2) := by decide +kernel
theorem dX5_init_15 : decode cX5_init 15 = .ok (.newarray .int, 2) := by decide +kernel
theorem dX5_init_17 : decode cX5_init 17 = .ok (.putfield 13, 3) := by decide +kernel
theorem dX5_init_20 : decode cX5_init 20 = .ok (.aload_n 0, 1) := by decide +kernel
theorem dX5_init_21 : decode cX5_init 21 = .ok (.bipush 102, 2) := by decide +kernel
theorem dX5_init_23 : decode cX5_init 23 = .ok (.newarray .int, 2) := by decide +kernel
theorem dX5_init_25 : decode cX5_init 25 = .ok (.putfield 16, 3) := by decide +kernel
theorem dX5_init_28 : decode cX5_init 28 = .ok (.aload_n 0, 1) := by decide +kernel
theorem dX5_init_29 : decode cX5_init 29 = .ok (.bipush 102, 2) := by decide +kernel
theorem dX5_init_31 : decode cX5_init 31 = .ok (.newarray .long, 2) := by decide +kernel
theorem dX5_init_33 : decode cX5_init 33 = .ok (.putfield 19, 3) := by decide +kernel
theorem dX5_init_36 : decode cX5_init 36 = .ok (.aload_n 0, 1) := by decide +kernel
theorem dX5_init_37 : decode cX5_init 37 = .ok (.bipush 30, 2) := by decide +kernel
theorem dX5_init_39 : decode cX5_init 39 = .ok (.newarray .int, 2) := by decide +kernel
theorem dX5_init_41 : decode cX5_init 41 = .ok (.putfield 23, 3) := by decide +kernel
theorem dX5_init_44 : decode cX5_init 44 = .ok (.aload_n 0, 1) := by decide +kernel
theorem dX5_init_45 : decode cX5_init 45 = .ok (.bipush 30, 2) := by decide +kernel
theorem dX5_init_47 : decode cX5_init 47 = .ok (.newarray .int, 2) := by decide +kernel
theorem dX5_init_49 : decode cX5_init 49 = .ok (.putfield 26, 3) := by decide +kernel
theorem dX5_init_52 : decode cX5_init 52 = .ok (.aload_n 0, 1) := by decide +kernel
theorem dX5_init_53 : decode cX5_init 53 = .ok (.sipush 270, 3) := by decide +kernel
theorem dX5_init_56 : decode cX5_init 56 = .ok (.newarray .byte, 2) := by decide +kernel
theorem dX5_init_58 : decode cX5_init 58 = .ok (.putfield 29, 3) := by decide +kernel
theorem dX5_init_61 : decode cX5_init 61 = .ok (.aload_n 0, 1) := by decide +kernel
theorem dX5_init_62 : decode cX5_init 62 = .ok (.bipush 21, 2) := by decide +kernel
theorem dX5_init_64 : decode cX5_init 64 = .ok (.newarray .int, 2) := by decide +kernel
theorem dX5_init_66 : decode cX5_init 66 = .ok (.putfield 33, 3) := by decide +kernel
theorem dX5_init_69 : decode cX5_init 69 = .ok (.aload_n 0, 1) := by decide +kernel
theorem dX5_init_70 : decode cX5_init 70 = .ok (.bipush 21, 2) := by decide +kernel
theorem dX5_init_72 : decode cX5_init 72 = .ok (.newarray .int, 2) := by decide +kernel
theorem dX5_init_74 : decode cX5_init 74 = .ok (.putfield 36, 3) := by decide +kernel
theorem dX5_init_77 : decode cX5_init 77 = .ok (.aload_n 0, 1) := by decide +kernel
theorem dX5_init_78 : decode cX5_init 78 = .ok (.bipush 21, 2) := by decide +kernel
theorem dX5_init_80 : decode cX5_init 80 = .ok (.newarray .int, 2) := by decide +kernel
theorem dX5_init_82 : decode cX5_init 82 = .ok (.putfield 39, 3) := by decide +kernel
theorem dX5_init_85 : decode cX5_init 85 = .ok (.aload_n 0, 1) := by decide +kernel
theorem dX5_init_86 : decode cX5_init 86 = .ok (.bipush 20, 2) := by decide +kernel
theorem dX5_init_88 : decode cX5_init 88 = .ok (.newarray .int, 2) := by decide +kernel
theorem dX5_init_90 : decode cX5_init 90 = .ok (.putfield 42, 3) := by decide +kernel
theorem dX5_init_93 : decode cX5_init 93 = .ok (.aload_n 0, 1) := by decide +kernel
theorem dX5_init_94 : decode cX5_init 94 = .ok (.bipush 20, 2) := by decide +kernel
theorem dX5_init_96 : decode cX5_init 96 = .ok (.newarray .int, 2) := by decide +kernel
theorem dX5_init_98 : decode cX5_init 98 = .ok (.putfield 45, 3) := by decide +kernel
theorem dX5_init_101 : decode cX5_init 101 = .ok (.aload_n 0, 1) := by decide +kernel
theorem dX5_init_102 : decode cX5_init 102 = .ok (.bipush 20, 2) := by decide +kernel
theorem dX5_init_104 : decode cX5_init 104 = .ok (.newarray .int, 2) := by decide +kernel
theorem dX5_init_106 : decode cX5_init 106 = .ok (.putfield 48, 3) := by decide +kernel
theorem dX5_init_109 : decode cX5_init 109 = .ok (.aload_n 0, 1) := by decide +kernel
theorem dX5_init_110 : decode cX5_init 110 = .ok (.sipush 300, 3) := by decide +kernel
theorem dX5_init_113 : decode cX5_init 113 = .ok (.newarray .int, 2) := by decide +kernel
theorem dX5_init_115 : decode cX5_init 115 = .ok (.putfield 51, 3) := by decide +kernel
theorem dX5_init_118 : decode cX5_init 118 = .ok (.aload_n 0, 1) := by decide +kernel
theorem dX5_init_119 : decode cX5_init 119 = .ok (.sipush 300, 3) := by decide +kernel
theorem dX5_init_122 : decode cX5_init 122 = .ok (.newarray .int, 2) := by decide +kernel
theorem dX5_init_124 : decode cX5_init 124 = .ok (.putfield 54, 3) := by decide +kernel
theorem dX5_init_127 : decode cX5_init 127 = .ok (.aload_n 0, 1) := by decide +kernel
theorem dX5_init_128 : decode cX5_init 128 = .ok (.sipush 300, 3) := by decide +kernel
theorem dX5_init_131 : decode cX5_init 131 = .ok (.newarray .int, 2) := by decide +kernel
theorem dX5_init_133 : decode cX5_init 133 = .ok (.putfield 57, 3) := by decide +kernel
theorem dX5_init_136 : decode cX5_init 136 = .ok (.aload_n 0, 1) := by decide +kernel
theorem dX5_init_137 : decode cX5_init 137 = .ok (.sipush 6000, 3) := by decide +kernel
theorem dX5_init_140 : decode cX5_init 140 = .ok (.newarray .int, 2) := by decide +kernel
theorem dX5_init_142 : decode cX5_init 142 = .ok (.putfield 60, 3) := by decide +kernel
theorem dX5_init_145 : decode cX5_init 145 = .ok (.aload_n 0, 1) := by decide +kernel
theorem dX5_init_146 : decode cX5_init 146 = .ok (.sipush 6000, 3) := by decide +kernel
theorem dX5_init_149 : decode cX5_init 149 = .ok (.newarray .int, 2) := by decide +kernel
theorem dX5_init_151 : decode cX5_init 151 = .ok (.putfield 63, 3) := by decide +kernel
theorem dX5_init_154 : decode cX5_init 154 = .ok (.aload_n 0, 1) := by decide +kernel
theorem dX5_init_155 : decode cX5_init 155 = .ok (.sipush 2700, 3) := by decide +kernel
theorem dX5_init_158 : decode cX5_init 158 = .ok (.newarray .byte, 2) := by decide +kernel
theorem dX5_init_160 : decode cX5_init 160 = .ok (.putfield 66, 3) := by decide +kernel
theorem dX5_init_163 : decode cX5_init 163 = .ok (.return_, 1) := by decide +kernel
theorem dX5_isStatement_0 : decode cX5_isStatement 0 = .ok (.iload_n 1, 1) := by decide +kernel
theorem dX5_isStatement_1 : decode cX5_isStatement 1 = .ok (.ifCond .le 15, 3) := by decide +kernel
theorem dX5_isStatement_4 : decode cX5_isStatement 4 = .ok (.iload_n 1, 1) := by decide +kernel
theorem dX5_isStatement_5 : decode cX5_isStatement 5 = .ok (.aload_n 0, 1) := by decide +kernel
theorem dX5_isStatement_6 : decode cX5_isStatement 6 = .ok (.getfield 73, 3) := by decide +kernel
theorem dX5_isStatement_9 : decode cX5_isStatement 9 = .ok (.if_icmp .gt 7, 3) := by decide +kernel
theorem dX5_isStatement_12 : decode cX5_isStatement 12 = .ok (.iconst 1, 1) := by decide +kernel
theorem dX5_isStatement_13 : decode cX5_isStatement 13 = .ok (.goto 4, 3) := by decide +kernel
theorem dX5_isStatement_16 : decode cX5_isStatement 16 = .ok (.iconst 0, 1) := by decide +kernel
theorem dX5_isStatement_17 : decode cX5_isStatement 17 = .ok (.ireturn, 1) := by decide +kernel
theorem dX5_isItem_0 : decode cX5_isItem 0 = .ok (.iload_n 1, 1) := by decide +kernel
theorem dX5_isItem_1 : decode cX5_isItem 1 = .ok (.ifCond .lt 15, 3) := by decide +kernel
theorem dX5_isItem_4 : decode cX5_isItem 4 = .ok (.iload_n 1, 1) := by decide +kernel
theorem dX5_isItem_5 : decode cX5_isItem 5 = .ok (.aload_n 0, 1) := by decide +kernel
theorem dX5_isItem_6 : decode cX5_isItem 6 = .ok (.getfield 76, 3) := by decide +kernel
theorem dX5_isItem_9 : decode cX5_isItem 9 = .ok (.if_icmp .ge 7, 3) := by decide +kernel
theorem dX5_isItem_12 : decode cX5_isItem 12 = .ok (.iconst 1, 1) := by decide +kernel
theorem dX5_isItem_13 : decode cX5_isItem 13 = .ok (.goto 4, 3) := by decide +kernel
theorem dX5_isItem_16 : decode cX5_isItem 16 = .ok (.iconst 0, 1) := by decide +kernel
theorem dX5_isItem_17 : decode cX5_isItem 17 = .ok (.ireturn, 1) := by decide +kernel
theorem dX5_statement_0 : decode cX5_statement 0 = .ok (.aload_n 0, 1) := by decide +kernel
theorem dX5_statement_1 : decode cX5_statement 1 = .ok (.iconst 0, 1) := by decide +kernel
theorem dX5_statement_2 : decode cX5_statement 2 = .ok (.putfield 69, 3) := by decide +kernel
theorem dX5_statement_5 : decode cX5_statement 5 = .ok (.iload_n 1, 1) := by decide +kernel
theorem dX5_statement_6 : decode cX5_statement 6 = .ok (.ifCond .lt 21, 3) := by decide +kernel
theorem dX5_statement_9 : decode cX5_statement 9 = .ok (.iload_n 1, 1) := by decide +kernel
theorem dX5_statement_10 : decode cX5_statement 10 = .ok (.bipush 19, 2) := by decide +kernel
theorem dX5_statement_12 : decode cX5_statement 12 = .ok (.if_icmp .gt 15, 3) := by decide +kernel
theorem dX5_statement_15 : decode cX5_statement 15 = .ok (.iload_n 2, 1) := by decide +kernel
theorem dX5_statement_16 : decode cX5_statement 16 = .ok (.iconst 1, 1) := by decide +kernel
theorem dX5_statement_17 : decode cX5_statement 17 = .ok (.if_icmp .lt 10, 3) := by decide +kernel
theorem dX5_statement_20 : decode cX5_statement 20 = .ok (.iload_n 2, 1) := by decide +kernel
theorem dX5_statement_21 : decode cX5_statement 21 = .ok (.sipush 9999, 3) := by decide +kernel
theorem dX5_statement_24 : decode cX5_statement 24 = .ok (.if_icmp .le 6, 3) := by decide +kernel
theorem dX5_statement_27 : decode cX5_statement 27 = .ok (.bipush (-4), 2) := by decide +kernel
theorem dX5_statement_29 : decode cX5_statement 29 = .ok (.ireturn, 1) := by decide +kernel
theorem dX5_statement_30 : decode cX5_statement 30 = .ok (.aload_n 0, 1) := by decide +kernel
theorem dX5_statement_31 : decode cX5_statement 31 = .ok (.getfield 73, 3) := by decide +kernel
theorem dX5_statement_34 : decode cX5_statement 34 = .ok (.bipush 100, 2) := by decide +kernel
theorem dX5_statement_36 : decode cX5_statement 36 = .ok (.if_icmp .ne 5, 3) := by decide +kernel
theorem dX5_statement_39 : decode cX5_statement 39 = .ok (.iconst (-1), 1) := by decide +kernel
theorem dX5_statement_40 : decode cX5_statement 40 = .ok (.ireturn, 1) := by decide +kernel
theorem dX5_statement_41 : decode cX5_statement 41 = .ok (.aload_n 0, 1) := by decide +kernel
theorem dX5_statement_42 : decode cX5_statement 42 = .ok (.dup, 1) := by decide +kernel
theorem dX5_statement_43 : decode cX5_statement 43 = .ok (.getfield 73, 3) := by decide +kernel
theorem dX5_statement_46 : decode cX5_statement 46 = .ok (.iconst 1, 1) := by decide +kernel
theorem dX5_statement_47 : decode cX5_statement 47 = .ok (.iadd, 1) := by decide +kernel
theorem dX5_statement_48 : decode cX5_statement 48 = .ok (.putfield 73, 3) := by decide +kernel
theorem dX5_statement_51 : decode cX5_statement 51 = .ok (.aload_n 0, 1) := by decide +kernel
theorem dX5_statement_52 : decode cX5_statement 52 = .ok (.getfield 7, 3) := by decide +kernel
theorem dX5_statement_55 : decode cX5_statement 55 = .ok (.aload_n 0, 1) := by decide +kernel
theorem dX5_statement_56 : decode cX5_statement 56 = .ok (.getfield 73, 3) := by decide +kernel
theorem dX5_statement_59 : decode cX5_statement 59 = .ok (.iload_n 1, 1) := by decide +kernel
theorem dX5_statement_60 : decode cX5_statement 60 = .ok (.iastore, 1) := by decide +kernel
theorem dX5_statement_61 : decode cX5_statement 61 = .ok (.aload_n 0, 1) := by decide +kernel
theorem dX5_statement_62 : decode cX5_statement 62 = .ok (.getfield 13, 3) := by decide +kernel
theorem dX5_statement_65 : decode cX5_statement 65 = .ok (.aload_n 0, 1) := by decide +kernel
theorem dX5_statement_66 : decode cX5_statement 66 = .ok (.getfield 73, 3) := by decide +kernel
theorem dX5_statement_69 : decode cX5_statement 69 = .ok (.iload_n 2, 1) := by decide +kernel
theorem dX5_statement_70 : decode cX5_statement 70 = .ok (.iastore, 1) := by decide +kernel
theorem dX5_statement_71 : decode cX5_statement 71 = .ok (.aload_n 0, 1) := by decide +kernel
theorem dX5_statement_72 : decode cX5_statement 72 = .ok (.getfield 16, 3) := by decide +kernel
theorem dX5_statement_75 : decode cX5_statement 75 = .ok (.aload_n 0, 1) := by decide +kernel
theorem dX5_statement_76 : decode cX5_statement 76 = .ok (.getfield 73, 3) := by decide +kernel
theorem dX5_statement_79 : decode cX5_statement 79 = .ok (.iconst (-1), 1) := by decide +kernel
theorem dX5_statement_80 : decode cX5_statement 80 = .ok (.iastore, 1) := by decide +kernel
theorem dX5_statement_81 : decode cX5_statement 81 = .ok (.aload_n 0, 1) := by decide +kernel
theorem dX5_statement_82 : decode cX5_statement 82 = .ok (.getfield 73, 3) := by decide +kernel
theorem dX5_statement_85 : decode cX5_statement 85 = .ok (.iconst 1, 1) := by decide +kernel
theorem dX5_statement_86 : decode cX5_statement 86 = .ok (.if_icmp .ne 8, 3) := by decide +kernel
theorem dX5_statement_89 : decode cX5_statement 89 = .ok (.aload_n 0, 1) := by decide +kernel
theorem dX5_statement_90 : decode cX5_statement 90 = .ok (.iconst 1, 1) := by decide +kernel
theorem dX5_statement_91 : decode cX5_statement 91 = .ok (.putfield 79, 3) := by decide +kernel
theorem dX5_statement_94 : decode cX5_statement 94 = .ok (.aload_n 0, 1) := by decide +kernel
theorem dX5_statement_95 : decode cX5_statement 95 = .ok (.getfield 73, 3) := by decide +kernel
theorem dX5_statement_98 : decode cX5_statement 98 = .ok (.ireturn, 1) := by decide +kernel
theorem dX5_item_0 : decode cX5_item 0 = .ok (.aload_n 0, 1) := by decide +kernel
theorem dX5_item_1 : decode cX5_item 1 = .ok (.iconst 0, 1) := by decide +kernel
theorem dX5_item_2 : decode cX5_item 2 = .ok (.putfield 69, 3) := by decide +kernel
theorem dX5_item_5 : decode cX5_item 5 = .ok (.iload_n 1, 1) := by decide +kernel
theorem dX5_item_6 : decode cX5_item 6 = .ok (.ifCond .lt 28, 3) := by decide +kernel
theorem dX5_item_9 : decode cX5_item 9 = .ok (.iload_n 1, 1) := by decide +kernel
theorem dX5_item_10 : decode cX5_item 10 = .ok (.iconst 2, 1) := by decide +kernel
theorem dX5_item_11 : decode cX5_item 11 = .ok (.if_icmp .gt 23, 3) := by decide +kernel
theorem dX5_item_14 : decode cX5_item 14 = .ok (.iload_n 2, 1) := by decide +kernel
theorem dX5_item_15 : decode cX5_item 15 = .ok (.iconst 1, 1) := by decide +kernel
theorem dX5_item_16 : decode cX5_item 16 = .ok (.if_icmp .lt 18, 3) := by decide +kernel
theorem dX5_item_19 : decode cX5_item 19 = .ok (.iload_n 2, 1) := by decide +kernel
theorem dX5_item_20 : decode cX5_item 20 = .ok (.iload_n 1, 1) := by decide +kernel
theorem dX5_item_21 : decode cX5_item 21 = .ok (.iconst 1, 1) := by decide +kernel
theorem dX5_item_22 : decode cX5_item 22 = .ok (.if_icmp .ne 7, 3) := by decide +kernel
theorem dX5_item_25 : decode cX5_item 25 = .ok (.iconst 4, 1) := by decide +kernel
theorem dX5_item_26 : decode cX5_item 26 = .ok (.goto 5, 3) := by decide +kernel
theorem dX5_item_29 : decode cX5_item 29 = .ok (.bipush 9, 2) := by decide +kernel
theorem dX5_item_31 : decode cX5_item 31 = .ok (.if_icmp .le 6, 3) := by decide +kernel
theorem dX5_item_34 : decode cX5_item 34 = .ok (.bipush (-4), 2) := by decide +kernel
theorem dX5_item_36 : decode cX5_item 36 = .ok (.ireturn, 1) := by decide +kernel
theorem dX5_item_37 : decode cX5_item 37 = .ok (.aload_n 0, 1) := by decide +kernel
theorem dX5_item_38 : decode cX5_item 38 = .ok (.getfield 76, 3) := by decide +kernel
theorem dX5_item_41 : decode cX5_item 41 = .ok (.bipush 30, 2) := by decide +kernel
theorem dX5_item_43 : decode cX5_item 43 = .ok (.if_icmp .ne 5, 3) := by decide +kernel
theorem dX5_item_46 : decode cX5_item 46 = .ok (.iconst (-1), 1) := by decide +kernel
theorem dX5_item_47 : decode cX5_item 47 = .ok (.ireturn, 1) := by decide +kernel
theorem dX5_item_48 : decode cX5_item 48 = .ok (.aload_n 0, 1) := by decide +kernel
theorem dX5_item_49 : decode cX5_item 49 = .ok (.getfield 23, 3) := by decide +kernel
theorem dX5_item_52 : decode cX5_item 52 = .ok (.aload_n 0, 1) := by decide +kernel
theorem dX5_item_53 : decode cX5_item 53 = .ok (.getfield 76, 3) := by decide +kernel
theorem dX5_item_56 : decode cX5_item 56 = .ok (.iload_n 1, 1) := by decide +kernel
theorem dX5_item_57 : decode cX5_item 57 = .ok (.iastore, 1) := by decide +kernel
theorem dX5_item_58 : decode cX5_item 58 = .ok (.aload_n 0, 1) := by decide +kernel
theorem dX5_item_59 : decode cX5_item 59 = .ok (.getfield 26, 3) := by decide +kernel
theorem dX5_item_62 : decode cX5_item 62 = .ok (.aload_n 0, 1) := by decide +kernel
theorem dX5_item_63 : decode cX5_item 63 = .ok (.getfield 76, 3) := by decide +kernel
theorem dX5_item_66 : decode cX5_item 66 = .ok (.iload_n 2, 1) := by decide +kernel
theorem dX5_item_67 : decode cX5_item 67 = .ok (.iastore, 1) := by decide +kernel
theorem dX5_item_68 : decode cX5_item 68 = .ok (.iconst 0, 1) := by decide +kernel
theorem dX5_item_69 : decode cX5_item 69 = .ok (.istore_n 3, 1) := by decide +kernel
theorem dX5_item_70 : decode cX5_item 70 = .ok (.iload_n 3, 1) := by decide +kernel
theorem dX5_item_71 : decode cX5_item 71 = .ok (.iload_n 2, 1) := by decide +kernel
theorem dX5_item_72 : decode cX5_item 72 = .ok (.if_icmp .ge 35, 3) := by decide +kernel
theorem dX5_item_75 : decode cX5_item 75 = .ok (.aload_n 0, 1) := by decide +kernel
theorem dX5_item_76 : decode cX5_item 76 = .ok (.getfield 29, 3) := by decide +kernel
theorem dX5_item_79 : decode cX5_item 79 = .ok (.bipush 9, 2) := by decide +kernel
theorem dX5_item_81 : decode cX5_item 81 = .ok (.aload_n 0, 1) := by decide +kernel
theorem dX5_item_82 : decode cX5_item 82 = .ok (.getfield 76, 3) := by decide +kernel
theorem dX5_item_85 : decode cX5_item 85 = .ok (.imul, 1) := by decide +kernel
theorem dX5_item_86 : decode cX5_item 86 = .ok (.iload_n 3, 1) := by decide +kernel
theorem dX5_item_87 : decode cX5_item 87 = .ok (.iadd, 1) := by decide +kernel
theorem dX5_item_88 : decode cX5_item 88 = .ok (.iload_n 1, 1) := by decide +kernel
theorem dX5_item_89 : decode cX5_item 89 = .ok (.iconst 1, 1) := by decide +kernel
theorem dX5_item_90 : decode cX5_item 90 = .ok (.if_icmp .ne 7, 3) := by decide +kernel
theorem dX5_item_93 : decode cX5_item 93 = .ok (.iconst 0, 1) := by decide +kernel
theorem dX5_item_94 : decode cX5_item 94 = .ok (.goto 5, 3) := by decide +kernel
theorem dX5_item_97 : decode cX5_item 97 = .ok (.bipush 48, 2) := by decide +kernel
theorem dX5_item_99 : decode cX5_item 99 = .ok (.i2b, 1) := by decide +kernel
theorem dX5_item_100 : decode cX5_item 100 = .ok (.bastore, 1) := by decide +kernel
theorem dX5_item_101 : decode cX5_item 101 = .ok (.iinc 3 1, 3) := by decide +kernel
theorem dX5_item_104 : decode cX5_item 104 = .ok (.goto (-34), 3) := by decide +kernel
theorem dX5_item_107 : decode cX5_item 107 = .ok (.aload_n 0, 1) := by decide +kernel
theorem dX5_item_108 : decode cX5_item 108 = .ok (.dup, 1) := by decide +kernel
theorem dX5_item_109 : decode cX5_item 109 = .ok (.getfield 76, 3) := by decide +kernel
theorem dX5_item_112 : decode cX5_item 112 = .ok (.iconst 1, 1) := by decide +kernel
theorem dX5_item_113 : decode cX5_item 113 = .ok (.iadd, 1) := by decide +kernel
theorem dX5_item_114 : decode cX5_item 114 = .ok (.putfield 76, 3) := by decide +kernel
theorem dX5_item_117 : decode cX5_item 117 = .ok (.aload_n 0, 1) := by decide +kernel
theorem dX5_item_118 : decode cX5_item 118 = .ok (.getfield 76, 3) := by decide +kernel
theorem dX5_item_121 : decode cX5_item 121 = .ok (.iconst 1, 1) := by decide +kernel
theorem dX5_item_122 : decode cX5_item 122 = .ok (.isub, 1) := by decide +kernel
theorem dX5_item_123 : decode cX5_item 123 = .ok (.ireturn, 1) := by decide +kernel
set_option maxRecDepth 20000 in
theorem ggX5_step_X5_isStatement : GoodIn wsX5_step wsX5_isStatement := goodIn_r _ [9, 10, 11, 12, 13, 14, 15, 16, 17, 18, 19, 20, 21, 22, 23, 24, 25, 26, 27, 28, 29, 30, 31, 32, 33, 34, 35, 36, 37] (by decide +kernel) (by decide +kernel)
set_option maxRecDepth 20000 in
theorem gX5_step_X5_isStatement : GoodIn wsX5_step (wsV RX5 82 RX5 yX5_isStatement wsX5_isStatement) := goodIn_app (goodIn_of _ (by decide +kernel)) ggX5_step_X5_isStatement
theorem dX5_step_0 : decode cX5_step 0 = .ok (.aload_n 0, 1) := by decide +kernel
theorem dX5_step_1 : decode cX5_step 1 = .ok (.iconst 0, 1) := by decide +kernel
theorem dX5_step_2 : decode cX5_step 2 = .ok (.putfield 69, 3) := by decide +kernel
theorem dX5_step_5 : decode cX5_step 5 = .ok (.aload_n 0, 1) := by decide +kernel
theorem dX5_step_6 : decode cX5_step 6 = .ok (.iload_n 1, 1) := by decide +kernel
theorem dX5_step_7 : decode cX5_step 7 = .ok (.invokevirtual 82, 3) := by decide +kernel
theorem dX5_step_10 : decode cX5_step 10 = .ok (.ifCond .eq 11, 3) := by decide +kernel
theorem dX5_step_13 : decode cX5_step 13 = .ok (.iload_n 2, 1) := by decide +kernel
theorem dX5_step_14 : decode cX5_step 14 = .ok (.aload_n 0, 1) := by decide +kernel
theorem dX5_step_15 : decode cX5_step 15 = .ok (.getfield 76, 3) := by decide +kernel
theorem dX5_step_18 : decode cX5_step 18 = .ok (.if_icmp .lt 6, 3) := by decide +kernel
theorem dX5_step_21 : decode cX5_step 21 = .ok (.bipush (-2), 2) := by decide +kernel
theorem dX5_step_23 : decode cX5_step 23 = .ok (.ireturn, 1) := by decide +kernel
theorem dX5_step_24 : decode cX5_step 24 = .ok (.iload_n 2, 1) := by decide +kernel
theorem dX5_step_25 : decode cX5_step 25 = .ok (.bipush (-21), 2) := by decide +kernel
theorem dX5_step_27 : decode cX5_step 27 = .ok (.if_icmp .ge 6, 3) := by decide +kernel
theorem dX5_step_30 : decode cX5_step 30 = .ok (.bipush (-4), 2) := by decide +kernel
theorem dX5_step_32 : decode cX5_step 32 = .ok (.ireturn, 1) := by decide +kernel
theorem dX5_step_33 : decode cX5_step 33 = .ok (.aload_n 0, 1) := by decide +kernel
theorem dX5_step_34 : decode cX5_step 34 = .ok (.getfield 16, 3) := by decide +kernel
theorem dX5_step_37 : decode cX5_step 37 = .ok (.iload_n 1, 1) := by decide +kernel
theorem dX5_step_38 : decode cX5_step 38 = .ok (.iload_n 2, 1) := by decide +kernel
theorem dX5_step_39 : decode cX5_step 39 = .ok (.iastore, 1) := by decide +kernel
theorem dX5_step_40 : decode cX5_step 40 = .ok (.aload_n 0, 1) := by decide +kernel
theorem dX5_step_41 : decode cX5_step 41 = .ok (.getfield 19, 3) := by decide +kernel
theorem dX5_step_44 : decode cX5_step 44 = .ok (.iload_n 1, 1) := by decide +kernel
theorem dX5_step_45 : decode cX5_step 45 = .ok (.lload_n 3, 1) := by decide +kernel
theorem dX5_step_46 : decode cX5_step 46 = .ok (.lastore, 1) := by decide +kernel
theorem dX5_step_47 : decode cX5_step 47 = .ok (.iconst 1, 1) := by decide +kernel
theorem dX5_step_48 : decode cX5_step 48 = .ok (.ireturn, 1) := by decide +kernel
set_option maxRecDepth 20000 in
theorem ggX5_stop_X5_isItem : GoodIn wsX5_stop wsX5_isItem := goodIn_r _ [10, 11, 12, 13, 14, 15, 16, 17, 18, 19, 20, 21, 22, 23, 24, 25, 26, 27, 28, 29, 30, 31, 32, 33, 34, 35, 36, 37, 38] (by decide +kernel) (by decide +kernel)
set_option maxRecDepth 20000 in
theorem gX5_stop_X5_isItem : GoodIn wsX5_stop (wsV RX5 86 RX5 yX5_isItem wsX5_isItem) := goodIn_app (goodIn_of _ (by decide +kernel)) ggX5_stop_X5_isItem
theorem dX5_stop_0 : decode cX5_stop 0 = .ok (.aload_n 0, 1) := by decide +kernel
theorem dX5_stop_1 : decode cX5_stop 1 = .ok (.iconst 0, 1) := by decide +kernel
theorem dX5_stop_2 : decode cX5_stop 2 = .ok (.putfield 69, 3) := by decide +kernel
theorem dX5_stop_5 : decode cX5_stop 5 = .ok (.iload_n 1, 1) := by decide +kernel
theorem dX5_stop_6 : decode cX5_stop 6 = .ok (.ifCond .lt 8, 3) := by decide +kernel
theorem dX5_stop_9 : decode cX5_stop 9 = .ok (.iload_n 1, 1) := by decide +kernel
theorem dX5_stop_10 : decode cX5_stop 10 = .ok (.iconst 4, 1) := by decide +kernel
theorem dX5_stop_11 : decode cX5_stop 11 = .ok (.if_icmp .le 6, 3) := by decide +kernel
theorem dX5_stop_14 : decode cX5_stop 14 = .ok (.bipush (-4), 2) := by decide +kernel
theorem dX5_stop_16 : decode cX5_stop 16 = .ok (.ireturn, 1) := by decide +kernel
theorem dX5_stop_17 : decode cX5_stop 17 = .ok (.iload_n 1, 1) := by decide +kernel
theorem dX5_stop_18 : decode cX5_stop 18 = .ok (.iconst 2, 1) := by decide +kernel
theorem dX5_stop_19 : decode cX5_stop 19 = .ok (.if_icmp .eq 8, 3) := by decide +kernel
theorem dX5_stop_22 : decode cX5_stop 22 = .ok (.iload_n 1, 1) := by decide +kernel
theorem dX5_stop_23 : decode cX5_stop 23 = .ok (.iconst 3, 1) := by decide +kernel
theorem dX5_stop_24 : decode cX5_stop 24 = .ok (.if_icmp .ne 14, 3) := by decide +kernel
theorem dX5_stop_27 : decode cX5_stop 27 = .ok (.aload_n 0, 1) := by decide +kernel
theorem dX5_stop_28 : decode cX5_stop 28 = .ok (.iload_n 2, 1) := by decide +kernel
theorem dX5_stop_29 : decode cX5_stop 29 = .ok (.invokevirtual 86, 3) := by decide +kernel
theorem dX5_stop_32 : decode cX5_stop 32 = .ok (.ifCond .ne 6, 3) := by decide +kernel
theorem dX5_stop_35 : decode cX5_stop 35 = .ok (.bipush (-2), 2) := by decide +kernel
theorem dX5_stop_37 : decode cX5_stop 37 = .ok (.ireturn, 1) := by decide +kernel
theorem dX5_stop_38 : decode cX5_stop 38 = .ok (.aload_n 0, 1) := by decide +kernel
theorem dX5_stop_39 : decode cX5_stop 39 = .ok (.getfield 89, 3) := by decide +kernel
theorem dX5_stop_42 : decode cX5_stop 42 = .ok (.bipush 20, 2) := by decide +kernel
theorem dX5_stop_44 : decode cX5_stop 44 = .ok (.if_icmp .ne 5, 3) := by decide +kernel
theorem dX5_stop_47 : decode cX5_stop 47 = .ok (.iconst (-1), 1) := by decide +kernel
theorem dX5_stop_48 : decode cX5_stop 48 = .ok (.ireturn, 1) := by decide +kernel
theorem dX5_stop_49 : decode cX5_stop 49 = .ok (.aload_n 0, 1) := by decide +kernel
theorem dX5_stop_50 : decode cX5_stop 50 = .ok (.dup, 1) := by decide +kernel
theorem dX5_stop_51 : decode cX5_stop 51 = .ok (.getfield 89, 3) := by decide +kernel
theorem dX5_stop_54 : decode cX5_stop 54 = .ok (.iconst 1, 1) := by decide +kernel
theorem dX5_stop_55 : decode cX5_stop 55 = .ok (.iadd, 1) := by decide +kernel
theorem dX5_stop_56 : decode cX5_stop 56 = .ok (.putfield 89, 3) := by decide +kernel
theorem dX5_stop_59 : decode cX5_stop 59 = .ok (.aload_n 0, 1) := by decide +kernel
theorem dX5_stop_60 : decode cX5_stop 60 = .ok (.getfield 33, 3) := by decide +kernel
theorem dX5_stop_63 : decode cX5_stop 63 = .ok (.aload_n 0, 1) := by decide +kernel
theorem dX5_stop_64 : decode cX5_stop 64 = .ok (.getfield 89, 3) := by decide +kernel
theorem dX5_stop_67 : decode cX5_stop 67 = .ok (.iload_n 1, 1) := by decide +kernel
theorem dX5_stop_68 : decode cX5_stop 68 = .ok (.iastore, 1) := by decide +kernel
theorem dX5_stop_69 : decode cX5_stop 69 = .ok (.aload_n 0, 1) := by decide +kernel
theorem dX5_stop_70 : decode cX5_stop 70 = .ok (.getfield 36, 3) := by decide +kernel
theorem dX5_stop_73 : decode cX5_stop 73 = .ok (.aload_n 0, 1) := by decide +kernel
theorem dX5_stop_74 : decode cX5_stop 74 = .ok (.getfield 89, 3) := by decide +kernel
theorem dX5_stop_77 : decode cX5_stop 77 = .ok (.iload_n 2, 1) := by decide +kernel
theorem dX5_stop_78 : decode cX5_stop 78 = .ok (.iastore, 1) := by decide +kernel
theorem dX5_stop_79 : decode cX5_stop 79 = .ok (.aload_n 0, 1) := by decide +kernel
theorem dX5_stop_80 : decode cX5_stop 80 = .ok (.getfield 39, 3) := by decide +kernel
theorem dX5_stop_83 : decode cX5_stop 83 = .ok (.aload_n 0, 1) := by decide +kernel
theorem dX5_stop_84 : decode cX5_stop 84 = .ok (.getfield 89, 3) := by decide +kernel
theorem dX5_stop_87 : decode cX5_stop 87 = .ok (.iload_n 3, 1) := by decide +kernel
theorem dX5_stop_88 : decode cX5_stop 88 = .ok (.iastore, 1) := by decide +kernel
theorem dX5_stop_89 : decode cX5_stop 89 = .ok (.aload_n 0, 1) := by decide +kernel
theorem dX5_stop_90 : decode cX5_stop 90 = .ok (.getfield 89, 3) := by decide +kernel
theorem dX5_stop_93 : decode cX5_stop 93 = .ok (.ireturn, 1) := by decide +kernel
theorem dX5_octetOf_0 : decode cX5_octetOf 0 = .ok (.aload_n 0, 1) := by decide +kernel
theorem dX5_octetOf_1 : decode cX5_octetOf 1 = .ok (.getfield 29, 3) := by decide +kernel
theorem dX5_octetOf_4 : decode cX5_octetOf 4 = .ok (.bipush 9, 2) := by decide +kernel
theorem dX5_octetOf_6 : decode cX5_octetOf 6 = .ok (.iload_n 1, 1) := by decide +kernel
theorem dX5_octetOf_7 : decode cX5_octetOf 7 = .ok (.imul, 1) := by decide +kernel
theorem dX5_octetOf_8 : decode cX5_octetOf 8 = .ok (.iload_n 2, 1) := by decide +kernel
theorem dX5_octetOf_9 : decode cX5_octetOf 9 = .ok (.iadd, 1) := by decide +kernel
theorem dX5_octetOf_10 : decode cX5_octetOf 10 = .ok (.baload, 1) := by decide +kernel
theorem dX5_octetOf_11 : decode cX5_octetOf 11 = .ok (.sipush 255, 3) := by decide +kernel
theorem dX5_octetOf_14 : decode cX5_octetOf 14 = .ok (.iand, 1) := by decide +kernel
theorem dX5_octetOf_15 : decode cX5_octetOf 15 = .ok (.ireturn, 1) := by decide +kernel
set_option maxRecDepth 20000 in
theorem ggX5_digitOf_X5_octetOf : GoodIn wsX5_digitOf wsX5_octetOf := goodIn_r _ [6, 7, 8, 9, 10, 11, 12, 13, 14, 15, 16, 17, 18, 19, 20, 21, 22, 23, 24, 25, 26, 27, 28, 29, 30, 31, 32, 33, 34] (by decide +kernel) (by decide +kernel)
set_option maxRecDepth 20000 in
theorem gX5_digitOf_X5_octetOf : GoodIn wsX5_digitOf (wsV RX5 92 RX5 yX5_octetOf wsX5_octetOf) := goodIn_app (goodIn_of _ (by decide +kernel)) ggX5_digitOf_X5_octetOf
theorem dX5_digitOf_0 : decode cX5_digitOf 0 = .ok (.aload_n 0, 1) := by decide +kernel
theorem dX5_digitOf_1 : decode cX5_digitOf 1 = .ok (.iload_n 1, 1) := by decide +kernel
theorem dX5_digitOf_2 : decode cX5_digitOf 2 = .ok (.iload_n 2, 1) := by decide +kernel
theorem dX5_digitOf_3 : decode cX5_digitOf 3 = .ok (.invokevirtual 92, 3) := by decide +kernel
theorem dX5_digitOf_6 : decode cX5_digitOf 6 = .ok (.bipush 48, 2) := by decide +kernel
theorem dX5_digitOf_8 : decode cX5_digitOf 8 = .ok (.isub, 1) := by decide +kernel
theorem dX5_digitOf_9 : decode cX5_digitOf 9 = .ok (.istore_n 3, 1) := by decide +kernel
theorem dX5_digitOf_10 : decode cX5_digitOf 10 = .ok (.iload_n 2, 1) := by decide +kernel
theorem dX5_digitOf_11 : decode cX5_digitOf 11 = .ok (.aload_n 0, 1) := by decide +kernel
theorem dX5_digitOf_12 : decode cX5_digitOf 12 = .ok (.getfield 26, 3) := by decide +kernel
theorem dX5_digitOf_15 : decode cX5_digitOf 15 = .ok (.iload_n 1, 1) := by decide +kernel
theorem dX5_digitOf_16 : decode cX5_digitOf 16 = .ok (.iaload, 1) := by decide +kernel
theorem dX5_digitOf_17 : decode cX5_digitOf 17 = .ok (.iconst 1, 1) := by decide +kernel
theorem dX5_digitOf_18 : decode cX5_digitOf 18 = .ok (.isub, 1) := by decide +kernel
theorem dX5_digitOf_19 : decode cX5_digitOf 19 = .ok (.if_icmp .ne 12, 3) := by decide +kernel
theorem dX5_digitOf_22 : decode cX5_digitOf 22 = .ok (.iload_n 3, 1) := by decide +kernel
theorem dX5_digitOf_23 : decode cX5_digitOf 23 = .ok (.bipush 64, 2) := by decide +kernel
theorem dX5_digitOf_25 : decode cX5_digitOf 25 = .ok (.if_icmp .lt 6, 3) := by decide +kernel
theorem dX5_digitOf_28 : decode cX5_digitOf 28 = .ok (.iinc 3 (-64), 3) := by decide +kernel
theorem dX5_digitOf_31 : decode cX5_digitOf 31 = .ok (.iload_n 3, 1) := by decide +kernel
theorem dX5_digitOf_32 : decode cX5_digitOf 32 = .ok (.ifCond .lt 13, 3) := by decide +kernel
theorem dX5_digitOf_35 : decode cX5_digitOf 35 = .ok (.iload_n 3, 1) := by decide +kernel
theorem dX5_digitOf_36 : decode cX5_digitOf 36 = .ok (.bipush 10, 2) := by decide +kernel
theorem dX5_digitOf_38 : decode cX5_digitOf 38 = .ok (.if_icmp .ge 7, 3) := by decide +kernel
theorem dX5_digitOf_41 : decode cX5_digitOf 41 = .ok (.iload_n 3, 1) := by decide +kernel
theorem dX5_digitOf_42 : decode cX5_digitOf 42 = .ok (.goto 4, 3) := by decide +kernel
theorem dX5_digitOf_45 : decode cX5_digitOf 45 = .ok (.iconst (-1), 1) := by decide +kernel
theorem dX5_digitOf_46 : decode cX5_digitOf 46 = .ok (.ireturn, 1) := by decide +kernel
set_option maxRecDepth 20000 in
theorem ggX5_isBad_X5_digitOf : GoodIn wsX5_isBad wsX5_digitOf := goodIn_r _ [7, 1, 8, 9, 10, 6, 11, 12, 13, 14, 15, 16, 17, 18, 19, 20, 21, 22, 23, 24, 25, 26, 27, 28, 29, 30, 31, 32, 33, 34, 35, 36, 37, 38, 39] (by decide +kernel) (by decide +kernel)
set_option maxRecDepth 20000 in
theorem gX5_isBad_X5_digitOf : GoodIn wsX5_isBad (wsV RX5 96 RX5 yX5_digitOf wsX5_digitOf) := goodIn_app (goodIn_of _ (by decide +kernel)) ggX5_isBad_X5_digitOf
theorem dX5_isBad_0 : decode cX5_isBad 0 = .ok (.iconst 0, 1) := by decide +kernel
theorem dX5_isBad_1 : decode cX5_isBad 1 = .ok (.istore_n 2, 1) := by decide +kernel
theorem dX5_isBad_2 : decode cX5_isBad 2 = .ok (.iconst 0, 1) := by decide +kernel
theorem dX5_isBad_3 : decode cX5_isBad 3 = .ok (.istore_n 3, 1) := by decide +kernel
theorem dX5_isBad_4 : decode cX5_isBad 4 = .ok (.iload_n 3, 1) := by decide +kernel
theorem dX5_isBad_5 : decode cX5_isBad 5 = .ok (.aload_n 0, 1) := by decide +kernel
theorem dX5_isBad_6 : decode cX5_isBad 6 = .ok (.getfield 26, 3) := by decide +kernel
theorem dX5_isBad_9 : decode cX5_isBad 9 = .ok (.iload_n 1, 1) := by decide +kernel
theorem dX5_isBad_10 : decode cX5_isBad 10 = .ok (.iaload, 1) := by decide +kernel
theorem dX5_isBad_11 : decode cX5_isBad 11 = .ok (.if_icmp .ge 38, 3) := by decide +kernel
theorem dX5_isBad_14 : decode cX5_isBad 14 = .ok (.aload_n 0, 1) := by decide +kernel
theorem dX5_isBad_15 : decode cX5_isBad 15 = .ok (.getfield 23, 3) := by decide +kernel
theorem dX5_isBad_18 : decode cX5_isBad 18 = .ok (.iload_n 1, 1) := by decide +kernel
theorem dX5_isBad_19 : decode cX5_isBad 19 = .ok (.iaload, 1) := by decide +kernel
theorem dX5_isBad_20 : decode cX5_isBad 20 = .ok (.ifCond .ne 29, 3) := by decide +kernel
theorem dX5_isBad_23 : decode cX5_isBad 23 = .ok (.iload_n 2, 1) := by decide +kernel
theorem dX5_isBad_24 : decode cX5_isBad 24 = .ok (.ifCond .ne 13, 3) := by decide +kernel
theorem dX5_isBad_27 : decode cX5_isBad 27 = .ok (.aload_n 0, 1) := by decide +kernel
theorem dX5_isBad_28 : decode cX5_isBad 28 = .ok (.iload_n 1, 1) := by decide +kernel
theorem dX5_isBad_29 : decode cX5_isBad 29 = .ok (.iload_n 3, 1) := by decide +kernel
theorem dX5_isBad_30 : decode cX5_isBad 30 = .ok (.invokevirtual 96, 3) := by decide +kernel
theorem dX5_isBad_33 : decode cX5_isBad 33 = .ok (.iconst (-1), 1) := by decide +kernel
theorem dX5_isBad_34 : decode cX5_isBad 34 = .ok (.if_icmp .ne 7, 3) := by decide +kernel
theorem dX5_isBad_37 : decode cX5_isBad 37 = .ok (.iconst 1, 1) := by decide +kernel
theorem dX5_isBad_38 : decode cX5_isBad 38 = .ok (.goto 4, 3) := by decide +kernel
theorem dX5_isBad_41 : decode cX5_isBad 41 = .ok (.iconst 0, 1) := by decide +kernel
theorem dX5_isBad_42 : decode cX5_isBad 42 = .ok (.istore_n 2, 1) := by decide +kernel
theorem dX5_isBad_43 : decode cX5_isBad 43 = .ok (.iinc 3 1, 3) := by decide +kernel
theorem dX5_isBad_46 : decode cX5_isBad 46 = .ok (.goto (-42), 3) := by decide +kernel
theorem dX5_isBad_49 : decode cX5_isBad 49 = .ok (.iload_n 2, 1) := by decide +kernel
theorem dX5_isBad_50 : decode cX5_isBad 50 = .ok (.ireturn, 1) := by decide +kernel
set_option maxRecDepth 20000 in
theorem ggX5_says_X5_octetOf : GoodIn wsX5_says wsX5_octetOf := goodIn_r _ [10, 2, 15, 16, 17, 18, 19, 20, 21, 22, 23, 24, 25, 26, 27, 28, 29, 30, 31, 32, 33, 34, 35, 36, 37, 38, 39, 40, 41] (by decide +kernel) (by decide +kernel)
set_option maxRecDepth 20000 in
theorem gX5_says_X5_octetOf : GoodIn wsX5_says (wsV RX5 92 RX5 yX5_octetOf wsX5_octetOf) := goodIn_app (goodIn_of _ (by decide +kernel)) ggX5_says_X5_octetOf
set_option maxRecDepth 20000 in
theorem ggX5_says_X5_digitOf : GoodIn wsX5_says wsX5_digitOf := goodIn_r _ [14, 3, 6, 7, 8, 9, 10, 2, 15, 16, 17, 18, 19, 20, 21, 22, 23, 24, 25, 26, 27, 28, 29, 30, 31, 32, 33, 34, 35, 36, 37, 38, 39, 40, 41] (by decide +kernel) (by decide +kernel)
set_option maxRecDepth 20000 in
theorem gX5_says_X5_digitOf : GoodIn wsX5_says (wsV RX5 96 RX5 yX5_digitOf wsX5_digitOf) := goodIn_app (goodIn_of _ (by decide +kernel)) ggX5_says_X5_digitOf
theorem dX5_says_0 : decode cX5_says 0 = .ok (.lconst 0, 1) := by decide +kernel
theorem dX5_says_1 : decode cX5_says 1 = .ok (.lstore_n 2, 1) := by decide +kernel
theorem dX5_says_2 : decode cX5_says 2 = .ok (.aload_n 0, 1) := by decide +kernel
theorem dX5_says_3 : decode cX5_says 3 = .ok (.getfield 23, 3) := by decide +kernel
theorem dX5_says_6 : decode cX5_says 6 = .ok (.iload_n 1, 1) := by decide +kernel
theorem dX5_says_7 : decode cX5_says 7 = .ok (.iaload, 1) := by decide +kernel
theorem dX5_says_8 : decode cX5_says 8 = .ok (.iconst 2, 1) := by decide +kernel
theorem dX5_says_9 : decode cX5_says 9 = .ok (.if_icmp .ne 5, 3) := by decide +kernel
theorem dX5_says_12 : decode cX5_says 12 = .ok (.lconst 0, 1) := by decide +kernel
theorem dX5_says_13 : decode cX5_says 13 = .ok (.lreturn, 1) := by decide +kernel
theorem dX5_says_14 : decode cX5_says 14 = .ok (.aload_n 0, 1) := by decide +kernel
theorem dX5_says_15 : decode cX5_says 15 = .ok (.getfield 23, 3) := by decide +kernel
theorem dX5_says_18 : decode cX5_says 18 = .ok (.iload_n 1, 1) := by decide +kernel
theorem dX5_says_19 : decode cX5_says 19 = .ok (.iaload, 1) := by decide +kernel
theorem dX5_says_20 : decode cX5_says 20 = .ok (.iconst 1, 1) := by decide +kernel
theorem dX5_says_21 : decode cX5_says 21 = .ok (.if_icmp .ne 51, 3) := by decide +kernel
theorem dX5_says_24 : decode cX5_says 24 = .ok (.aload_n 0, 1) := by decide +kernel
theorem dX5_says_25 : decode cX5_says 25 = .ok (.getfield 29, 3) := by decide +kernel
theorem dX5_says_28 : decode cX5_says 28 = .ok (.bipush 9, 2) := by decide +kernel
theorem dX5_says_30 : decode cX5_says 30 = .ok (.iload_n 1, 1) := by decide +kernel
theorem dX5_says_31 : decode cX5_says 31 = .ok (.imul, 1) := by decide +kernel
theorem dX5_says_32 : decode cX5_says 32 = .ok (.baload, 1) := by decide +kernel
theorem dX5_says_33 : decode cX5_says 33 = .ok (.i2l, 1) := by decide +kernel
theorem dX5_says_34 : decode cX5_says 34 = .ok (.lstore_n 2, 1) := by decide +kernel
theorem dX5_says_35 : decode cX5_says 35 = .ok (.iconst 1, 1) := by decide +kernel
theorem dX5_says_36 : decode cX5_says 36 = .ok (.istore 4, 2) := by decide +kernel
theorem dX5_says_38 : decode cX5_says 38 = .ok (.iload 4, 2) := by decide +kernel
theorem dX5_says_40 : decode cX5_says 40 = .ok (.aload_n 0, 1) := by decide +kernel
theorem dX5_says_41 : decode cX5_says 41 = .ok (.getfield 26, 3) := by decide +kernel
theorem dX5_says_44 : decode cX5_says 44 = .ok (.iload_n 1, 1) := by decide +kernel
theorem dX5_says_45 : decode cX5_says 45 = .ok (.iaload, 1) := by decide +kernel
theorem dX5_says_46 : decode cX5_says 46 = .ok (.if_icmp .ge 24, 3) := by decide +kernel
theorem dX5_says_49 : decode cX5_says 49 = .ok (.ldc2_w 99, 3) := by decide +kernel
theorem dX5_says_52 : decode cX5_says 52 = .ok (.lload_n 2, 1) := by decide +kernel
theorem dX5_says_53 : decode cX5_says 53 = .ok (.lmul, 1) := by decide +kernel
theorem dX5_says_54 : decode cX5_says 54 = .ok (.aload_n 0, 1) := by decide +kernel
theorem dX5_says_55 : decode cX5_says 55 = .ok (.iload_n 1, 1) := by decide +kernel
theorem dX5_says_56 : decode cX5_says 56 = .ok (.iload 4, 2) := by decide +kernel
theorem dX5_says_58 : decode cX5_says 58 = .ok (.invokevirtual 92, 3) := by decide +kernel
theorem dX5_says_61 : decode cX5_says 61 = .ok (.i2l, 1) := by decide +kernel
theorem dX5_says_62 : decode cX5_says 62 = .ok (.ladd, 1) := by decide +kernel
theorem dX5_says_63 : decode cX5_says 63 = .ok (.lstore_n 2, 1) := by decide +kernel
theorem dX5_says_64 : decode cX5_says 64 = .ok (.iinc 4 1, 3) := by decide +kernel
theorem dX5_says_67 : decode cX5_says 67 = .ok (.goto (-29), 3) := by decide +kernel
theorem dX5_says_70 : decode cX5_says 70 = .ok (.lload_n 2, 1) := by decide +kernel
theorem dX5_says_71 : decode cX5_says 71 = .ok (.lreturn, 1) := by decide +kernel
theorem dX5_says_72 : decode cX5_says 72 = .ok (.iconst 0, 1) := by decide +kernel
theorem dX5_says_73 : decode cX5_says 73 = .ok (.istore 4, 2) := by decide +kernel
theorem dX5_says_75 : decode cX5_says 75 = .ok (.iload 4, 2) := by decide +kernel
theorem dX5_says_77 : decode cX5_says 77 = .ok (.aload_n 0, 1) := by decide +kernel
theorem dX5_says_78 : decode cX5_says 78 = .ok (.getfield 26, 3) := by decide +kernel
theorem dX5_says_81 : decode cX5_says 81 = .ok (.iload_n 1, 1) := by decide +kernel
theorem dX5_says_82 : decode cX5_says 82 = .ok (.iaload, 1) := by decide +kernel
theorem dX5_says_83 : decode cX5_says 83 = .ok (.if_icmp .ge 24, 3) := by decide +kernel
theorem dX5_says_86 : decode cX5_says 86 = .ok (.ldc2_w 101, 3) := by decide +kernel
theorem dX5_says_89 : decode cX5_says 89 = .ok (.lload_n 2, 1) := by decide +kernel
theorem dX5_says_90 : decode cX5_says 90 = .ok (.lmul, 1) := by decide +kernel
theorem dX5_says_91 : decode cX5_says 91 = .ok (.aload_n 0, 1) := by decide +kernel
theorem dX5_says_92 : decode cX5_says 92 = .ok (.iload_n 1, 1) := by decide +kernel
theorem dX5_says_93 : decode cX5_says 93 = .ok (.iload 4, 2) := by decide +kernel
theorem dX5_says_95 : decode cX5_says 95 = .ok (.invokevirtual 96, 3) := by decide +kernel
theorem dX5_says_98 : decode cX5_says 98 = .ok (.i2l, 1) := by decide +kernel
theorem dX5_says_99 : decode cX5_says 99 = .ok (.ladd, 1) := by decide +kernel
theorem dX5_says_100 : decode cX5_says 100 = .ok (.lstore_n 2, 1) := by decide +kernel
theorem dX5_says_101 : decode cX5_says 101 = .ok (.iinc 4 1, 3) := by decide +kernel
theorem dX5_says_104 : decode cX5_says 104 = .ok (.goto (-29), 3) := by decide +kernel
theorem dX5_says_107 : decode cX5_says 107 = .ok (.aload_n 0, 1) := by decide +kernel
theorem dX5_says_108 : decode cX5_says 108 = .ok (.iload_n 1, 1) := by decide +kernel
theorem dX5_says_109 : decode cX5_says 109 = .ok (.aload_n 0, 1) := by decide +kernel
theorem dX5_says_110 : decode cX5_says 110 = .ok (.getfield 26, 3) := by decide +kernel
theorem dX5_says_113 : decode cX5_says 113 = .ok (.iload_n 1, 1) := by decide +kernel
theorem dX5_says_114 : decode cX5_says 114 = .ok (.iaload, 1) := by decide +kernel
theorem dX5_says_115 : decode cX5_says 115 = .ok (.iconst 1, 1) := by decide +kernel
theorem dX5_says_116 : decode cX5_says 116 = .ok (.isub, 1) := by decide +kernel
theorem dX5_says_117 : decode cX5_says 117 = .ok (.invokevirtual 92, 3) := by decide +kernel
theorem dX5_says_120 : decode cX5_says 120 = .ok (.bipush 112, 2) := by decide +kernel
theorem dX5_says_122 : decode cX5_says 122 = .ok (.if_icmp .lt 9, 3) := by decide +kernel
theorem dX5_says_125 : decode cX5_says 125 = .ok (.lconst 0, 1) := by decide +kernel
theorem dX5_says_126 : decode cX5_says 126 = .ok (.lload_n 2, 1) := by decide +kernel
theorem dX5_says_127 : decode cX5_says 127 = .ok (.lsub, 1) := by decide +kernel
theorem dX5_says_128 : decode cX5_says 128 = .ok (.goto 4, 3) := by decide +kernel
theorem dX5_says_131 : decode cX5_says 131 = .ok (.lload_n 2, 1) := by decide +kernel
theorem dX5_says_132 : decode cX5_says 132 = .ok (.lreturn, 1) := by decide +kernel
theorem dX5_become_0 : decode cX5_become 0 = .ok (.aload_n 0, 1) := by decide +kernel
theorem dX5_become_1 : decode cX5_become 1 = .ok (.getfield 23, 3) := by decide +kernel
theorem dX5_become_4 : decode cX5_become 4 = .ok (.iload_n 1, 1) := by decide +kernel
theorem dX5_become_5 : decode cX5_become 5 = .ok (.iaload, 1) := by decide +kernel
theorem dX5_become_6 : decode cX5_become 6 = .ok (.iconst 2, 1) := by decide +kernel
theorem dX5_become_7 : decode cX5_become 7 = .ok (.if_icmp .ne 4, 3) := by decide +kernel
theorem dX5_become_10 : decode cX5_become 10 = .ok (.return_, 1) := by decide +kernel
theorem dX5_become_11 : decode cX5_become 11 = .ok (.lload_n 2, 1) := by decide +kernel
theorem dX5_become_12 : decode cX5_become 12 = .ok (.lstore 4, 2) := by decide +kernel
theorem dX5_become_14 : decode cX5_become 14 = .ok (.aload_n 0, 1) := by decide +kernel
theorem dX5_become_15 : decode cX5_become 15 = .ok (.getfield 23, 3) := by decide +kernel
theorem dX5_become_18 : decode cX5_become 18 = .ok (.iload_n 1, 1) := by decide +kernel
theorem dX5_become_19 : decode cX5_become 19 = .ok (.iaload, 1) := by decide +kernel
theorem dX5_become_20 : decode cX5_become 20 = .ok (.iconst 1, 1) := by decide +kernel
theorem dX5_become_21 : decode cX5_become 21 = .ok (.if_icmp .ne 48, 3) := by decide +kernel
theorem dX5_become_24 : decode cX5_become 24 = .ok (.aload_n 0, 1) := by decide +kernel
theorem dX5_become_25 : decode cX5_become 25 = .ok (.getfield 26, 3) := by decide +kernel
theorem dX5_become_28 : decode cX5_become 28 = .ok (.iload_n 1, 1) := by decide +kernel
theorem dX5_become_29 : decode cX5_become 29 = .ok (.iaload, 1) := by decide +kernel
theorem dX5_become_30 : decode cX5_become 30 = .ok (.iconst 1, 1) := by decide +kernel
theorem dX5_become_31 : decode cX5_become 31 = .ok (.isub, 1) := by decide +kernel
theorem dX5_become_32 : decode cX5_become 32 = .ok (.istore 6, 2) := by decide +kernel
theorem dX5_become_34 : decode cX5_become 34 = .ok (.iload 6, 2) := by decide +kernel
theorem dX5_become_36 : decode cX5_become 36 = .ok (.ifCond .lt 32, 3) := by decide +kernel
theorem dX5_become_39 : decode cX5_become 39 = .ok (.aload_n 0, 1) := by decide +kernel
theorem dX5_become_40 : decode cX5_become 40 = .ok (.getfield 29, 3) := by decide +kernel
theorem dX5_become_43 : decode cX5_become 43 = .ok (.bipush 9, 2) := by decide +kernel
theorem dX5_become_45 : decode cX5_become 45 = .ok (.iload_n 1, 1) := by decide +kernel
theorem dX5_become_46 : decode cX5_become 46 = .ok (.imul, 1) := by decide +kernel
theorem dX5_become_47 : decode cX5_become 47 = .ok (.iload 6, 2) := by decide +kernel
theorem dX5_become_49 : decode cX5_become 49 = .ok (.iadd, 1) := by decide +kernel
theorem dX5_become_50 : decode cX5_become 50 = .ok (.lload 4, 2) := by decide +kernel
theorem dX5_become_52 : decode cX5_become 52 = .ok (.l2i, 1) := by decide +kernel
theorem dX5_become_53 : decode cX5_become 53 = .ok (.i2b, 1) := by decide +kernel
theorem dX5_become_54 : decode cX5_become 54 = .ok (.bastore, 1) := by decide +kernel
theorem dX5_become_55 : decode cX5_become 55 = .ok (.lload 4, 2) := by decide +kernel
theorem dX5_become_57 : decode cX5_become 57 = .ok (.bipush 8, 2) := by decide +kernel
theorem dX5_become_59 : decode cX5_become 59 = .ok (.lshr, 1) := by decide +kernel
theorem dX5_become_60 : decode cX5_become 60 = .ok (.lstore 4, 2) := by decide +kernel
theorem dX5_become_62 : decode cX5_become 62 = .ok (.iinc 6 (-1), 3) := by decide +kernel
theorem dX5_become_65 : decode cX5_become 65 = .ok (.goto (-31), 3) := by decide +kernel
theorem dX5_become_68 : decode cX5_become 68 = .ok (.return_, 1) := by decide +kernel
theorem dX5_become_69 : decode cX5_become 69 = .ok (.lconst 1, 1) := by decide +kernel
theorem dX5_become_70 : decode cX5_become 70 = .ok (.lstore 6, 2) := by decide +kernel
theorem dX5_become_72 : decode cX5_become 72 = .ok (.iconst 0, 1) := by decide +kernel
theorem dX5_become_73 : decode cX5_become 73 = .ok (.istore 8, 2) := by decide +kernel
theorem dX5_become_75 : decode cX5_become 75 = .ok (.iload 8, 2) := by decide +kernel
theorem dX5_become_77 : decode cX5_become 77 = .ok (.aload_n 0, 1) := by decide +kernel
theorem dX5_become_78 : decode cX5_become 78 = .ok (.getfield 26, 3) := by decide +kernel
theorem dX5_become_81 : decode cX5_become 81 = .ok (.iload_n 1, 1) := by decide +kernel
theorem dX5_become_82 : decode cX5_become 82 = .ok (.iaload, 1) := by decide +kernel
theorem dX5_become_83 : decode cX5_become 83 = .ok (.if_icmp .ge 17, 3) := by decide +kernel
theorem dX5_become_86 : decode cX5_become 86 = .ok (.lload 6, 2) := by decide +kernel
theorem dX5_become_88 : decode cX5_become 88 = .ok (.ldc2_w 101, 3) := by decide +kernel
theorem dX5_become_91 : decode cX5_become 91 = .ok (.lmul, 1) := by decide +kernel
theorem dX5_become_92 : decode cX5_become 92 = .ok (.lstore 6, 2) := by decide +kernel
theorem dX5_become_94 : decode cX5_become 94 = .ok (.iinc 8 1, 3) := by decide +kernel
theorem dX5_become_97 : decode cX5_become 97 = .ok (.goto (-22), 3) := by decide +kernel
theorem dX5_become_100 : decode cX5_become 100 = .ok (.lload_n 2, 1) := by decide +kernel
theorem dX5_become_101 : decode cX5_become 101 = .ok (.lload 6, 2) := by decide +kernel
theorem dX5_become_103 : decode cX5_become 103 = .ok (.lrem, 1) := by decide +kernel
theorem dX5_become_104 : decode cX5_become 104 = .ok (.lstore 8, 2) := by decide +kernel
theorem dX5_become_106 : decode cX5_become 106 = .ok (.lload 8, 2) := by decide +kernel
theorem dX5_become_108 : decode cX5_become 108 = .ok (.lconst 0, 1) := by decide +kernel
theorem dX5_become_109 : decode cX5_become 109 = .ok (.lcmp, 1) := by decide +kernel
theorem dX5_become_110 : decode cX5_become 110 = .ok (.ifCond .ge 10, 3) := by decide +kernel
theorem dX5_become_113 : decode cX5_become 113 = .ok (.lconst 0, 1) := by decide +kernel
theorem dX5_become_114 : decode cX5_become 114 = .ok (.lload 8, 2) := by decide +kernel
theorem dX5_become_116 : decode cX5_become 116 = .ok (.lsub, 1) := by decide +kernel
theorem dX5_become_117 : decode cX5_become 117 = .ok (.goto 5, 3) := by decide +kernel
theorem dX5_become_120 : decode cX5_become 120 = .ok (.lload 8, 2) := by decide +kernel
theorem dX5_become_122 : decode cX5_become 122 = .ok (.lstore 4, 2) := by decide +kernel
theorem dX5_become_124 : decode cX5_become 124 = .ok (.aload_n 0, 1) := by decide +kernel
theorem dX5_become_125 : decode cX5_become 125 = .ok (.getfield 26, 3) := by decide +kernel
theorem dX5_become_128 : decode cX5_become 128 = .ok (.iload_n 1, 1) := by decide +kernel
theorem dX5_become_129 : decode cX5_become 129 = .ok (.iaload, 1) := by decide +kernel
theorem dX5_become_130 : decode cX5_become 130 = .ok (.iconst 1, 1) := by decide +kernel
theorem dX5_become_131 : decode cX5_become 131 = .ok (.isub, 1) := by decide +kernel
theorem dX5_become_132 : decode cX5_become 132 = .ok (.istore 10, 2) := by decide +kernel
theorem dX5_become_134 : decode cX5_become 134 = .ok (.iload 10, 2) := by decide +kernel
theorem dX5_become_136 : decode cX5_become 136 = .ok (.ifCond .lt 69, 3) := by decide +kernel
theorem dX5_become_139 : decode cX5_become 139 = .ok (.aload_n 0, 1) := by decide +kernel
theorem dX5_become_140 : decode cX5_become 140 = .ok (.getfield 29, 3) := by decide +kernel
theorem dX5_become_143 : decode cX5_become 143 = .ok (.bipush 9, 2) := by decide +kernel
theorem dX5_become_145 : decode cX5_become 145 = .ok (.iload_n 1, 1) := by decide +kernel
theorem dX5_become_146 : decode cX5_become 146 = .ok (.imul, 1) := by decide +kernel
theorem dX5_become_147 : decode cX5_become 147 = .ok (.iload 10, 2) := by decide +kernel
theorem dX5_become_149 : decode cX5_become 149 = .ok (.iadd, 1) := by decide +kernel
theorem dX5_become_150 : decode cX5_become 150 = .ok (.ldc2_w 103, 3) := by decide +kernel
theorem dX5_become_153 : decode cX5_become 153 = .ok (.lload 4, 2) := by decide +kernel
theorem dX5_become_155 : decode cX5_become 155 = .ok (.ldc2_w 101, 3) := by decide +kernel
theorem dX5_become_158 : decode cX5_become 158 = .ok (.lrem, 1) := by decide +kernel
theorem dX5_become_159 : decode cX5_become 159 = .ok (.ladd, 1) := by decide +kernel
theorem dX5_become_160 : decode cX5_become 160 = .ok (.iload 10, 2) := by decide +kernel
theorem dX5_become_162 : decode cX5_become 162 = .ok (.aload_n 0, 1) := by decide +kernel
theorem dX5_become_163 : decode cX5_become 163 = .ok (.getfield 26, 3) := by decide +kernel
theorem dX5_become_166 : decode cX5_become 166 = .ok (.iload_n 1, 1) := by decide +kernel
theorem dX5_become_167 : decode cX5_become 167 = .ok (.iaload, 1) := by decide +kernel
theorem dX5_become_168 : decode cX5_become 168 = .ok (.iconst 1, 1) := by decide +kernel
theorem dX5_become_169 : decode cX5_become 169 = .ok (.isub, 1) := by decide +kernel
theorem dX5_become_170 : decode cX5_become 170 = .ok (.if_icmp .ne 15, 3) := by decide +kernel
theorem dX5_become_173 : decode cX5_become 173 = .ok (.lload 8, 2) := by decide +kernel
theorem dX5_become_175 : decode cX5_become 175 = .ok (.lconst 0, 1) := by decide +kernel
theorem dX5_become_176 : decode cX5_become 176 = .ok (.lcmp, 1) := by decide +kernel
theorem dX5_become_177 : decode cX5_become 177 = .ok (.ifCond .ge 8, 3) := by decide +kernel
theorem dX5_become_180 : decode cX5_become 180 = .ok (.bipush 64, 2) := by decide +kernel
theorem dX5_become_182 : decode cX5_become 182 = .ok (.goto 4, 3) := by decide +kernel
theorem dX5_become_185 : decode cX5_become 185 = .ok (.iconst 0, 1) := by decide +kernel
theorem dX5_become_186 : decode cX5_become 186 = .ok (.i2l, 1) := by decide +kernel
theorem dX5_become_187 : decode cX5_become 187 = .ok (.ladd, 1) := by decide +kernel
theorem dX5_become_188 : decode cX5_become 188 = .ok (.l2i, 1) := by decide +kernel
theorem dX5_become_189 : decode cX5_become 189 = .ok (.i2b, 1) := by decide +kernel
theorem dX5_become_190 : decode cX5_become 190 = .ok (.bastore, 1) := by decide +kernel
theorem dX5_become_191 : decode cX5_become 191 = .ok (.lload 4, 2) := by decide +kernel
theorem dX5_become_193 : decode cX5_become 193 = .ok (.ldc2_w 101, 3) := by decide +kernel
theorem dX5_become_196 : decode cX5_become 196 = .ok (.ldiv, 1) := by decide +kernel
theorem dX5_become_197 : decode cX5_become 197 = .ok (.lstore 4, 2) := by decide +kernel
theorem dX5_become_199 : decode cX5_become 199 = .ok (.iinc 10 (-1), 3) := by decide +kernel
theorem dX5_become_202 : decode cX5_become 202 = .ok (.goto (-68), 3) := by decide +kernel
theorem dX5_become_205 : decode cX5_become 205 = .ok (.return_, 1) := by decide +kernel
set_option maxRecDepth 20000 in
theorem ggX5_change_X5_isItem : GoodIn wsX5_change wsX5_isItem := goodIn_r _ [7, 8, 17, 18, 19, 20, 21, 22, 23, 24, 25, 26, 27, 28, 29, 30, 31, 32, 33, 34, 35, 36, 37, 38, 39, 40, 41, 42, 43] (by decide +kernel) (by decide +kernel)
set_option maxRecDepth 20000 in
theorem gX5_change_X5_isItem : GoodIn wsX5_change (wsV RX5 86 RX5 yX5_isItem wsX5_isItem) := goodIn_app (goodIn_of _ (by decide +kernel)) ggX5_change_X5_isItem
set_option maxRecDepth 20000 in
theorem ggX5_change_X5_become : GoodIn wsX5_change wsX5_become := goodIn_r _ [12, 2, 13, 14, 15, 16, 17, 18, 19, 20, 21, 22, 23, 24, 25, 26, 27, 28, 29, 30, 31, 32, 33, 34, 35, 36, 37, 38, 39, 40, 41, 42, 43] (by decide +kernel) (by decide +kernel)
set_option maxRecDepth 20000 in
theorem gX5_change_X5_become : GoodIn wsX5_change (wsV RX5 105 RX5 yX5_become wsX5_become) := goodIn_app (goodIn_of _ (by decide +kernel)) ggX5_change_X5_become
theorem dX5_change_0 : decode cX5_change 0 = .ok (.aload_n 0, 1) := by decide +kernel
theorem dX5_change_1 : decode cX5_change 1 = .ok (.iconst 0, 1) := by decide +kernel
theorem dX5_change_2 : decode cX5_change 2 = .ok (.putfield 69, 3) := by decide +kernel
theorem dX5_change_5 : decode cX5_change 5 = .ok (.aload_n 0, 1) := by decide +kernel
theorem dX5_change_6 : decode cX5_change 6 = .ok (.iload_n 1, 1) := by decide +kernel
theorem dX5_change_7 : decode cX5_change 7 = .ok (.invokevirtual 86, 3) := by decide +kernel
theorem dX5_change_10 : decode cX5_change 10 = .ok (.ifCond .ne 6, 3) := by decide +kernel
theorem dX5_change_13 : decode cX5_change 13 = .ok (.bipush (-2), 2) := by decide +kernel
theorem dX5_change_15 : decode cX5_change 15 = .ok (.ireturn, 1) := by decide +kernel
theorem dX5_change_16 : decode cX5_change 16 = .ok (.aload_n 0, 1) := by decide +kernel
theorem dX5_change_17 : decode cX5_change 17 = .ok (.getfield 23, 3) := by decide +kernel
theorem dX5_change_20 : decode cX5_change 20 = .ok (.iload_n 1, 1) := by decide +kernel
theorem dX5_change_21 : decode cX5_change 21 = .ok (.iaload, 1) := by decide +kernel
theorem dX5_change_22 : decode cX5_change 22 = .ok (.iconst 2, 1) := by decide +kernel
theorem dX5_change_23 : decode cX5_change 23 = .ok (.if_icmp .ne 5, 3) := by decide +kernel
theorem dX5_change_26 : decode cX5_change 26 = .ok (.iconst 0, 1) := by decide +kernel
theorem dX5_change_27 : decode cX5_change 27 = .ok (.ireturn, 1) := by decide +kernel
theorem dX5_change_28 : decode cX5_change 28 = .ok (.aload_n 0, 1) := by decide +kernel
theorem dX5_change_29 : decode cX5_change 29 = .ok (.iload_n 1, 1) := by decide +kernel
theorem dX5_change_30 : decode cX5_change 30 = .ok (.lload_n 2, 1) := by decide +kernel
theorem dX5_change_31 : decode cX5_change 31 = .ok (.invokevirtual 105, 3) := by decide +kernel
theorem dX5_change_34 : decode cX5_change 34 = .ok (.iconst 1, 1) := by decide +kernel
theorem dX5_change_35 : decode cX5_change 35 = .ok (.ireturn, 1) := by decide +kernel
set_option maxRecDepth 20000 in
theorem ggX5_poke_X5_isItem : GoodIn wsX5_poke wsX5_isItem := goodIn_r _ [9, 10, 11, 12, 13, 14, 15, 16, 17, 18, 19, 20, 21, 22, 23, 24, 25, 26, 27, 28, 29, 30, 31, 32, 33, 34, 35, 36, 37] (by decide +kernel) (by decide +kernel)
set_option maxRecDepth 20000 in
theorem gX5_poke_X5_isItem : GoodIn wsX5_poke (wsV RX5 86 RX5 yX5_isItem wsX5_isItem) := goodIn_app (goodIn_of _ (by decide +kernel)) ggX5_poke_X5_isItem
theorem dX5_poke_0 : decode cX5_poke 0 = .ok (.aload_n 0, 1) := by decide +kernel
theorem dX5_poke_1 : decode cX5_poke 1 = .ok (.iconst 0, 1) := by decide +kernel
theorem dX5_poke_2 : decode cX5_poke 2 = .ok (.putfield 69, 3) := by decide +kernel
theorem dX5_poke_5 : decode cX5_poke 5 = .ok (.aload_n 0, 1) := by decide +kernel
theorem dX5_poke_6 : decode cX5_poke 6 = .ok (.iload_n 1, 1) := by decide +kernel
theorem dX5_poke_7 : decode cX5_poke 7 = .ok (.invokevirtual 86, 3) := by decide +kernel
theorem dX5_poke_10 : decode cX5_poke 10 = .ok (.ifCond .ne 6, 3) := by decide +kernel
theorem dX5_poke_13 : decode cX5_poke 13 = .ok (.bipush (-2), 2) := by decide +kernel
theorem dX5_poke_15 : decode cX5_poke 15 = .ok (.ireturn, 1) := by decide +kernel
theorem dX5_poke_16 : decode cX5_poke 16 = .ok (.iload_n 2, 1) := by decide +kernel
theorem dX5_poke_17 : decode cX5_poke 17 = .ok (.ifCond .lt 13, 3) := by decide +kernel
theorem dX5_poke_20 : decode cX5_poke 20 = .ok (.iload_n 2, 1) := by decide +kernel
theorem dX5_poke_21 : decode cX5_poke 21 = .ok (.aload_n 0, 1) := by decide +kernel
theorem dX5_poke_22 : decode cX5_poke 22 = .ok (.getfield 26, 3) := by decide +kernel
theorem dX5_poke_25 : decode cX5_poke 25 = .ok (.iload_n 1, 1) := by decide +kernel
theorem dX5_poke_26 : decode cX5_poke 26 = .ok (.iaload, 1) := by decide +kernel
theorem dX5_poke_27 : decode cX5_poke 27 = .ok (.if_icmp .lt 6, 3) := by decide +kernel
theorem dX5_poke_30 : decode cX5_poke 30 = .ok (.bipush (-4), 2) := by decide +kernel
theorem dX5_poke_32 : decode cX5_poke 32 = .ok (.ireturn, 1) := by decide +kernel
theorem dX5_poke_33 : decode cX5_poke 33 = .ok (.aload_n 0, 1) := by decide +kernel
theorem dX5_poke_34 : decode cX5_poke 34 = .ok (.getfield 23, 3) := by decide +kernel
theorem dX5_poke_37 : decode cX5_poke 37 = .ok (.iload_n 1, 1) := by decide +kernel
theorem dX5_poke_38 : decode cX5_poke 38 = .ok (.iaload, 1) := by decide +kernel
theorem dX5_poke_39 : decode cX5_poke 39 = .ok (.iconst 2, 1) := by decide +kernel
theorem dX5_poke_40 : decode cX5_poke 40 = .ok (.if_icmp .ne 5, 3) := by decide +kernel
theorem dX5_poke_43 : decode cX5_poke 43 = .ok (.iconst 0, 1) := by decide +kernel
theorem dX5_poke_44 : decode cX5_poke 44 = .ok (.ireturn, 1) := by decide +kernel
theorem dX5_poke_45 : decode cX5_poke 45 = .ok (.aload_n 0, 1) := by decide +kernel
theorem dX5_poke_46 : decode cX5_poke 46 = .ok (.getfield 29, 3) := by decide +kernel
theorem dX5_poke_49 : decode cX5_poke 49 = .ok (.bipush 9, 2) := by decide +kernel
theorem dX5_poke_51 : decode cX5_poke 51 = .ok (.iload_n 1, 1) := by decide +kernel
theorem dX5_poke_52 : decode cX5_poke 52 = .ok (.imul, 1) := by decide +kernel
theorem dX5_poke_53 : decode cX5_poke 53 = .ok (.iload_n 2, 1) := by decide +kernel
theorem dX5_poke_54 : decode cX5_poke 54 = .ok (.iadd, 1) := by decide +kernel
theorem dX5_poke_55 : decode cX5_poke 55 = .ok (.iload_n 3, 1) := by decide +kernel
theorem dX5_poke_56 : decode cX5_poke 56 = .ok (.bastore, 1) := by decide +kernel
theorem dX5_poke_57 : decode cX5_poke 57 = .ok (.iconst 1, 1) := by decide +kernel
theorem dX5_poke_58 : decode cX5_poke 58 = .ok (.ireturn, 1) := by decide +kernel
theorem dX5_firstOf_0 : decode cX5_firstOf 0 = .ok (.iconst 0, 1) := by decide +kernel
theorem dX5_firstOf_1 : decode cX5_firstOf 1 = .ok (.istore_n 2, 1) := by decide +kernel
theorem dX5_firstOf_2 : decode cX5_firstOf 2 = .ok (.aload_n 0, 1) := by decide +kernel
theorem dX5_firstOf_3 : decode cX5_firstOf 3 = .ok (.getfield 73, 3) := by decide +kernel
theorem dX5_firstOf_6 : decode cX5_firstOf 6 = .ok (.istore_n 3, 1) := by decide +kernel
theorem dX5_firstOf_7 : decode cX5_firstOf 7 = .ok (.iload_n 3, 1) := by decide +kernel
theorem dX5_firstOf_8 : decode cX5_firstOf 8 = .ok (.ifCond .le 25, 3) := by decide +kernel
theorem dX5_firstOf_11 : decode cX5_firstOf 11 = .ok (.aload_n 0, 1) := by decide +kernel
theorem dX5_firstOf_12 : decode cX5_firstOf 12 = .ok (.getfield 7, 3) := by decide +kernel
theorem dX5_firstOf_15 : decode cX5_firstOf 15 = .ok (.iload_n 3, 1) := by decide +kernel
theorem dX5_firstOf_16 : decode cX5_firstOf 16 = .ok (.iaload, 1) := by decide +kernel
theorem dX5_firstOf_17 : decode cX5_firstOf 17 = .ok (.iload_n 1, 1) := by decide +kernel
theorem dX5_firstOf_18 : decode cX5_firstOf 18 = .ok (.if_icmp .ne 7, 3) := by decide +kernel
theorem dX5_firstOf_21 : decode cX5_firstOf 21 = .ok (.iload_n 3, 1) := by decide +kernel
theorem dX5_firstOf_22 : decode cX5_firstOf 22 = .ok (.goto 4, 3) := by decide +kernel
theorem dX5_firstOf_25 : decode cX5_firstOf 25 = .ok (.iload_n 2, 1) := by decide +kernel
theorem dX5_firstOf_26 : decode cX5_firstOf 26 = .ok (.istore_n 2, 1) := by decide +kernel
theorem dX5_firstOf_27 : decode cX5_firstOf 27 = .ok (.iinc 3 (-1), 3) := by decide +kernel
theorem dX5_firstOf_30 : decode cX5_firstOf 30 = .ok (.goto (-23), 3) := by decide +kernel
theorem dX5_firstOf_33 : decode cX5_firstOf 33 = .ok (.iload_n 2, 1) := by decide +kernel
theorem dX5_firstOf_34 : decode cX5_firstOf 34 = .ok (.ireturn, 1) := by decide +kernel
set_option maxRecDepth 20000 in
theorem ggX5_lastOf_X5_firstOf : GoodIn wsX5_lastOf wsX5_firstOf := goodIn_r _ [7, 1, 2, 8, 9, 10, 11, 12, 13, 14, 15, 16, 17, 18, 19, 20, 21, 22, 23, 24, 25, 26, 27, 28, 29, 30, 31, 32, 33, 34] (by decide +kernel) (by decide +kernel)
set_option maxRecDepth 20000 in
theorem gX5_lastOf_X5_firstOf : GoodIn wsX5_lastOf (wsV RX5 109 RX5 yX5_firstOf wsX5_firstOf) := goodIn_app (goodIn_of _ (by decide +kernel)) ggX5_lastOf_X5_firstOf
theorem dX5_lastOf_0 : decode cX5_lastOf 0 = .ok (.aload_n 0, 1) := by decide +kernel
theorem dX5_lastOf_1 : decode cX5_lastOf 1 = .ok (.iload_n 1, 1) := by decide +kernel
theorem dX5_lastOf_2 : decode cX5_lastOf 2 = .ok (.invokevirtual 109, 3) := by decide +kernel
theorem dX5_lastOf_5 : decode cX5_lastOf 5 = .ok (.istore_n 2, 1) := by decide +kernel
theorem dX5_lastOf_6 : decode cX5_lastOf 6 = .ok (.iload_n 2, 1) := by decide +kernel
theorem dX5_lastOf_7 : decode cX5_lastOf 7 = .ok (.ifCond .le 29, 3) := by decide +kernel
theorem dX5_lastOf_10 : decode cX5_lastOf 10 = .ok (.iload_n 2, 1) := by decide +kernel
theorem dX5_lastOf_11 : decode cX5_lastOf 11 = .ok (.aload_n 0, 1) := by decide +kernel
theorem dX5_lastOf_12 : decode cX5_lastOf 12 = .ok (.getfield 73, 3) := by decide +kernel
theorem dX5_lastOf_15 : decode cX5_lastOf 15 = .ok (.if_icmp .ge 21, 3) := by decide +kernel
theorem dX5_lastOf_18 : decode cX5_lastOf 18 = .ok (.aload_n 0, 1) := by decide +kernel
theorem dX5_lastOf_19 : decode cX5_lastOf 19 = .ok (.getfield 7, 3) := by decide +kernel
theorem dX5_lastOf_22 : decode cX5_lastOf 22 = .ok (.iload_n 2, 1) := by decide +kernel
theorem dX5_lastOf_23 : decode cX5_lastOf 23 = .ok (.iconst 1, 1) := by decide +kernel
theorem dX5_lastOf_24 : decode cX5_lastOf 24 = .ok (.iadd, 1) := by decide +kernel
theorem dX5_lastOf_25 : decode cX5_lastOf 25 = .ok (.iaload, 1) := by decide +kernel
theorem dX5_lastOf_26 : decode cX5_lastOf 26 = .ok (.iload_n 1, 1) := by decide +kernel
theorem dX5_lastOf_27 : decode cX5_lastOf 27 = .ok (.if_icmp .ne 9, 3) := by decide +kernel
theorem dX5_lastOf_30 : decode cX5_lastOf 30 = .ok (.iinc 2 1, 3) := by decide +kernel
theorem dX5_lastOf_33 : decode cX5_lastOf 33 = .ok (.goto (-27), 3) := by decide +kernel
theorem dX5_lastOf_36 : decode cX5_lastOf 36 = .ok (.iload_n 2, 1) := by decide +kernel
theorem dX5_lastOf_37 : decode cX5_lastOf 37 = .ok (.ireturn, 1) := by decide +kernel
theorem dX5_keep_0 : decode cX5_keep 0 = .ok (.aload_n 0, 1) := by decide +kernel
theorem dX5_keep_1 : decode cX5_keep 1 = .ok (.getfield 113, 3) := by decide +kernel
theorem dX5_keep_4 : decode cX5_keep 4 = .ok (.sipush 300, 3) := by decide +kernel
theorem dX5_keep_7 : decode cX5_keep 7 = .ok (.if_icmp .ne 154, 3) := by decide +kernel
theorem dX5_keep_10 : decode cX5_keep 10 = .ok (.aload_n 0, 1) := by decide +kernel
theorem dX5_keep_11 : decode cX5_keep 11 = .ok (.dup, 1) := by decide +kernel
theorem dX5_keep_12 : decode cX5_keep 12 = .ok (.getfield 113, 3) := by decide +kernel
theorem dX5_keep_15 : decode cX5_keep 15 = .ok (.iconst 1, 1) := by decide +kernel
theorem dX5_keep_16 : decode cX5_keep 16 = .ok (.isub, 1) := by decide +kernel
theorem dX5_keep_17 : decode cX5_keep 17 = .ok (.putfield 113, 3) := by decide +kernel
theorem dX5_keep_20 : decode cX5_keep 20 = .ok (.iconst 0, 1) := by decide +kernel
theorem dX5_keep_21 : decode cX5_keep 21 = .ok (.istore_n 1, 1) := by decide +kernel
theorem dX5_keep_22 : decode cX5_keep 22 = .ok (.iload_n 1, 1) := by decide +kernel
theorem dX5_keep_23 : decode cX5_keep 23 = .ok (.aload_n 0, 1) := by decide +kernel
theorem dX5_keep_24 : decode cX5_keep 24 = .ok (.getfield 113, 3) := by decide +kernel
theorem dX5_keep_27 : decode cX5_keep 27 = .ok (.if_icmp .ge 51, 3) := by decide +kernel
theorem dX5_keep_30 : decode cX5_keep 30 = .ok (.aload_n 0, 1) := by decide +kernel
theorem dX5_keep_31 : decode cX5_keep 31 = .ok (.getfield 51, 3) := by decide +kernel
theorem dX5_keep_34 : decode cX5_keep 34 = .ok (.iload_n 1, 1) := by decide +kernel
theorem dX5_keep_35 : decode cX5_keep 35 = .ok (.aload_n 0, 1) := by decide +kernel
theorem dX5_keep_36 : decode cX5_keep 36 = .ok (.getfield 51, 3) := by decide +kernel
theorem dX5_keep_39 : decode cX5_keep 39 = .ok (.iload_n 1, 1) := by decide +kernel
theorem dX5_keep_40 : decode cX5_keep 40 = .ok (.iconst 1, 1) := by decide +kernel
theorem dX5_keep_41 : decode cX5_keep 41 = .ok (.iadd, 1) := by decide +kernel
theorem dX5_keep_42 : decode cX5_keep 42 = .ok (.iaload, 1) := by decide +kernel
theorem dX5_keep_43 : decode cX5_keep 43 = .ok (.iastore, 1) := by decide +kernel
theorem dX5_keep_44 : decode cX5_keep 44 = .ok (.aload_n 0, 1) := by decide +kernel
theorem dX5_keep_45 : decode cX5_keep 45 = .ok (.getfield 54, 3) := by decide +kernel
theorem dX5_keep_48 : decode cX5_keep 48 = .ok (.iload_n 1, 1) := by decide +kernel
theorem dX5_keep_49 : decode cX5_keep 49 = .ok (.aload_n 0, 1) := by decide +kernel
theorem dX5_keep_50 : decode cX5_keep 50 = .ok (.getfield 54, 3) := by decide +kernel
theorem dX5_keep_53 : decode cX5_keep 53 = .ok (.iload_n 1, 1) := by decide +kernel
theorem dX5_keep_54 : decode cX5_keep 54 = .ok (.iconst 1, 1) := by decide +kernel
theorem dX5_keep_55 : decode cX5_keep 55 = .ok (.iadd, 1) := by decide +kernel
theorem dX5_keep_56 : decode cX5_keep 56 = .ok (.iaload, 1) := by decide +kernel
theorem dX5_keep_57 : decode cX5_keep 57 = .ok (.iastore, 1) := by decide +kernel
theorem dX5_keep_58 : decode cX5_keep 58 = .ok (.aload_n 0, 1) := by decide +kernel
theorem dX5_keep_59 : decode cX5_keep 59 = .ok (.getfield 57, 3) := by decide +kernel
theorem dX5_keep_62 : decode cX5_keep 62 = .ok (.iload_n 1, 1) := by decide +kernel
theorem dX5_keep_63 : decode cX5_keep 63 = .ok (.aload_n 0, 1) := by decide +kernel
theorem dX5_keep_64 : decode cX5_keep 64 = .ok (.getfield 57, 3) := by decide +kernel
theorem dX5_keep_67 : decode cX5_keep 67 = .ok (.iload_n 1, 1) := by decide +kernel
theorem dX5_keep_68 : decode cX5_keep 68 = .ok (.iconst 1, 1) := by decide +kernel
theorem dX5_keep_69 : decode cX5_keep 69 = .ok (.iadd, 1) := by decide +kernel
theorem dX5_keep_70 : decode cX5_keep 70 = .ok (.iaload, 1) := by decide +kernel
theorem dX5_keep_71 : decode cX5_keep 71 = .ok (.iastore, 1) := by decide +kernel
theorem dX5_keep_72 : decode cX5_keep 72 = .ok (.iinc 1 1, 3) := by decide +kernel
theorem dX5_keep_75 : decode cX5_keep 75 = .ok (.goto (-53), 3) := by decide +kernel
theorem dX5_keep_78 : decode cX5_keep 78 = .ok (.iconst 0, 1) := by decide +kernel
theorem dX5_keep_79 : decode cX5_keep 79 = .ok (.istore_n 1, 1) := by decide +kernel
theorem dX5_keep_80 : decode cX5_keep 80 = .ok (.iload_n 1, 1) := by decide +kernel
theorem dX5_keep_81 : decode cX5_keep 81 = .ok (.bipush 9, 2) := by decide +kernel
theorem dX5_keep_83 : decode cX5_keep 83 = .ok (.aload_n 0, 1) := by decide +kernel
theorem dX5_keep_84 : decode cX5_keep 84 = .ok (.getfield 113, 3) := by decide +kernel
theorem dX5_keep_87 : decode cX5_keep 87 = .ok (.imul, 1) := by decide +kernel
theorem dX5_keep_88 : decode cX5_keep 88 = .ok (.if_icmp .ge 24, 3) := by decide +kernel
theorem dX5_keep_91 : decode cX5_keep 91 = .ok (.aload_n 0, 1) := by decide +kernel
theorem dX5_keep_92 : decode cX5_keep 92 = .ok (.getfield 66, 3) := by decide +kernel
theorem dX5_keep_95 : decode cX5_keep 95 = .ok (.iload_n 1, 1) := by decide +kernel
theorem dX5_keep_96 : decode cX5_keep 96 = .ok (.aload_n 0, 1) := by decide +kernel
theorem dX5_keep_97 : decode cX5_keep 97 = .ok (.getfield 66, 3) := by decide +kernel
theorem dX5_keep_100 : decode cX5_keep 100 = .ok (.iload_n 1, 1) := by decide +kernel
theorem dX5_keep_101 : decode cX5_keep 101 = .ok (.bipush 9, 2) := by decide +kernel
theorem dX5_keep_103 : decode cX5_keep 103 = .ok (.iadd, 1) := by decide +kernel
theorem dX5_keep_104 : decode cX5_keep 104 = .ok (.baload, 1) := by decide +kernel
theorem dX5_keep_105 : decode cX5_keep 105 = .ok (.bastore, 1) := by decide +kernel
theorem dX5_keep_106 : decode cX5_keep 106 = .ok (.iinc 1 1, 3) := by decide +kernel
theorem dX5_keep_109 : decode cX5_keep 109 = .ok (.goto (-29), 3) := by decide +kernel
theorem dX5_keep_112 : decode cX5_keep 112 = .ok (.iconst 0, 1) := by decide +kernel
theorem dX5_keep_113 : decode cX5_keep 113 = .ok (.istore_n 1, 1) := by decide +kernel
theorem dX5_keep_114 : decode cX5_keep 114 = .ok (.iload_n 1, 1) := by decide +kernel
theorem dX5_keep_115 : decode cX5_keep 115 = .ok (.bipush 20, 2) := by decide +kernel
theorem dX5_keep_117 : decode cX5_keep 117 = .ok (.aload_n 0, 1) := by decide +kernel
theorem dX5_keep_118 : decode cX5_keep 118 = .ok (.getfield 113, 3) := by decide +kernel
theorem dX5_keep_121 : decode cX5_keep 121 = .ok (.imul, 1) := by decide +kernel
theorem dX5_keep_122 : decode cX5_keep 122 = .ok (.if_icmp .ge 39, 3) := by decide +kernel
theorem dX5_keep_125 : decode cX5_keep 125 = .ok (.aload_n 0, 1) := by decide +kernel
theorem dX5_keep_126 : decode cX5_keep 126 = .ok (.getfield 60, 3) := by decide +kernel
theorem dX5_keep_129 : decode cX5_keep 129 = .ok (.iload_n 1, 1) := by decide +kernel
theorem dX5_keep_130 : decode cX5_keep 130 = .ok (.aload_n 0, 1) := by decide +kernel
theorem dX5_keep_131 : decode cX5_keep 131 = .ok (.getfield 60, 3) := by decide +kernel
theorem dX5_keep_134 : decode cX5_keep 134 = .ok (.iload_n 1, 1) := by decide +kernel
theorem dX5_keep_135 : decode cX5_keep 135 = .ok (.bipush 20, 2) := by decide +kernel
theorem dX5_keep_137 : decode cX5_keep 137 = .ok (.iadd, 1) := by decide +kernel
theorem dX5_keep_138 : decode cX5_keep 138 = .ok (.iaload, 1) := by decide +kernel
theorem dX5_keep_139 : decode cX5_keep 139 = .ok (.iastore, 1) := by decide +kernel
theorem dX5_keep_140 : decode cX5_keep 140 = .ok (.aload_n 0, 1) := by decide +kernel
theorem dX5_keep_141 : decode cX5_keep 141 = .ok (.getfield 63, 3) := by decide +kernel
theorem dX5_keep_144 : decode cX5_keep 144 = .ok (.iload_n 1, 1) := by decide +kernel
theorem dX5_keep_145 : decode cX5_keep 145 = .ok (.aload_n 0, 1) := by decide +kernel
theorem dX5_keep_146 : decode cX5_keep 146 = .ok (.getfield 63, 3) := by decide +kernel
theorem dX5_keep_149 : decode cX5_keep 149 = .ok (.iload_n 1, 1) := by decide +kernel
theorem dX5_keep_150 : decode cX5_keep 150 = .ok (.bipush 20, 2) := by decide +kernel
theorem dX5_keep_152 : decode cX5_keep 152 = .ok (.iadd, 1) := by decide +kernel
theorem dX5_keep_153 : decode cX5_keep 153 = .ok (.iaload, 1) := by decide +kernel
theorem dX5_keep_154 : decode cX5_keep 154 = .ok (.iastore, 1) := by decide +kernel
theorem dX5_keep_155 : decode cX5_keep 155 = .ok (.iinc 1 1, 3) := by decide +kernel
theorem dX5_keep_158 : decode cX5_keep 158 = .ok (.goto (-44), 3) := by decide +kernel
theorem dX5_keep_161 : decode cX5_keep 161 = .ok (.aload_n 0, 1) := by decide +kernel
theorem dX5_keep_162 : decode cX5_keep 162 = .ok (.getfield 51, 3) := by decide +kernel
theorem dX5_keep_165 : decode cX5_keep 165 = .ok (.aload_n 0, 1) := by decide +kernel
theorem dX5_keep_166 : decode cX5_keep 166 = .ok (.getfield 113, 3) := by decide +kernel
theorem dX5_keep_169 : decode cX5_keep 169 = .ok (.aload_n 0, 1) := by decide +kernel
theorem dX5_keep_170 : decode cX5_keep 170 = .ok (.getfield 79, 3) := by decide +kernel
theorem dX5_keep_173 : decode cX5_keep 173 = .ok (.iastore, 1) := by decide +kernel
theorem dX5_keep_174 : decode cX5_keep 174 = .ok (.aload_n 0, 1) := by decide +kernel
