set_option maxRecDepth 20000 in
theorem ggX0_says_X0_decimal : GoodIn wsX0_says wsX0_decimal := goodIn_r _ [16, 7, 17, 18, 19, 8, 9, 10, 5, 11, 12, 20, 21, 22, 23] (by decide +kernel) (by decide +kernel)
set_option maxRecDepth 20000 in
theorem gX0_says_X0_decimal : GoodIn wsX0_says (wsV RX0 42 RX0 yX0_decimal wsX0_decimal) := goodIn_app (goodIn_of _ (by decide +kernel)) ggX0_says_X0_decimal
theorem dX0_says_0 : decode cX0_says 0 = .ok (.aload_n 0, 1) := by decide +kernel
theorem dX0_says_1 : decode cX0_says 1 = .ok (.getfield 11, 3) := by decide +kernel
theorem dX0_says_4 : decode cX0_says 4 = .ok (.iload_n 1, 1) := by decide +kernel
theorem dX0_says_5 : decode cX0_says 5 = .ok (.iaload, 1) := by decide +kernel
theorem dX0_says_6 : decode cX0_says 6 = .ok (.iconst 1, 1) := by decide +kernel
theorem dX0_says_7 : decode cX0_says 7 = .ok (.if_icmp .ne 11, 3) := by decide +kernel
theorem dX0_says_10 : decode cX0_says 10 = .ok (.aload_n 0, 1) := by decide +kernel
theorem dX0_says_11 : decode cX0_says 11 = .ok (.iload_n 1, 1) := by decide +kernel
theorem dX0_says_12 : decode cX0_says 12 = .ok (.invokevirtual 38, 3) := by decide +kernel
theorem dX0_says_15 : decode cX0_says 15 = .ok (.goto 8, 3) := by decide +kernel
theorem dX0_says_18 : decode cX0_says 18 = .ok (.aload_n 0, 1) := by decide +kernel
theorem dX0_says_19 : decode cX0_says 19 = .ok (.iload_n 1, 1) := by decide +kernel
theorem dX0_says_20 : decode cX0_says 20 = .ok (.invokevirtual 42, 3) := by decide +kernel
theorem dX0_says_23 : decode cX0_says 23 = .ok (.lreturn, 1) := by decide +kernel
set_option maxRecDepth 20000 in
theorem ggX0_binary_X0_byteAt : GoodIn wsX0_binary wsX0_byteAt := goodIn_r _ [6, 7, 8, 9, 10, 11] (by decide +kernel) (by decide +kernel)
set_option maxRecDepth 20000 in
theorem gX0_binary_X0_byteAt : GoodIn wsX0_binary (wsV RX0 30 RX0 yX0_byteAt wsX0_byteAt) := goodIn_app (goodIn_of _ (by decide +kernel)) ggX0_binary_X0_byteAt
theorem dX0_binary_0 : decode cX0_binary 0 = .ok (.aload_n 0, 1) := by decide +kernel
theorem dX0_binary_1 : decode cX0_binary 1 = .ok (.iload_n 1, 1) := by decide +kernel
theorem dX0_binary_2 : decode cX0_binary 2 = .ok (.iconst 0, 1) := by decide +kernel
theorem dX0_binary_3 : decode cX0_binary 3 = .ok (.invokevirtual 30, 3) := by decide +kernel
theorem dX0_binary_6 : decode cX0_binary 6 = .ok (.i2l, 1) := by decide +kernel
theorem dX0_binary_7 : decode cX0_binary 7 = .ok (.lstore_n 2, 1) := by decide +kernel
theorem dX0_binary_8 : decode cX0_binary 8 = .ok (.iconst 1, 1) := by decide +kernel
theorem dX0_binary_9 : decode cX0_binary 9 = .ok (.istore 4, 2) := by decide +kernel
theorem dX0_binary_11 : decode cX0_binary 11 = .ok (.iload 4, 2) := by decide +kernel
theorem dX0_binary_13 : decode cX0_binary 13 = .ok (.aload_n 0, 1) := by decide +kernel
theorem dX0_binary_14 : decode cX0_binary 14 = .ok (.getfield 15, 3) := by decide +kernel
theorem dX0_binary_17 : decode cX0_binary 17 = .ok (.iload_n 1, 1) := by decide +kernel
theorem dX0_binary_18 : decode cX0_binary 18 = .ok (.iaload, 1) := by decide +kernel
theorem dX0_binary_19 : decode cX0_binary 19 = .ok (.if_icmp .ge 27, 3) := by decide +kernel
theorem dX0_binary_22 : decode cX0_binary 22 = .ok (.lload_n 2, 1) := by decide +kernel
theorem dX0_binary_23 : decode cX0_binary 23 = .ok (.bipush 8, 2) := by decide +kernel
theorem dX0_binary_25 : decode cX0_binary 25 = .ok (.lshl, 1) := by decide +kernel
theorem dX0_binary_26 : decode cX0_binary 26 = .ok (.aload_n 0, 1) := by decide +kernel
theorem dX0_binary_27 : decode cX0_binary 27 = .ok (.iload_n 1, 1) := by decide +kernel
theorem dX0_binary_28 : decode cX0_binary 28 = .ok (.iload 4, 2) := by decide +kernel
theorem dX0_binary_30 : decode cX0_binary 30 = .ok (.invokevirtual 30, 3) := by decide +kernel
theorem dX0_binary_33 : decode cX0_binary 33 = .ok (.sipush 255, 3) := by decide +kernel
theorem dX0_binary_36 : decode cX0_binary 36 = .ok (.iand, 1) := by decide +kernel
theorem dX0_binary_37 : decode cX0_binary 37 = .ok (.i2l, 1) := by decide +kernel
theorem dX0_binary_38 : decode cX0_binary 38 = .ok (.lor, 1) := by decide +kernel
theorem dX0_binary_39 : decode cX0_binary 39 = .ok (.lstore_n 2, 1) := by decide +kernel
theorem dX0_binary_40 : decode cX0_binary 40 = .ok (.iinc 4 1, 3) := by decide +kernel
theorem dX0_binary_43 : decode cX0_binary 43 = .ok (.goto (-32), 3) := by decide +kernel
theorem dX0_binary_46 : decode cX0_binary 46 = .ok (.lload_n 2, 1) := by decide +kernel
theorem dX0_binary_47 : decode cX0_binary 47 = .ok (.lreturn, 1) := by decide +kernel
set_option maxRecDepth 20000 in
theorem ggX0_decimal_X0_byteAt : GoodIn wsX0_decimal wsX0_byteAt := goodIn_r _ [9, 10, 11, 12, 13, 14] (by decide +kernel) (by decide +kernel)
set_option maxRecDepth 20000 in
theorem gX0_decimal_X0_byteAt : GoodIn wsX0_decimal (wsV RX0 30 RX0 yX0_byteAt wsX0_byteAt) := goodIn_app (goodIn_of _ (by decide +kernel)) ggX0_decimal_X0_byteAt
theorem dX0_decimal_0 : decode cX0_decimal 0 = .ok (.lconst 0, 1) := by decide +kernel
theorem dX0_decimal_1 : decode cX0_decimal 1 = .ok (.lstore_n 2, 1) := by decide +kernel
theorem dX0_decimal_2 : decode cX0_decimal 2 = .ok (.iconst 0, 1) := by decide +kernel
theorem dX0_decimal_3 : decode cX0_decimal 3 = .ok (.istore 4, 2) := by decide +kernel
theorem dX0_decimal_5 : decode cX0_decimal 5 = .ok (.iload 4, 2) := by decide +kernel
theorem dX0_decimal_7 : decode cX0_decimal 7 = .ok (.aload_n 0, 1) := by decide +kernel
theorem dX0_decimal_8 : decode cX0_decimal 8 = .ok (.getfield 15, 3) := by decide +kernel
theorem dX0_decimal_11 : decode cX0_decimal 11 = .ok (.iload_n 1, 1) := by decide +kernel
theorem dX0_decimal_12 : decode cX0_decimal 12 = .ok (.iaload, 1) := by decide +kernel
theorem dX0_decimal_13 : decode cX0_decimal 13 = .ok (.if_icmp .ge 28, 3) := by decide +kernel
theorem dX0_decimal_16 : decode cX0_decimal 16 = .ok (.lload_n 2, 1) := by decide +kernel
theorem dX0_decimal_17 : decode cX0_decimal 17 = .ok (.ldc2_w 45, 3) := by decide +kernel
theorem dX0_decimal_20 : decode cX0_decimal 20 = .ok (.lmul, 1) := by decide +kernel
theorem dX0_decimal_21 : decode cX0_decimal 21 = .ok (.aload_n 0, 1) := by decide +kernel
theorem dX0_decimal_22 : decode cX0_decimal 22 = .ok (.iload_n 1, 1) := by decide +kernel
theorem dX0_decimal_23 : decode cX0_decimal 23 = .ok (.iload 4, 2) := by decide +kernel
theorem dX0_decimal_25 : decode cX0_decimal 25 = .ok (.invokevirtual 30, 3) := by decide +kernel
theorem dX0_decimal_28 : decode cX0_decimal 28 = .ok (.i2l, 1) := by decide +kernel
theorem dX0_decimal_29 : decode cX0_decimal 29 = .ok (.ladd, 1) := by decide +kernel
theorem dX0_decimal_30 : decode cX0_decimal 30 = .ok (.ldc2_w 47, 3) := by decide +kernel
theorem dX0_decimal_33 : decode cX0_decimal 33 = .ok (.lsub, 1) := by decide +kernel
theorem dX0_decimal_34 : decode cX0_decimal 34 = .ok (.lstore_n 2, 1) := by decide +kernel
theorem dX0_decimal_35 : decode cX0_decimal 35 = .ok (.iinc 4 1, 3) := by decide +kernel
theorem dX0_decimal_38 : decode cX0_decimal 38 = .ok (.goto (-33), 3) := by decide +kernel
theorem dX0_decimal_41 : decode cX0_decimal 41 = .ok (.aload_n 0, 1) := by decide +kernel
theorem dX0_decimal_42 : decode cX0_decimal 42 = .ok (.iload_n 1, 1) := by decide +kernel
theorem dX0_decimal_43 : decode cX0_decimal 43 = .ok (.aload_n 0, 1) := by decide +kernel
theorem dX0_decimal_44 : decode cX0_decimal 44 = .ok (.getfield 15, 3) := by decide +kernel
theorem dX0_decimal_47 : decode cX0_decimal 47 = .ok (.iload_n 1, 1) := by decide +kernel
theorem dX0_decimal_48 : decode cX0_decimal 48 = .ok (.iaload, 1) := by decide +kernel
theorem dX0_decimal_49 : decode cX0_decimal 49 = .ok (.iconst 1, 1) := by decide +kernel
theorem dX0_decimal_50 : decode cX0_decimal 50 = .ok (.isub, 1) := by decide +kernel
theorem dX0_decimal_51 : decode cX0_decimal 51 = .ok (.invokevirtual 30, 3) := by decide +kernel
theorem dX0_decimal_54 : decode cX0_decimal 54 = .ok (.bipush 112, 2) := by decide +kernel
theorem dX0_decimal_56 : decode cX0_decimal 56 = .ok (.if_icmp .lt 7, 3) := by decide +kernel
theorem dX0_decimal_59 : decode cX0_decimal 59 = .ok (.iconst 1, 1) := by decide +kernel
theorem dX0_decimal_60 : decode cX0_decimal 60 = .ok (.goto 4, 3) := by decide +kernel
theorem dX0_decimal_63 : decode cX0_decimal 63 = .ok (.iconst 0, 1) := by decide +kernel
theorem dX0_decimal_64 : decode cX0_decimal 64 = .ok (.istore 4, 2) := by decide +kernel
theorem dX0_decimal_66 : decode cX0_decimal 66 = .ok (.iload 4, 2) := by decide +kernel
theorem dX0_decimal_68 : decode cX0_decimal 68 = .ok (.ifCond .eq 11, 3) := by decide +kernel
theorem dX0_decimal_71 : decode cX0_decimal 71 = .ok (.ldc2_w 49, 3) := by decide +kernel
theorem dX0_decimal_74 : decode cX0_decimal 74 = .ok (.lload_n 2, 1) := by decide +kernel
theorem dX0_decimal_75 : decode cX0_decimal 75 = .ok (.lsub, 1) := by decide +kernel
theorem dX0_decimal_76 : decode cX0_decimal 76 = .ok (.goto 4, 3) := by decide +kernel
theorem dX0_decimal_79 : decode cX0_decimal 79 = .ok (.lload_n 2, 1) := by decide +kernel
theorem dX0_decimal_80 : decode cX0_decimal 80 = .ok (.lreturn, 1) := by decide +kernel
set_option maxRecDepth 20000 in
theorem ggX0_add_X0_says : GoodIn wsX0_add wsX0_says := goodIn_r _ [8, 1, 9, 10, 11, 7, 12, 3, 13, 14, 15, 16, 17, 18, 19, 20, 21, 22, 23, 24, 45, 46, 47, 48] (by decide +kernel) (by decide +kernel)
set_option maxRecDepth 20000 in
theorem gX0_add_X0_says : GoodIn wsX0_add (wsV RX0 51 RX0 yX0_says wsX0_says) := goodIn_app (goodIn_of _ (by decide +kernel)) ggX0_add_X0_says
set_option maxRecDepth 20000 in
theorem ggX0_add_X0_write : GoodIn wsX0_add wsX0_write := goodIn_r _ [28, 1, 29, 30, 31, 7, 32, 3, 33, 34, 35, 36, 17, 37, 38, 39, 40, 2, 41, 42, 43, 44, 23, 22, 45, 46, 47, 48] (by decide +kernel) (by decide +kernel)
set_option maxRecDepth 20000 in
theorem gX0_add_X0_write : GoodIn wsX0_add (wsV RX0 26 RX0 yX0_write wsX0_write) := goodIn_app (goodIn_of _ (by decide +kernel)) ggX0_add_X0_write
theorem dX0_add_0 : decode cX0_add 0 = .ok (.aload_n 0, 1) := by decide +kernel
theorem dX0_add_1 : decode cX0_add 1 = .ok (.iload_n 1, 1) := by decide +kernel
theorem dX0_add_2 : decode cX0_add 2 = .ok (.invokevirtual 51, 3) := by decide +kernel
theorem dX0_add_5 : decode cX0_add 5 = .ok (.lstore 4, 2) := by decide +kernel
theorem dX0_add_7 : decode cX0_add 7 = .ok (.lload 4, 2) := by decide +kernel
theorem dX0_add_9 : decode cX0_add 9 = .ok (.lconst 0, 1) := by decide +kernel
theorem dX0_add_10 : decode cX0_add 10 = .ok (.lcmp, 1) := by decide +kernel
theorem dX0_add_11 : decode cX0_add 11 = .ok (.ifCond .ge 7, 3) := by decide +kernel
theorem dX0_add_14 : decode cX0_add 14 = .ok (.iconst 1, 1) := by decide +kernel
theorem dX0_add_15 : decode cX0_add 15 = .ok (.goto 4, 3) := by decide +kernel
theorem dX0_add_18 : decode cX0_add 18 = .ok (.iconst 0, 1) := by decide +kernel
theorem dX0_add_19 : decode cX0_add 19 = .ok (.lload_n 2, 1) := by decide +kernel
theorem dX0_add_20 : decode cX0_add 20 = .ok (.lconst 0, 1) := by decide +kernel
theorem dX0_add_21 : decode cX0_add 21 = .ok (.lcmp, 1) := by decide +kernel
theorem dX0_add_22 : decode cX0_add 22 = .ok (.ifCond .ge 7, 3) := by decide +kernel
theorem dX0_add_25 : decode cX0_add 25 = .ok (.iconst 1, 1) := by decide +kernel
theorem dX0_add_26 : decode cX0_add 26 = .ok (.goto 4, 3) := by decide +kernel
theorem dX0_add_29 : decode cX0_add 29 = .ok (.iconst 0, 1) := by decide +kernel
theorem dX0_add_30 : decode cX0_add 30 = .ok (.if_icmp .ne 7, 3) := by decide +kernel
theorem dX0_add_33 : decode cX0_add 33 = .ok (.iconst 1, 1) := by decide +kernel
theorem dX0_add_34 : decode cX0_add 34 = .ok (.goto 4, 3) := by decide +kernel
theorem dX0_add_37 : decode cX0_add 37 = .ok (.iconst 0, 1) := by decide +kernel
theorem dX0_add_38 : decode cX0_add 38 = .ok (.istore 6, 2) := by decide +kernel
theorem dX0_add_40 : decode cX0_add 40 = .ok (.aload_n 0, 1) := by decide +kernel
theorem dX0_add_41 : decode cX0_add 41 = .ok (.getfield 11, 3) := by decide +kernel
theorem dX0_add_44 : decode cX0_add 44 = .ok (.iload_n 1, 1) := by decide +kernel
theorem dX0_add_45 : decode cX0_add 45 = .ok (.iaload, 1) := by decide +kernel
theorem dX0_add_46 : decode cX0_add 46 = .ok (.iconst 1, 1) := by decide +kernel
theorem dX0_add_47 : decode cX0_add 47 = .ok (.if_icmp .eq 23, 3) := by decide +kernel
theorem dX0_add_50 : decode cX0_add 50 = .ok (.iload 6, 2) := by decide +kernel
theorem dX0_add_52 : decode cX0_add 52 = .ok (.ifCond .eq 18, 3) := by decide +kernel
theorem dX0_add_55 : decode cX0_add 55 = .ok (.lload_n 2, 1) := by decide +kernel
theorem dX0_add_56 : decode cX0_add 56 = .ok (.getstatic 54, 3) := by decide +kernel
theorem dX0_add_59 : decode cX0_add 59 = .ok (.aload_n 0, 1) := by decide +kernel
theorem dX0_add_60 : decode cX0_add 60 = .ok (.getfield 15, 3) := by decide +kernel
theorem dX0_add_63 : decode cX0_add 63 = .ok (.iload_n 1, 1) := by decide +kernel
theorem dX0_add_64 : decode cX0_add 64 = .ok (.iaload, 1) := by decide +kernel
theorem dX0_add_65 : decode cX0_add 65 = .ok (.laload, 1) := by decide +kernel
theorem dX0_add_66 : decode cX0_add 66 = .ok (.lrem, 1) := by decide +kernel
theorem dX0_add_67 : decode cX0_add 67 = .ok (.goto 4, 3) := by decide +kernel
theorem dX0_add_70 : decode cX0_add 70 = .ok (.lload_n 2, 1) := by decide +kernel
theorem dX0_add_71 : decode cX0_add 71 = .ok (.lstore 7, 2) := by decide +kernel
theorem dX0_add_73 : decode cX0_add 73 = .ok (.aload_n 0, 1) := by decide +kernel
theorem dX0_add_74 : decode cX0_add 74 = .ok (.iload_n 1, 1) := by decide +kernel
theorem dX0_add_75 : decode cX0_add 75 = .ok (.lload 4, 2) := by decide +kernel
theorem dX0_add_77 : decode cX0_add 77 = .ok (.lload 7, 2) := by decide +kernel
theorem dX0_add_79 : decode cX0_add 79 = .ok (.ladd, 1) := by decide +kernel
theorem dX0_add_80 : decode cX0_add 80 = .ok (.invokevirtual 26, 3) := by decide +kernel
theorem dX0_add_83 : decode cX0_add 83 = .ok (.ireturn, 1) := by decide +kernel
set_option maxRecDepth 20000 in
theorem ggX0_write_X0_writeBinary : GoodIn wsX0_write wsX0_writeBinary := goodIn_r _ [6, 7, 8, 9, 10, 5, 11, 12, 24, 25, 26, 27] (by decide +kernel) (by decide +kernel)
set_option maxRecDepth 20000 in
theorem gX0_write_X0_writeBinary : GoodIn wsX0_write (wsV RX0 58 RX0 yX0_writeBinary wsX0_writeBinary) := goodIn_app (goodIn_of _ (by decide +kernel)) ggX0_write_X0_writeBinary
set_option maxRecDepth 20000 in
theorem ggX0_write_X0_writeDecimal : GoodIn wsX0_write wsX0_writeDecimal := goodIn_r _ [16, 7, 17, 18, 19, 20, 21, 22, 23, 8, 9, 10, 5, 11, 12, 24, 25, 26, 27] (by decide +kernel) (by decide +kernel)
set_option maxRecDepth 20000 in
theorem gX0_write_X0_writeDecimal : GoodIn wsX0_write (wsV RX0 61 RX0 yX0_writeDecimal wsX0_writeDecimal) := goodIn_app (goodIn_of _ (by decide +kernel)) ggX0_write_X0_writeDecimal
theorem dX0_write_0 : decode cX0_write 0 = .ok (.aload_n 0, 1) := by decide +kernel
theorem dX0_write_1 : decode cX0_write 1 = .ok (.getfield 11, 3) := by decide +kernel
theorem dX0_write_4 : decode cX0_write 4 = .ok (.iload_n 1, 1) := by decide +kernel
theorem dX0_write_5 : decode cX0_write 5 = .ok (.iaload, 1) := by decide +kernel
theorem dX0_write_6 : decode cX0_write 6 = .ok (.iconst 1, 1) := by decide +kernel
theorem dX0_write_7 : decode cX0_write 7 = .ok (.if_icmp .ne 12, 3) := by decide +kernel
theorem dX0_write_10 : decode cX0_write 10 = .ok (.aload_n 0, 1) := by decide +kernel
theorem dX0_write_11 : decode cX0_write 11 = .ok (.iload_n 1, 1) := by decide +kernel
theorem dX0_write_12 : decode cX0_write 12 = .ok (.lload_n 2, 1) := by decide +kernel
theorem dX0_write_13 : decode cX0_write 13 = .ok (.invokevirtual 58, 3) := by decide +kernel
theorem dX0_write_16 : decode cX0_write 16 = .ok (.goto 9, 3) := by decide +kernel
theorem dX0_write_19 : decode cX0_write 19 = .ok (.aload_n 0, 1) := by decide +kernel
theorem dX0_write_20 : decode cX0_write 20 = .ok (.iload_n 1, 1) := by decide +kernel
theorem dX0_write_21 : decode cX0_write 21 = .ok (.lload_n 2, 1) := by decide +kernel
theorem dX0_write_22 : decode cX0_write 22 = .ok (.invokevirtual 61, 3) := by decide +kernel
theorem dX0_write_25 : decode cX0_write 25 = .ok (.ireturn, 1) := by decide +kernel
set_option maxRecDepth 20000 in
theorem ggX0_writeBinary_X0_replaceByte : GoodIn wsX0_writeBinary wsX0_replaceByte := goodIn_r _ [6, 7, 8, 9, 10, 11] (by decide +kernel) (by decide +kernel)
set_option maxRecDepth 20000 in
theorem gX0_writeBinary_X0_replaceByte : GoodIn wsX0_writeBinary (wsV RX0 64 RX0 yX0_replaceByte wsX0_replaceByte) := goodIn_app (goodIn_of _ (by decide +kernel)) ggX0_writeBinary_X0_replaceByte
theorem dX0_writeBinary_0 : decode cX0_writeBinary 0 = .ok (.iconst 0, 1) := by decide +kernel
theorem dX0_writeBinary_1 : decode cX0_writeBinary 1 = .ok (.istore 4, 2) := by decide +kernel
theorem dX0_writeBinary_3 : decode cX0_writeBinary 3 = .ok (.lload_n 2, 1) := by decide +kernel
theorem dX0_writeBinary_4 : decode cX0_writeBinary 4 = .ok (.lstore 5, 2) := by decide +kernel
theorem dX0_writeBinary_6 : decode cX0_writeBinary 6 = .ok (.aload_n 0, 1) := by decide +kernel
theorem dX0_writeBinary_7 : decode cX0_writeBinary 7 = .ok (.getfield 15, 3) := by decide +kernel
theorem dX0_writeBinary_10 : decode cX0_writeBinary 10 = .ok (.iload_n 1, 1) := by decide +kernel
theorem dX0_writeBinary_11 : decode cX0_writeBinary 11 = .ok (.iaload, 1) := by decide +kernel
theorem dX0_writeBinary_12 : decode cX0_writeBinary 12 = .ok (.iconst 1, 1) := by decide +kernel
theorem dX0_writeBinary_13 : decode cX0_writeBinary 13 = .ok (.isub, 1) := by decide +kernel
theorem dX0_writeBinary_14 : decode cX0_writeBinary 14 = .ok (.istore 7, 2) := by decide +kernel
theorem dX0_writeBinary_16 : decode cX0_writeBinary 16 = .ok (.iload 7, 2) := by decide +kernel
theorem dX0_writeBinary_18 : decode cX0_writeBinary 18 = .ok (.ifCond .lt 32, 3) := by decide +kernel
theorem dX0_writeBinary_21 : decode cX0_writeBinary 21 = .ok (.iload 4, 2) := by decide +kernel
theorem dX0_writeBinary_23 : decode cX0_writeBinary 23 = .ok (.aload_n 0, 1) := by decide +kernel
theorem dX0_writeBinary_24 : decode cX0_writeBinary 24 = .ok (.iload_n 1, 1) := by decide +kernel
theorem dX0_writeBinary_25 : decode cX0_writeBinary 25 = .ok (.iload 7, 2) := by decide +kernel
theorem dX0_writeBinary_27 : decode cX0_writeBinary 27 = .ok (.lload 5, 2) := by decide +kernel
theorem dX0_writeBinary_29 : decode cX0_writeBinary 29 = .ok (.l2i, 1) := by decide +kernel
theorem dX0_writeBinary_30 : decode cX0_writeBinary 30 = .ok (.i2b, 1) := by decide +kernel
theorem dX0_writeBinary_31 : decode cX0_writeBinary 31 = .ok (.invokevirtual 64, 3) := by decide +kernel
theorem dX0_writeBinary_34 : decode cX0_writeBinary 34 = .ok (.ior, 1) := by decide +kernel
theorem dX0_writeBinary_35 : decode cX0_writeBinary 35 = .ok (.istore 4, 2) := by decide +kernel
theorem dX0_writeBinary_37 : decode cX0_writeBinary 37 = .ok (.lload 5, 2) := by decide +kernel
theorem dX0_writeBinary_39 : decode cX0_writeBinary 39 = .ok (.bipush 8, 2) := by decide +kernel
theorem dX0_writeBinary_41 : decode cX0_writeBinary 41 = .ok (.lshr, 1) := by decide +kernel
theorem dX0_writeBinary_42 : decode cX0_writeBinary 42 = .ok (.lstore 5, 2) := by decide +kernel
theorem dX0_writeBinary_44 : decode cX0_writeBinary 44 = .ok (.iinc 7 (-1), 3) := by decide +kernel
theorem dX0_writeBinary_47 : decode cX0_writeBinary 47 = .ok (.goto (-31), 3) := by decide +kernel
theorem dX0_writeBinary_50 : decode cX0_writeBinary 50 = .ok (.iload 4, 2) := by decide +kernel
theorem dX0_writeBinary_52 : decode cX0_writeBinary 52 = .ok (.ireturn, 1) := by decide +kernel
set_option maxRecDepth 20000 in
theorem ggX0_writeDecimal_X0_replaceByte : GoodIn wsX0_writeDecimal wsX0_replaceByte := goodIn_r _ [13, 14, 15, 16, 17, 18] (by decide +kernel) (by decide +kernel)
set_option maxRecDepth 20000 in
theorem gX0_writeDecimal_X0_replaceByte : GoodIn wsX0_writeDecimal (wsV RX0 64 RX0 yX0_replaceByte wsX0_replaceByte) := goodIn_app (goodIn_of _ (by decide +kernel)) ggX0_writeDecimal_X0_replaceByte
theorem dX0_writeDecimal_0 : decode cX0_writeDecimal 0 = .ok (.aload_n 0, 1) := by decide +kernel
theorem dX0_writeDecimal_1 : decode cX0_writeDecimal 1 = .ok (.getfield 15, 3) := by decide +kernel
theorem dX0_writeDecimal_4 : decode cX0_writeDecimal 4 = .ok (.iload_n 1, 1) := by decide +kernel
theorem dX0_writeDecimal_5 : decode cX0_writeDecimal 5 = .ok (.iaload, 1) := by decide +kernel
theorem dX0_writeDecimal_6 : decode cX0_writeDecimal 6 = .ok (.iconst 1, 1) := by decide +kernel
theorem dX0_writeDecimal_7 : decode cX0_writeDecimal 7 = .ok (.isub, 1) := by decide +kernel
theorem dX0_writeDecimal_8 : decode cX0_writeDecimal 8 = .ok (.istore 4, 2) := by decide +kernel
theorem dX0_writeDecimal_10 : decode cX0_writeDecimal 10 = .ok (.lload_n 2, 1) := by decide +kernel
theorem dX0_writeDecimal_11 : decode cX0_writeDecimal 11 = .ok (.getstatic 54, 3) := by decide +kernel
theorem dX0_writeDecimal_14 : decode cX0_writeDecimal 14 = .ok (.aload_n 0, 1) := by decide +kernel
theorem dX0_writeDecimal_15 : decode cX0_writeDecimal 15 = .ok (.getfield 15, 3) := by decide +kernel
theorem dX0_writeDecimal_18 : decode cX0_writeDecimal 18 = .ok (.iload_n 1, 1) := by decide +kernel
theorem dX0_writeDecimal_19 : decode cX0_writeDecimal 19 = .ok (.iaload, 1) := by decide +kernel
theorem dX0_writeDecimal_20 : decode cX0_writeDecimal 20 = .ok (.laload, 1) := by decide +kernel
theorem dX0_writeDecimal_21 : decode cX0_writeDecimal 21 = .ok (.lrem, 1) := by decide +kernel
theorem dX0_writeDecimal_22 : decode cX0_writeDecimal 22 = .ok (.lstore 5, 2) := by decide +kernel
theorem dX0_writeDecimal_24 : decode cX0_writeDecimal 24 = .ok (.lload 5, 2) := by decide +kernel
theorem dX0_writeDecimal_26 : decode cX0_writeDecimal 26 = .ok (.lconst 0, 1) := by decide +kernel
theorem dX0_writeDecimal_27 : decode cX0_writeDecimal 27 = .ok (.lcmp, 1) := by decide +kernel
theorem dX0_writeDecimal_28 : decode cX0_writeDecimal 28 = .ok (.ifCond .ge 8, 3) := by decide +kernel
theorem dX0_writeDecimal_31 : decode cX0_writeDecimal 31 = .ok (.bipush 64, 2) := by decide +kernel
theorem dX0_writeDecimal_33 : decode cX0_writeDecimal 33 = .ok (.goto 4, 3) := by decide +kernel
theorem dX0_writeDecimal_36 : decode cX0_writeDecimal 36 = .ok (.iconst 0, 1) := by decide +kernel
theorem dX0_writeDecimal_37 : decode cX0_writeDecimal 37 = .ok (.istore 7, 2) := by decide +kernel
theorem dX0_writeDecimal_39 : decode cX0_writeDecimal 39 = .ok (.lload 5, 2) := by decide +kernel
theorem dX0_writeDecimal_41 : decode cX0_writeDecimal 41 = .ok (.invokestatic 68, 3) := by decide +kernel
theorem dX0_writeDecimal_44 : decode cX0_writeDecimal 44 = .ok (.lstore 8, 2) := by decide +kernel
theorem dX0_writeDecimal_46 : decode cX0_writeDecimal 46 = .ok (.aload_n 0, 1) := by decide +kernel
theorem dX0_writeDecimal_47 : decode cX0_writeDecimal 47 = .ok (.iload_n 1, 1) := by decide +kernel
theorem dX0_writeDecimal_48 : decode cX0_writeDecimal 48 = .ok (.iload 4, 2) := by decide +kernel
theorem dX0_writeDecimal_50 : decode cX0_writeDecimal 50 = .ok (.ldc2_w 47, 3) := by decide +kernel
theorem dX0_writeDecimal_53 : decode cX0_writeDecimal 53 = .ok (.lload 8, 2) := by decide +kernel
theorem dX0_writeDecimal_55 : decode cX0_writeDecimal 55 = .ok (.ldc2_w 45, 3) := by decide +kernel
theorem dX0_writeDecimal_58 : decode cX0_writeDecimal 58 = .ok (.lrem, 1) := by decide +kernel
theorem dX0_writeDecimal_59 : decode cX0_writeDecimal 59 = .ok (.ladd, 1) := by decide +kernel
theorem dX0_writeDecimal_60 : decode cX0_writeDecimal 60 = .ok (.iload 7, 2) := by decide +kernel
theorem dX0_writeDecimal_62 : decode cX0_writeDecimal 62 = .ok (.i2l, 1) := by decide +kernel
theorem dX0_writeDecimal_63 : decode cX0_writeDecimal 63 = .ok (.ladd, 1) := by decide +kernel
theorem dX0_writeDecimal_64 : decode cX0_writeDecimal 64 = .ok (.l2i, 1) := by decide +kernel
theorem dX0_writeDecimal_65 : decode cX0_writeDecimal 65 = .ok (.i2b, 1) := by decide +kernel
theorem dX0_writeDecimal_66 : decode cX0_writeDecimal 66 = .ok (.invokevirtual 64, 3) := by decide +kernel
theorem dX0_writeDecimal_69 : decode cX0_writeDecimal 69 = .ok (.istore 10, 2) := by decide +kernel
theorem dX0_writeDecimal_71 : decode cX0_writeDecimal 71 = .ok (.iload 4, 2) := by decide +kernel
theorem dX0_writeDecimal_73 : decode cX0_writeDecimal 73 = .ok (.iconst 1, 1) := by decide +kernel
theorem dX0_writeDecimal_74 : decode cX0_writeDecimal 74 = .ok (.isub, 1) := by decide +kernel
theorem dX0_writeDecimal_75 : decode cX0_writeDecimal 75 = .ok (.istore 11, 2) := by decide +kernel
theorem dX0_writeDecimal_77 : decode cX0_writeDecimal 77 = .ok (.iload 11, 2) := by decide +kernel
theorem dX0_writeDecimal_79 : decode cX0_writeDecimal 79 = .ok (.ifCond .lt 41, 3) := by decide +kernel
theorem dX0_writeDecimal_82 : decode cX0_writeDecimal 82 = .ok (.lload 8, 2) := by decide +kernel
theorem dX0_writeDecimal_84 : decode cX0_writeDecimal 84 = .ok (.ldc2_w 45, 3) := by decide +kernel
theorem dX0_writeDecimal_87 : decode cX0_writeDecimal 87 = .ok (.ldiv, 1) := by decide +kernel
theorem dX0_writeDecimal_88 : decode cX0_writeDecimal 88 = .ok (.lstore 8, 2) := by decide +kernel
theorem dX0_writeDecimal_90 : decode cX0_writeDecimal 90 = .ok (.iload 10, 2) := by decide +kernel
theorem dX0_writeDecimal_92 : decode cX0_writeDecimal 92 = .ok (.aload_n 0, 1) := by decide +kernel
theorem dX0_writeDecimal_93 : decode cX0_writeDecimal 93 = .ok (.iload_n 1, 1) := by decide +kernel
theorem dX0_writeDecimal_94 : decode cX0_writeDecimal 94 = .ok (.iload 11, 2) := by decide +kernel
theorem dX0_writeDecimal_96 : decode cX0_writeDecimal 96 = .ok (.ldc2_w 47, 3) := by decide +kernel
theorem dX0_writeDecimal_99 : decode cX0_writeDecimal 99 = .ok (.lload 8, 2) := by decide +kernel
theorem dX0_writeDecimal_101 : decode cX0_writeDecimal 101 = .ok (.ldc2_w 45, 3) := by decide +kernel
theorem dX0_writeDecimal_104 : decode cX0_writeDecimal 104 = .ok (.lrem, 1) := by decide +kernel
theorem dX0_writeDecimal_105 : decode cX0_writeDecimal 105 = .ok (.ladd, 1) := by decide +kernel
theorem dX0_writeDecimal_106 : decode cX0_writeDecimal 106 = .ok (.l2i, 1) := by decide +kernel
theorem dX0_writeDecimal_107 : decode cX0_writeDecimal 107 = .ok (.i2b, 1) := by decide +kernel
theorem dX0_writeDecimal_108 : decode cX0_writeDecimal 108 = .ok (.invokevirtual 64, 3) := by decide +kernel
theorem dX0_writeDecimal_111 : decode cX0_writeDecimal 111 = .ok (.ior, 1) := by decide +kernel
theorem dX0_writeDecimal_112 : decode cX0_writeDecimal 112 = .ok (.istore 10, 2) := by decide +kernel
theorem dX0_writeDecimal_114 : decode cX0_writeDecimal 114 = .ok (.iinc 11 (-1), 3) := by decide +kernel
theorem dX0_writeDecimal_117 : decode cX0_writeDecimal 117 = .ok (.goto (-40), 3) := by decide +kernel
theorem dX0_writeDecimal_120 : decode cX0_writeDecimal 120 = .ok (.iload 10, 2) := by decide +kernel
theorem dX0_writeDecimal_122 : decode cX0_writeDecimal 122 = .ok (.ireturn, 1) := by decide +kernel
theorem dX0_replaceByte_0 : decode cX0_replaceByte 0 = .ok (.iload_n 1, 1) := by decide +kernel
theorem dX0_replaceByte_1 : decode cX0_replaceByte 1 = .ok (.bipush 9, 2) := by decide +kernel
theorem dX0_replaceByte_3 : decode cX0_replaceByte 3 = .ok (.imul, 1) := by decide +kernel
theorem dX0_replaceByte_4 : decode cX0_replaceByte 4 = .ok (.iload_n 2, 1) := by decide +kernel
theorem dX0_replaceByte_5 : decode cX0_replaceByte 5 = .ok (.iadd, 1) := by decide +kernel
theorem dX0_replaceByte_6 : decode cX0_replaceByte 6 = .ok (.istore 4, 2) := by decide +kernel
theorem dX0_replaceByte_8 : decode cX0_replaceByte 8 = .ok (.aload_n 0, 1) := by decide +kernel
theorem dX0_replaceByte_9 : decode cX0_replaceByte 9 = .ok (.getfield 18, 3) := by decide +kernel
theorem dX0_replaceByte_12 : decode cX0_replaceByte 12 = .ok (.iload 4, 2) := by decide +kernel
theorem dX0_replaceByte_14 : decode cX0_replaceByte 14 = .ok (.baload, 1) := by decide +kernel
theorem dX0_replaceByte_15 : decode cX0_replaceByte 15 = .ok (.iload_n 3, 1) := by decide +kernel
theorem dX0_replaceByte_16 : decode cX0_replaceByte 16 = .ok (.if_icmp .eq 7, 3) := by decide +kernel
theorem dX0_replaceByte_19 : decode cX0_replaceByte 19 = .ok (.iconst 1, 1) := by decide +kernel
theorem dX0_replaceByte_20 : decode cX0_replaceByte 20 = .ok (.goto 4, 3) := by decide +kernel
theorem dX0_replaceByte_23 : decode cX0_replaceByte 23 = .ok (.iconst 0, 1) := by decide +kernel
theorem dX0_replaceByte_24 : decode cX0_replaceByte 24 = .ok (.istore 5, 2) := by decide +kernel
theorem dX0_replaceByte_26 : decode cX0_replaceByte 26 = .ok (.aload_n 0, 1) := by decide +kernel
theorem dX0_replaceByte_27 : decode cX0_replaceByte 27 = .ok (.getfield 18, 3) := by decide +kernel
theorem dX0_replaceByte_30 : decode cX0_replaceByte 30 = .ok (.iload 4, 2) := by decide +kernel
theorem dX0_replaceByte_32 : decode cX0_replaceByte 32 = .ok (.iload_n 3, 1) := by decide +kernel
theorem dX0_replaceByte_33 : decode cX0_replaceByte 33 = .ok (.bastore, 1) := by decide +kernel
theorem dX0_replaceByte_34 : decode cX0_replaceByte 34 = .ok (.iload 5, 2) := by decide +kernel
theorem dX0_replaceByte_36 : decode cX0_replaceByte 36 = .ok (.ireturn, 1) := by decide +kernel
theorem dX1_init_0 : decode cX1_init 0 = .ok (.aload_n 0, 1) := by decide +kernel
theorem dX1_init_1 : decode cX1_init 1 = .ok (.invokespecial 1, 3) := by decide +kernel
theorem dX1_init_4 : decode cX1_init 4 = .ok (.aload_n 0, 1) := by decide +kernel
theorem dX1_init_5 : decode cX1_init 5 = .ok (.sipush 300, 3) := by decide +kernel
theorem dX1_init_8 : decode cX1_init 8 = .ok (.newarray .int, 2) := by decide +kernel
theorem dX1_init_10 : decode cX1_init 10 = .ok (.putfield 9, 3) := by decide +kernel
theorem dX1_init_13 : decode cX1_init 13 = .ok (.aload_n 0, 1) := by decide +kernel
theorem dX1_init_14 : decode cX1_init 14 = .ok (.sipush 300, 3) := by decide +kernel
theorem dX1_init_17 : decode cX1_init 17 = .ok (.newarray .int, 2) := by decide +kernel
theorem dX1_init_19 : decode cX1_init 19 = .ok (.putfield 13, 3) := by decide +kernel
theorem dX1_init_22 : decode cX1_init 22 = .ok (.aload_n 0, 1) := by decide +kernel
theorem dX1_init_23 : decode cX1_init 23 = .ok (.sipush 2700, 3) := by decide +kernel
theorem dX1_init_26 : decode cX1_init 26 = .ok (.newarray .byte, 2) := by decide +kernel
theorem dX1_init_28 : decode cX1_init 28 = .ok (.putfield 18, 3) := by decide +kernel
theorem dX1_init_31 : decode cX1_init 31 = .ok (.aload_n 0, 1) := by decide +kernel
theorem dX1_init_32 : decode cX1_init 32 = .ok (.sipush 300, 3) := by decide +kernel
theorem dX1_init_35 : decode cX1_init 35 = .ok (.newarray .int, 2) := by decide +kernel
theorem dX1_init_37 : decode cX1_init 37 = .ok (.putfield 22, 3) := by decide +kernel
theorem dX1_init_40 : decode cX1_init 40 = .ok (.return_, 1) := by decide +kernel
set_option maxRecDepth 20000 in
theorem ggX1_keep_X0_has : GoodIn wsX1_keep wsX0_has := goodIn_r _ [18, 19, 27, 28, 29, 30] (by decide +kernel) (by decide +kernel)
set_option maxRecDepth 20000 in
theorem gX1_keep_X0_has_n41 : GoodIn wsX1_keep (wsX0_has) := ggX1_keep_X0_has
theorem dX1_keep_0 : decode cX1_keep 0 = .ok (.aload_n 0, 1) := by decide +kernel
theorem dX1_keep_1 : decode cX1_keep 1 = .ok (.aload_n 0, 1) := by decide +kernel
theorem dX1_keep_2 : decode cX1_keep 2 = .ok (.getfield 25, 3) := by decide +kernel
theorem dX1_keep_5 : decode cX1_keep 5 = .ok (.putfield 29, 3) := by decide +kernel
theorem dX1_keep_8 : decode cX1_keep 8 = .ok (.aload_n 0, 1) := by decide +kernel
theorem dX1_keep_9 : decode cX1_keep 9 = .ok (.aload_n 0, 1) := by decide +kernel
theorem dX1_keep_10 : decode cX1_keep 10 = .ok (.getfield 25, 3) := by decide +kernel
theorem dX1_keep_13 : decode cX1_keep 13 = .ok (.iconst 1, 1) := by decide +kernel
theorem dX1_keep_14 : decode cX1_keep 14 = .ok (.iadd, 1) := by decide +kernel
theorem dX1_keep_15 : decode cX1_keep 15 = .ok (.sipush 300, 3) := by decide +kernel
theorem dX1_keep_18 : decode cX1_keep 18 = .ok (.irem, 1) := by decide +kernel
theorem dX1_keep_19 : decode cX1_keep 19 = .ok (.putfield 25, 3) := by decide +kernel
theorem dX1_keep_22 : decode cX1_keep 22 = .ok (.aload_n 0, 1) := by decide +kernel
theorem dX1_keep_23 : decode cX1_keep 23 = .ok (.aload_n 0, 1) := by decide +kernel
theorem dX1_keep_24 : decode cX1_keep 24 = .ok (.getfield 32, 3) := by decide +kernel
theorem dX1_keep_27 : decode cX1_keep 27 = .ok (.iconst 1, 1) := by decide +kernel
theorem dX1_keep_28 : decode cX1_keep 28 = .ok (.iadd, 1) := by decide +kernel
theorem dX1_keep_29 : decode cX1_keep 29 = .ok (.sipush 300, 3) := by decide +kernel
theorem dX1_keep_32 : decode cX1_keep 32 = .ok (.invokestatic 35, 3) := by decide +kernel
theorem dX1_keep_35 : decode cX1_keep 35 = .ok (.putfield 32, 3) := by decide +kernel
theorem dX1_keep_38 : decode cX1_keep 38 = .ok (.aload_n 0, 1) := by decide +kernel
theorem dX1_keep_39 : decode cX1_keep 39 = .ok (.getfield 9, 3) := by decide +kernel
theorem dX1_keep_42 : decode cX1_keep 42 = .ok (.aload_n 0, 1) := by decide +kernel
theorem dX1_keep_43 : decode cX1_keep 43 = .ok (.getfield 29, 3) := by decide +kernel
theorem dX1_keep_46 : decode cX1_keep 46 = .ok (.iload_n 1, 1) := by decide +kernel
theorem dX1_keep_47 : decode cX1_keep 47 = .ok (.iastore, 1) := by decide +kernel
theorem dX1_keep_48 : decode cX1_keep 48 = .ok (.aload_n 0, 1) := by decide +kernel
theorem dX1_keep_49 : decode cX1_keep 49 = .ok (.getfield 13, 3) := by decide +kernel
theorem dX1_keep_52 : decode cX1_keep 52 = .ok (.aload_n 0, 1) := by decide +kernel
theorem dX1_keep_53 : decode cX1_keep 53 = .ok (.getfield 29, 3) := by decide +kernel
theorem dX1_keep_56 : decode cX1_keep 56 = .ok (.iload_n 2, 1) := by decide +kernel
theorem dX1_keep_57 : decode cX1_keep 57 = .ok (.iastore, 1) := by decide +kernel
theorem dX1_keep_58 : decode cX1_keep 58 = .ok (.aload_n 3, 1) := by decide +kernel
theorem dX1_keep_59 : decode cX1_keep 59 = .ok (.iload_n 2, 1) := by decide +kernel
theorem dX1_keep_60 : decode cX1_keep 60 = .ok (.invokevirtual 41, 3) := by decide +kernel
theorem dX1_keep_63 : decode cX1_keep 63 = .ok (.ifCond .eq 27, 3) := by decide +kernel
theorem dX1_keep_66 : decode cX1_keep 66 = .ok (.aload_n 3, 1) := by decide +kernel
theorem dX1_keep_67 : decode cX1_keep 67 = .ok (.getfield 45, 3) := by decide +kernel
theorem dX1_keep_70 : decode cX1_keep 70 = .ok (.iload_n 2, 1) := by decide +kernel
theorem dX1_keep_71 : decode cX1_keep 71 = .ok (.bipush 9, 2) := by decide +kernel
theorem dX1_keep_73 : decode cX1_keep 73 = .ok (.imul, 1) := by decide +kernel
theorem dX1_keep_74 : decode cX1_keep 74 = .ok (.aload_n 0, 1) := by decide +kernel
theorem dX1_keep_75 : decode cX1_keep 75 = .ok (.getfield 18, 3) := by decide +kernel
theorem dX1_keep_78 : decode cX1_keep 78 = .ok (.aload_n 0, 1) := by decide +kernel
theorem dX1_keep_79 : decode cX1_keep 79 = .ok (.getfield 29, 3) := by decide +kernel
theorem dX1_keep_82 : decode cX1_keep 82 = .ok (.bipush 9, 2) := by decide +kernel
theorem dX1_keep_84 : decode cX1_keep 84 = .ok (.imul, 1) := by decide +kernel
theorem dX1_keep_85 : decode cX1_keep 85 = .ok (.bipush 9, 2) := by decide +kernel
theorem dX1_keep_87 : decode cX1_keep 87 = .ok (.invokestatic 46, 3) := by decide +kernel
theorem dX1_keep_90 : decode cX1_keep 90 = .ok (.return_, 1) := by decide +kernel
theorem dX1_noteEntered_0 : decode cX1_noteEntered 0 = .ok (.aload_n 0, 1) := by decide +kernel
theorem dX1_noteEntered_1 : decode cX1_noteEntered 1 = .ok (.getfield 22, 3) := by decide +kernel
theorem dX1_noteEntered_4 : decode cX1_noteEntered 4 = .ok (.aload_n 0, 1) := by decide +kernel
theorem dX1_noteEntered_5 : decode cX1_noteEntered 5 = .ok (.getfield 29, 3) := by decide +kernel
theorem dX1_noteEntered_8 : decode cX1_noteEntered 8 = .ok (.iconst (-1), 1) := by decide +kernel
theorem dX1_noteEntered_9 : decode cX1_noteEntered 9 = .ok (.iastore, 1) := by decide +kernel
theorem dX1_noteEntered_10 : decode cX1_noteEntered 10 = .ok (.return_, 1) := by decide +kernel
theorem dX1_noteLeft_0 : decode cX1_noteLeft 0 = .ok (.aload_n 0, 1) := by decide +kernel
theorem dX1_noteLeft_1 : decode cX1_noteLeft 1 = .ok (.getfield 22, 3) := by decide +kernel
theorem dX1_noteLeft_4 : decode cX1_noteLeft 4 = .ok (.aload_n 0, 1) := by decide +kernel
theorem dX1_noteLeft_5 : decode cX1_noteLeft 5 = .ok (.getfield 29, 3) := by decide +kernel
theorem dX1_noteLeft_8 : decode cX1_noteLeft 8 = .ok (.iload_n 1, 1) := by decide +kernel
theorem dX1_noteLeft_9 : decode cX1_noteLeft 9 = .ok (.iastore, 1) := by decide +kernel
theorem dX1_noteLeft_10 : decode cX1_noteLeft 10 = .ok (.return_, 1) := by decide +kernel
theorem dX1_takeNewest_0 : decode cX1_takeNewest 0 = .ok (.aload_n 0, 1) := by decide +kernel
theorem dX1_takeNewest_1 : decode cX1_takeNewest 1 = .ok (.aload_n 0, 1) := by decide +kernel
theorem dX1_takeNewest_2 : decode cX1_takeNewest 2 = .ok (.getfield 25, 3) := by decide +kernel
theorem dX1_takeNewest_5 : decode cX1_takeNewest 5 = .ok (.sipush 300, 3) := by decide +kernel
theorem dX1_takeNewest_8 : decode cX1_takeNewest 8 = .ok (.iadd, 1) := by decide +kernel
theorem dX1_takeNewest_9 : decode cX1_takeNewest 9 = .ok (.iconst 1, 1) := by decide +kernel
theorem dX1_takeNewest_10 : decode cX1_takeNewest 10 = .ok (.isub, 1) := by decide +kernel
theorem dX1_takeNewest_11 : decode cX1_takeNewest 11 = .ok (.sipush 300, 3) := by decide +kernel
theorem dX1_takeNewest_14 : decode cX1_takeNewest 14 = .ok (.irem, 1) := by decide +kernel
theorem dX1_takeNewest_15 : decode cX1_takeNewest 15 = .ok (.putfield 25, 3) := by decide +kernel
theorem dX1_takeNewest_18 : decode cX1_takeNewest 18 = .ok (.aload_n 0, 1) := by decide +kernel
theorem dX1_takeNewest_19 : decode cX1_takeNewest 19 = .ok (.aload_n 0, 1) := by decide +kernel
theorem dX1_takeNewest_20 : decode cX1_takeNewest 20 = .ok (.getfield 25, 3) := by decide +kernel
theorem dX1_takeNewest_23 : decode cX1_takeNewest 23 = .ok (.putfield 29, 3) := by decide +kernel
theorem dX1_takeNewest_26 : decode cX1_takeNewest 26 = .ok (.aload_n 0, 1) := by decide +kernel
theorem dX1_takeNewest_27 : decode cX1_takeNewest 27 = .ok (.dup, 1) := by decide +kernel
theorem dX1_takeNewest_28 : decode cX1_takeNewest 28 = .ok (.getfield 32, 3) := by decide +kernel
theorem dX1_takeNewest_31 : decode cX1_takeNewest 31 = .ok (.iconst 1, 1) := by decide +kernel
theorem dX1_takeNewest_32 : decode cX1_takeNewest 32 = .ok (.isub, 1) := by decide +kernel
theorem dX1_takeNewest_33 : decode cX1_takeNewest 33 = .ok (.putfield 32, 3) := by decide +kernel
theorem dX1_takeNewest_36 : decode cX1_takeNewest 36 = .ok (.return_, 1) := by decide +kernel
theorem dX1_newestStatement_0 : decode cX1_newestStatement 0 = .ok (.aload_n 0, 1) := by decide +kernel
theorem dX1_newestStatement_1 : decode cX1_newestStatement 1 = .ok (.getfield 9, 3) := by decide +kernel
theorem dX1_newestStatement_4 : decode cX1_newestStatement 4 = .ok (.aload_n 0, 1) := by decide +kernel
theorem dX1_newestStatement_5 : decode cX1_newestStatement 5 = .ok (.getfield 29, 3) := by decide +kernel
theorem dX1_newestStatement_8 : decode cX1_newestStatement 8 = .ok (.iaload, 1) := by decide +kernel
theorem dX1_newestStatement_9 : decode cX1_newestStatement 9 = .ok (.ireturn, 1) := by decide +kernel
set_option maxRecDepth 20000 in
theorem ggX1_restoreBytes_X0_has : GoodIn wsX1_restoreBytes wsX0_has := goodIn_r _ [11, 12, 20, 21, 22, 23] (by decide +kernel) (by decide +kernel)
set_option maxRecDepth 20000 in
theorem gX1_restoreBytes_X0_has_n41 : GoodIn wsX1_restoreBytes (wsX0_has) := ggX1_restoreBytes_X0_has
theorem dX1_restoreBytes_0 : decode cX1_restoreBytes 0 = .ok (.aload_n 0, 1) := by decide +kernel
theorem dX1_restoreBytes_1 : decode cX1_restoreBytes 1 = .ok (.getfield 13, 3) := by decide +kernel
theorem dX1_restoreBytes_4 : decode cX1_restoreBytes 4 = .ok (.aload_n 0, 1) := by decide +kernel
theorem dX1_restoreBytes_5 : decode cX1_restoreBytes 5 = .ok (.getfield 29, 3) := by decide +kernel
theorem dX1_restoreBytes_8 : decode cX1_restoreBytes 8 = .ok (.iaload, 1) := by decide +kernel
theorem dX1_restoreBytes_9 : decode cX1_restoreBytes 9 = .ok (.istore_n 2, 1) := by decide +kernel
theorem dX1_restoreBytes_10 : decode cX1_restoreBytes 10 = .ok (.aload_n 1, 1) := by decide +kernel
theorem dX1_restoreBytes_11 : decode cX1_restoreBytes 11 = .ok (.iload_n 2, 1) := by decide +kernel
theorem dX1_restoreBytes_12 : decode cX1_restoreBytes 12 = .ok (.invokevirtual 41, 3) := by decide +kernel
theorem dX1_restoreBytes_15 : decode cX1_restoreBytes 15 = .ok (.ifCond .eq 27, 3) := by decide +kernel
theorem dX1_restoreBytes_18 : decode cX1_restoreBytes 18 = .ok (.aload_n 0, 1) := by decide +kernel
theorem dX1_restoreBytes_19 : decode cX1_restoreBytes 19 = .ok (.getfield 18, 3) := by decide +kernel
theorem dX1_restoreBytes_22 : decode cX1_restoreBytes 22 = .ok (.aload_n 0, 1) := by decide +kernel
theorem dX1_restoreBytes_23 : decode cX1_restoreBytes 23 = .ok (.getfield 29, 3) := by decide +kernel
theorem dX1_restoreBytes_26 : decode cX1_restoreBytes 26 = .ok (.bipush 9, 2) := by decide +kernel
theorem dX1_restoreBytes_28 : decode cX1_restoreBytes 28 = .ok (.imul, 1) := by decide +kernel
theorem dX1_restoreBytes_29 : decode cX1_restoreBytes 29 = .ok (.aload_n 1, 1) := by decide +kernel
theorem dX1_restoreBytes_30 : decode cX1_restoreBytes 30 = .ok (.getfield 45, 3) := by decide +kernel
theorem dX1_restoreBytes_33 : decode cX1_restoreBytes 33 = .ok (.iload_n 2, 1) := by decide +kernel
theorem dX1_restoreBytes_34 : decode cX1_restoreBytes 34 = .ok (.bipush 9, 2) := by decide +kernel
theorem dX1_restoreBytes_36 : decode cX1_restoreBytes 36 = .ok (.imul, 1) := by decide +kernel
theorem dX1_restoreBytes_37 : decode cX1_restoreBytes 37 = .ok (.bipush 9, 2) := by decide +kernel
theorem dX1_restoreBytes_39 : decode cX1_restoreBytes 39 = .ok (.invokestatic 46, 3) := by decide +kernel
theorem dX1_restoreBytes_42 : decode cX1_restoreBytes 42 = .ok (.return_, 1) := by decide +kernel
theorem dX1_newestEntered_0 : decode cX1_newestEntered 0 = .ok (.aload_n 0, 1) := by decide +kernel
theorem dX1_newestEntered_1 : decode cX1_newestEntered 1 = .ok (.getfield 22, 3) := by decide +kernel
theorem dX1_newestEntered_4 : decode cX1_newestEntered 4 = .ok (.aload_n 0, 1) := by decide +kernel
theorem dX1_newestEntered_5 : decode cX1_newestEntered 5 = .ok (.getfield 29, 3) := by decide +kernel
theorem dX1_newestEntered_8 : decode cX1_newestEntered 8 = .ok (.iaload, 1) := by decide +kernel
theorem dX1_newestEntered_9 : decode cX1_newestEntered 9 = .ok (.iconst (-1), 1) := by decide +kernel
theorem dX1_newestEntered_10 : decode cX1_newestEntered 10 = .ok (.if_icmp .ne 7, 3) := by decide +kernel
theorem dX1_newestEntered_13 : decode cX1_newestEntered 13 = .ok (.iconst 1, 1) := by decide +kernel
theorem dX1_newestEntered_14 : decode cX1_newestEntered 14 = .ok (.goto 4, 3) := by decide +kernel
theorem dX1_newestEntered_17 : decode cX1_newestEntered 17 = .ok (.iconst 0, 1) := by decide +kernel
theorem dX1_newestEntered_18 : decode cX1_newestEntered 18 = .ok (.ireturn, 1) := by decide +kernel
theorem dX1_newestLeft_0 : decode cX1_newestLeft 0 = .ok (.iconst 0, 1) := by decide +kernel
theorem dX1_newestLeft_1 : decode cX1_newestLeft 1 = .ok (.aload_n 0, 1) := by decide +kernel
theorem dX1_newestLeft_2 : decode cX1_newestLeft 2 = .ok (.getfield 22, 3) := by decide +kernel
theorem dX1_newestLeft_5 : decode cX1_newestLeft 5 = .ok (.aload_n 0, 1) := by decide +kernel
theorem dX1_newestLeft_6 : decode cX1_newestLeft 6 = .ok (.getfield 29, 3) := by decide +kernel
theorem dX1_newestLeft_9 : decode cX1_newestLeft 9 = .ok (.iaload, 1) := by decide +kernel
theorem dX1_newestLeft_10 : decode cX1_newestLeft 10 = .ok (.invokestatic 52, 3) := by decide +kernel
theorem dX1_newestLeft_13 : decode cX1_newestLeft 13 = .ok (.ireturn, 1) := by decide +kernel
theorem dX2_init_0 : decode cX2_init 0 = .ok (.aload_n 0, 1) := by decide +kernel
theorem dX2_init_1 : decode cX2_init 1 = .ok (.invokespecial 5, 3) := by decide +kernel
theorem dX2_init_4 : decode cX2_init 4 = .ok (.aload_n 0, 1) := by decide +kernel
theorem dX2_init_5 : decode cX2_init 5 = .ok (.bipush 20, 2) := by decide +kernel
theorem dX2_init_7 : decode cX2_init 7 = .ok (.newarray .int, 2) := by decide +kernel
theorem dX2_init_9 : decode cX2_init 9 = .ok (.putfield 11, 3) := by decide +kernel
theorem dX2_init_12 : decode cX2_init 12 = .ok (.aload_n 0, 1) := by decide +kernel
theorem dX2_init_13 : decode cX2_init 13 = .ok (.bipush 20, 2) := by decide +kernel
theorem dX2_init_15 : decode cX2_init 15 = .ok (.newarray .int, 2) := by decide +kernel
theorem dX2_init_17 : decode cX2_init 17 = .ok (.putfield 15, 3) := by decide +kernel
theorem dX2_init_20 : decode cX2_init 20 = .ok (.aload_n 0, 1) := by decide +kernel
theorem dX2_init_21 : decode cX2_init 21 = .ok (.sipush 320, 3) := by decide +kernel
theorem dX2_init_24 : decode cX2_init 24 = .ok (.newarray .int, 2) := by decide +kernel
theorem dX2_init_26 : decode cX2_init 26 = .ok (.putfield 18, 3) := by decide +kernel
theorem dX2_init_29 : decode cX2_init 29 = .ok (.aload_n 0, 1) := by decide +kernel
theorem dX2_init_30 : decode cX2_init 30 = .ok (.sipush 320, 3) := by decide +kernel
theorem dX2_init_33 : decode cX2_init 33 = .ok (.newarray .int, 2) := by decide +kernel
theorem dX2_init_35 : decode cX2_init 35 = .ok (.putfield 21, 3) := by decide +kernel
theorem dX2_init_38 : decode cX2_init 38 = .ok (.return_, 1) := by decide +kernel
theorem dX2_enter_0 : decode cX2_enter 0 = .ok (.aload_n 0, 1) := by decide +kernel
theorem dX2_enter_1 : decode cX2_enter 1 = .ok (.getfield 24, 3) := by decide +kernel
theorem dX2_enter_4 : decode cX2_enter 4 = .ok (.bipush 20, 2) := by decide +kernel
theorem dX2_enter_6 : decode cX2_enter 6 = .ok (.if_icmp .lt 5, 3) := by decide +kernel
theorem dX2_enter_9 : decode cX2_enter 9 = .ok (.iconst 0, 1) := by decide +kernel
theorem dX2_enter_10 : decode cX2_enter 10 = .ok (.ireturn, 1) := by decide +kernel
theorem dX2_enter_11 : decode cX2_enter 11 = .ok (.aload_n 0, 1) := by decide +kernel
theorem dX2_enter_12 : decode cX2_enter 12 = .ok (.getfield 11, 3) := by decide +kernel
theorem dX2_enter_15 : decode cX2_enter 15 = .ok (.aload_n 0, 1) := by decide +kernel
theorem dX2_enter_16 : decode cX2_enter 16 = .ok (.getfield 24, 3) := by decide +kernel
theorem dX2_enter_19 : decode cX2_enter 19 = .ok (.iload_n 1, 1) := by decide +kernel
theorem dX2_enter_20 : decode cX2_enter 20 = .ok (.iastore, 1) := by decide +kernel
theorem dX2_enter_21 : decode cX2_enter 21 = .ok (.aload_n 0, 1) := by decide +kernel
theorem dX2_enter_22 : decode cX2_enter 22 = .ok (.getfield 15, 3) := by decide +kernel
theorem dX2_enter_25 : decode cX2_enter 25 = .ok (.aload_n 0, 1) := by decide +kernel
theorem dX2_enter_26 : decode cX2_enter 26 = .ok (.getfield 24, 3) := by decide +kernel
theorem dX2_enter_29 : decode cX2_enter 29 = .ok (.iload_n 2, 1) := by decide +kernel
theorem dX2_enter_30 : decode cX2_enter 30 = .ok (.iastore, 1) := by decide +kernel
theorem dX2_enter_31 : decode cX2_enter 31 = .ok (.aload_n 0, 1) := by decide +kernel
theorem dX2_enter_32 : decode cX2_enter 32 = .ok (.dup, 1) := by decide +kernel
theorem dX2_enter_33 : decode cX2_enter 33 = .ok (.getfield 24, 3) := by decide +kernel
theorem dX2_enter_36 : decode cX2_enter 36 = .ok (.iconst 1, 1) := by decide +kernel
theorem dX2_enter_37 : decode cX2_enter 37 = .ok (.iadd, 1) := by decide +kernel
theorem dX2_enter_38 : decode cX2_enter 38 = .ok (.putfield 24, 3) := by decide +kernel
theorem dX2_enter_41 : decode cX2_enter 41 = .ok (.iconst 1, 1) := by decide +kernel
theorem dX2_enter_42 : decode cX2_enter 42 = .ok (.ireturn, 1) := by decide +kernel
theorem dX2_endsAt_0 : decode cX2_endsAt 0 = .ok (.aload_n 0, 1) := by decide +kernel
theorem dX2_endsAt_1 : decode cX2_endsAt 1 = .ok (.getfield 24, 3) := by decide +kernel
theorem dX2_endsAt_4 : decode cX2_endsAt 4 = .ok (.ifCond .le 22, 3) := by decide +kernel
theorem dX2_endsAt_7 : decode cX2_endsAt 7 = .ok (.aload_n 0, 1) := by decide +kernel
theorem dX2_endsAt_8 : decode cX2_endsAt 8 = .ok (.getfield 15, 3) := by decide +kernel
theorem dX2_endsAt_11 : decode cX2_endsAt 11 = .ok (.aload_n 0, 1) := by decide +kernel
theorem dX2_endsAt_12 : decode cX2_endsAt 12 = .ok (.getfield 24, 3) := by decide +kernel
theorem dX2_endsAt_15 : decode cX2_endsAt 15 = .ok (.iconst 1, 1) := by decide +kernel
theorem dX2_endsAt_16 : decode cX2_endsAt 16 = .ok (.isub, 1) := by decide +kernel
theorem dX2_endsAt_17 : decode cX2_endsAt 17 = .ok (.iaload, 1) := by decide +kernel
theorem dX2_endsAt_18 : decode cX2_endsAt 18 = .ok (.iload_n 1, 1) := by decide +kernel
theorem dX2_endsAt_19 : decode cX2_endsAt 19 = .ok (.if_icmp .ne 7, 3) := by decide +kernel
theorem dX2_endsAt_22 : decode cX2_endsAt 22 = .ok (.iconst 1, 1) := by decide +kernel
theorem dX2_endsAt_23 : decode cX2_endsAt 23 = .ok (.goto 4, 3) := by decide +kernel
theorem dX2_endsAt_26 : decode cX2_endsAt 26 = .ok (.iconst 0, 1) := by decide +kernel
theorem dX2_endsAt_27 : decode cX2_endsAt 27 = .ok (.ireturn, 1) := by decide +kernel
theorem dX2_leave_0 : decode cX2_leave 0 = .ok (.aload_n 0, 1) := by decide +kernel
theorem dX2_leave_1 : decode cX2_leave 1 = .ok (.dup, 1) := by decide +kernel
theorem dX2_leave_2 : decode cX2_leave 2 = .ok (.getfield 24, 3) := by decide +kernel
theorem dX2_leave_5 : decode cX2_leave 5 = .ok (.iconst 1, 1) := by decide +kernel
theorem dX2_leave_6 : decode cX2_leave 6 = .ok (.isub, 1) := by decide +kernel
theorem dX2_leave_7 : decode cX2_leave 7 = .ok (.putfield 24, 3) := by decide +kernel
theorem dX2_leave_10 : decode cX2_leave 10 = .ok (.aload_n 0, 1) := by decide +kernel
theorem dX2_leave_11 : decode cX2_leave 11 = .ok (.getfield 18, 3) := by decide +kernel
theorem dX2_leave_14 : decode cX2_leave 14 = .ok (.aload_n 0, 1) := by decide +kernel
theorem dX2_leave_15 : decode cX2_leave 15 = .ok (.getfield 28, 3) := by decide +kernel
theorem dX2_leave_18 : decode cX2_leave 18 = .ok (.aload_n 0, 1) := by decide +kernel
theorem dX2_leave_19 : decode cX2_leave 19 = .ok (.getfield 11, 3) := by decide +kernel
theorem dX2_leave_22 : decode cX2_leave 22 = .ok (.aload_n 0, 1) := by decide +kernel
theorem dX2_leave_23 : decode cX2_leave 23 = .ok (.getfield 24, 3) := by decide +kernel
theorem dX2_leave_26 : decode cX2_leave 26 = .ok (.iaload, 1) := by decide +kernel
theorem dX2_leave_27 : decode cX2_leave 27 = .ok (.iastore, 1) := by decide +kernel
theorem dX2_leave_28 : decode cX2_leave 28 = .ok (.aload_n 0, 1) := by decide +kernel
theorem dX2_leave_29 : decode cX2_leave 29 = .ok (.getfield 21, 3) := by decide +kernel
theorem dX2_leave_32 : decode cX2_leave 32 = .ok (.aload_n 0, 1) := by decide +kernel
theorem dX2_leave_33 : decode cX2_leave 33 = .ok (.getfield 28, 3) := by decide +kernel
theorem dX2_leave_36 : decode cX2_leave 36 = .ok (.aload_n 0, 1) := by decide +kernel
theorem dX2_leave_37 : decode cX2_leave 37 = .ok (.getfield 15, 3) := by decide +kernel
theorem dX2_leave_40 : decode cX2_leave 40 = .ok (.aload_n 0, 1) := by decide +kernel
theorem dX2_leave_41 : decode cX2_leave 41 = .ok (.getfield 24, 3) := by decide +kernel
theorem dX2_leave_44 : decode cX2_leave 44 = .ok (.iaload, 1) := by decide +kernel
theorem dX2_leave_45 : decode cX2_leave 45 = .ok (.iastore, 1) := by decide +kernel
theorem dX2_leave_46 : decode cX2_leave 46 = .ok (.aload_n 0, 1) := by decide +kernel
theorem dX2_leave_47 : decode cX2_leave 47 = .ok (.aload_n 0, 1) := by decide +kernel
theorem dX2_leave_48 : decode cX2_leave 48 = .ok (.getfield 28, 3) := by decide +kernel
theorem dX2_leave_51 : decode cX2_leave 51 = .ok (.iconst 1, 1) := by decide +kernel
theorem dX2_leave_52 : decode cX2_leave 52 = .ok (.iadd, 1) := by decide +kernel
theorem dX2_leave_53 : decode cX2_leave 53 = .ok (.sipush 320, 3) := by decide +kernel
theorem dX2_leave_56 : decode cX2_leave 56 = .ok (.irem, 1) := by decide +kernel
theorem dX2_leave_57 : decode cX2_leave 57 = .ok (.putfield 28, 3) := by decide +kernel
theorem dX2_leave_60 : decode cX2_leave 60 = .ok (.aload_n 0, 1) := by decide +kernel
theorem dX2_leave_61 : decode cX2_leave 61 = .ok (.getfield 11, 3) := by decide +kernel
theorem dX2_leave_64 : decode cX2_leave 64 = .ok (.aload_n 0, 1) := by decide +kernel
theorem dX2_leave_65 : decode cX2_leave 65 = .ok (.getfield 24, 3) := by decide +kernel
theorem dX2_leave_68 : decode cX2_leave 68 = .ok (.iaload, 1) := by decide +kernel
theorem dX2_leave_69 : decode cX2_leave 69 = .ok (.ireturn, 1) := by decide +kernel
set_option maxRecDepth 20000 in
theorem ggX2_reopen_X2_enter : GoodIn wsX2_reopen wsX2_enter := goodIn_r _ [8, 9, 10, 11, 12, 13, 14, 15, 16, 17] (by decide +kernel) (by decide +kernel)
set_option maxRecDepth 20000 in
theorem gX2_reopen_X2_enter : GoodIn wsX2_reopen (wsV RX2 31 RX2 yX2_enter wsX2_enter) := goodIn_app (goodIn_of _ (by decide +kernel)) ggX2_reopen_X2_enter
theorem dX2_reopen_0 : decode cX2_reopen 0 = .ok (.aload_n 0, 1) := by decide +kernel
theorem dX2_reopen_1 : decode cX2_reopen 1 = .ok (.aload_n 0, 1) := by decide +kernel
theorem dX2_reopen_2 : decode cX2_reopen 2 = .ok (.getfield 28, 3) := by decide +kernel
theorem dX2_reopen_5 : decode cX2_reopen 5 = .ok (.sipush 320, 3) := by decide +kernel
theorem dX2_reopen_8 : decode cX2_reopen 8 = .ok (.iadd, 1) := by decide +kernel
theorem dX2_reopen_9 : decode cX2_reopen 9 = .ok (.iconst 1, 1) := by decide +kernel
theorem dX2_reopen_10 : decode cX2_reopen 10 = .ok (.isub, 1) := by decide +kernel
theorem dX2_reopen_11 : decode cX2_reopen 11 = .ok (.sipush 320, 3) := by decide +kernel
theorem dX2_reopen_14 : decode cX2_reopen 14 = .ok (.irem, 1) := by decide +kernel
theorem dX2_reopen_15 : decode cX2_reopen 15 = .ok (.putfield 28, 3) := by decide +kernel
theorem dX2_reopen_18 : decode cX2_reopen 18 = .ok (.aload_n 0, 1) := by decide +kernel
theorem dX2_reopen_19 : decode cX2_reopen 19 = .ok (.aload_n 0, 1) := by decide +kernel
theorem dX2_reopen_20 : decode cX2_reopen 20 = .ok (.getfield 18, 3) := by decide +kernel
theorem dX2_reopen_23 : decode cX2_reopen 23 = .ok (.aload_n 0, 1) := by decide +kernel
theorem dX2_reopen_24 : decode cX2_reopen 24 = .ok (.getfield 28, 3) := by decide +kernel
theorem dX2_reopen_27 : decode cX2_reopen 27 = .ok (.iaload, 1) := by decide +kernel
theorem dX2_reopen_28 : decode cX2_reopen 28 = .ok (.aload_n 0, 1) := by decide +kernel
theorem dX2_reopen_29 : decode cX2_reopen 29 = .ok (.getfield 21, 3) := by decide +kernel
theorem dX2_reopen_32 : decode cX2_reopen 32 = .ok (.aload_n 0, 1) := by decide +kernel
theorem dX2_reopen_33 : decode cX2_reopen 33 = .ok (.getfield 28, 3) := by decide +kernel
theorem dX2_reopen_36 : decode cX2_reopen 36 = .ok (.iaload, 1) := by decide +kernel
theorem dX2_reopen_37 : decode cX2_reopen 37 = .ok (.invokevirtual 31, 3) := by decide +kernel
theorem dX2_reopen_40 : decode cX2_reopen 40 = .ok (.pop, 1) := by decide +kernel
theorem dX2_reopen_41 : decode cX2_reopen 41 = .ok (.return_, 1) := by decide +kernel
theorem dX2_forgetNewest_0 : decode cX2_forgetNewest 0 = .ok (.aload_n 0, 1) := by decide +kernel
theorem dX2_forgetNewest_1 : decode cX2_forgetNewest 1 = .ok (.getfield 24, 3) := by decide +kernel
theorem dX2_forgetNewest_4 : decode cX2_forgetNewest 4 = .ok (.ifCond .le 13, 3) := by decide +kernel
theorem dX2_forgetNewest_7 : decode cX2_forgetNewest 7 = .ok (.aload_n 0, 1) := by decide +kernel
theorem dX2_forgetNewest_8 : decode cX2_forgetNewest 8 = .ok (.dup, 1) := by decide +kernel
theorem dX2_forgetNewest_9 : decode cX2_forgetNewest 9 = .ok (.getfield 24, 3) := by decide +kernel
theorem dX2_forgetNewest_12 : decode cX2_forgetNewest 12 = .ok (.iconst 1, 1) := by decide +kernel
theorem dX2_forgetNewest_13 : decode cX2_forgetNewest 13 = .ok (.isub, 1) := by decide +kernel
theorem dX2_forgetNewest_14 : decode cX2_forgetNewest 14 = .ok (.putfield 24, 3) := by decide +kernel
theorem dX2_forgetNewest_17 : decode cX2_forgetNewest 17 = .ok (.return_, 1) := by decide +kernel
theorem dX2_performer_0 : decode cX2_performer 0 = .ok (.iload_n 1, 1) := by decide +kernel
theorem dX2_performer_1 : decode cX2_performer 1 = .ok (.ifCond .lt 27, 3) := by decide +kernel
theorem dX2_performer_4 : decode cX2_performer 4 = .ok (.iload_n 1, 1) := by decide +kernel
theorem dX2_performer_5 : decode cX2_performer 5 = .ok (.aload_n 0, 1) := by decide +kernel
theorem dX2_performer_6 : decode cX2_performer 6 = .ok (.getfield 24, 3) := by decide +kernel
theorem dX2_performer_9 : decode cX2_performer 9 = .ok (.if_icmp .ge 19, 3) := by decide +kernel
theorem dX2_performer_12 : decode cX2_performer 12 = .ok (.aload_n 0, 1) := by decide +kernel
theorem dX2_performer_13 : decode cX2_performer 13 = .ok (.getfield 11, 3) := by decide +kernel
theorem dX2_performer_16 : decode cX2_performer 16 = .ok (.aload_n 0, 1) := by decide +kernel
theorem dX2_performer_17 : decode cX2_performer 17 = .ok (.getfield 24, 3) := by decide +kernel
theorem dX2_performer_20 : decode cX2_performer 20 = .ok (.iconst 1, 1) := by decide +kernel
theorem dX2_performer_21 : decode cX2_performer 21 = .ok (.isub, 1) := by decide +kernel
theorem dX2_performer_22 : decode cX2_performer 22 = .ok (.iload_n 1, 1) := by decide +kernel
theorem dX2_performer_23 : decode cX2_performer 23 = .ok (.isub, 1) := by decide +kernel
theorem dX2_performer_24 : decode cX2_performer 24 = .ok (.iaload, 1) := by decide +kernel
theorem dX2_performer_25 : decode cX2_performer 25 = .ok (.goto 4, 3) := by decide +kernel
theorem dX2_performer_28 : decode cX2_performer 28 = .ok (.iconst 0, 1) := by decide +kernel
theorem dX2_performer_29 : decode cX2_performer 29 = .ok (.ireturn, 1) := by decide +kernel
theorem dX3_init_0 : decode cX3_init 0 = .ok (.aload_n 0, 1) := by decide +kernel
theorem dX3_init_1 : decode cX3_init 1 = .ok (.invokespecial 3, 3) := by decide +kernel
theorem dX3_init_4 : decode cX3_init 4 = .ok (.aload_n 0, 1) := by decide +kernel
theorem dX3_init_5 : decode cX3_init 5 = .ok (.bipush 20, 2) := by decide +kernel
theorem dX3_init_7 : decode cX3_init 7 = .ok (.newarray .int, 2) := by decide +kernel
theorem dX3_init_9 : decode cX3_init 9 = .ok (.putfield 11, 3) := by decide +kernel
theorem dX3_init_12 : decode cX3_init 12 = .ok (.aload_n 0, 1) := by decide +kernel
theorem dX3_init_13 : decode cX3_init 13 = .ok (.bipush 20, 2) := by decide +kernel
theorem dX3_init_15 : decode cX3_init 15 = .ok (.newarray .int, 2) := by decide +kernel
theorem dX3_init_17 : decode cX3_init 17 = .ok (.putfield 15, 3) := by decide +kernel
theorem dX3_init_20 : decode cX3_init 20 = .ok (.aload_n 0, 1) := by decide +kernel
theorem dX3_init_21 : decode cX3_init 21 = .ok (.bipush 20, 2) := by decide +kernel
theorem dX3_init_23 : decode cX3_init 23 = .ok (.newarray .int, 2) := by decide +kernel
theorem dX3_init_25 : decode cX3_init 25 = .ok (.putfield 18, 3) := by decide +kernel
theorem dX3_init_28 : decode cX3_init 28 = .ok (.return_, 1) := by decide +kernel
theorem dX3_make_0 : decode cX3_make 0 = .ok (.aload_n 0, 1) := by decide +kernel
theorem dX3_make_1 : decode cX3_make 1 = .ok (.getfield 21, 3) := by decide +kernel
theorem dX3_make_4 : decode cX3_make 4 = .ok (.bipush 20, 2) := by decide +kernel
theorem dX3_make_6 : decode cX3_make 6 = .ok (.if_icmp .lt 5, 3) := by decide +kernel
theorem dX3_make_9 : decode cX3_make 9 = .ok (.iconst (-1), 1) := by decide +kernel
theorem dX3_make_10 : decode cX3_make 10 = .ok (.ireturn, 1) := by decide +kernel
theorem dX3_make_11 : decode cX3_make 11 = .ok (.aload_n 0, 1) := by decide +kernel
theorem dX3_make_12 : decode cX3_make 12 = .ok (.getfield 11, 3) := by decide +kernel
theorem dX3_make_15 : decode cX3_make 15 = .ok (.aload_n 0, 1) := by decide +kernel
theorem dX3_make_16 : decode cX3_make 16 = .ok (.getfield 21, 3) := by decide +kernel
theorem dX3_make_19 : decode cX3_make 19 = .ok (.iload_n 1, 1) := by decide +kernel
theorem dX3_make_20 : decode cX3_make 20 = .ok (.iastore, 1) := by decide +kernel
theorem dX3_make_21 : decode cX3_make 21 = .ok (.aload_n 0, 1) := by decide +kernel
theorem dX3_make_22 : decode cX3_make 22 = .ok (.getfield 15, 3) := by decide +kernel
theorem dX3_make_25 : decode cX3_make 25 = .ok (.aload_n 0, 1) := by decide +kernel
theorem dX3_make_26 : decode cX3_make 26 = .ok (.getfield 21, 3) := by decide +kernel
theorem dX3_make_29 : decode cX3_make 29 = .ok (.iload_n 2, 1) := by decide +kernel
theorem dX3_make_30 : decode cX3_make 30 = .ok (.iastore, 1) := by decide +kernel
theorem dX3_make_31 : decode cX3_make 31 = .ok (.aload_n 0, 1) := by decide +kernel
theorem dX3_make_32 : decode cX3_make 32 = .ok (.getfield 18, 3) := by decide +kernel
theorem dX3_make_35 : decode cX3_make 35 = .ok (.aload_n 0, 1) := by decide +kernel
theorem dX3_make_36 : decode cX3_make 36 = .ok (.getfield 21, 3) := by decide +kernel
theorem dX3_make_39 : decode cX3_make 39 = .ok (.iload_n 3, 1) := by decide +kernel
theorem dX3_make_40 : decode cX3_make 40 = .ok (.iastore, 1) := by decide +kernel
theorem dX3_make_41 : decode cX3_make 41 = .ok (.aload_n 0, 1) := by decide +kernel
theorem dX3_make_42 : decode cX3_make 42 = .ok (.dup, 1) := by decide +kernel
theorem dX3_make_43 : decode cX3_make 43 = .ok (.getfield 21, 3) := by decide +kernel
theorem dX3_make_46 : decode cX3_make 46 = .ok (.iconst 1, 1) := by decide +kernel
theorem dX3_make_47 : decode cX3_make 47 = .ok (.iadd, 1) := by decide +kernel
theorem dX3_make_48 : decode cX3_make 48 = .ok (.putfield 21, 3) := by decide +kernel
theorem dX3_make_51 : decode cX3_make 51 = .ok (.aload_n 0, 1) := by decide +kernel
theorem dX3_make_52 : decode cX3_make 52 = .ok (.getfield 21, 3) := by decide +kernel
theorem dX3_make_55 : decode cX3_make 55 = .ok (.ireturn, 1) := by decide +kernel
theorem dX3_leastAhead_0 : decode cX3_leastAhead 0 = .ok (.iconst 0, 1) := by decide +kernel
theorem dX3_leastAhead_1 : decode cX3_leastAhead 1 = .ok (.istore_n 3, 1) := by decide +kernel
theorem dX3_leastAhead_2 : decode cX3_leastAhead 2 = .ok (.iload_n 3, 1) := by decide +kernel
theorem dX3_leastAhead_3 : decode cX3_leastAhead 3 = .ok (.aload_n 0, 1) := by decide +kernel
theorem dX3_leastAhead_4 : decode cX3_leastAhead 4 = .ok (.getfield 21, 3) := by decide +kernel
theorem dX3_leastAhead_7 : decode cX3_leastAhead 7 = .ok (.if_icmp .ge 81, 3) := by decide +kernel
theorem dX3_leastAhead_10 : decode cX3_leastAhead 10 = .ok (.aload_n 0, 1) := by decide +kernel
theorem dX3_leastAhead_11 : decode cX3_leastAhead 11 = .ok (.getfield 11, 3) := by decide +kernel
theorem dX3_leastAhead_14 : decode cX3_leastAhead 14 = .ok (.iload_n 3, 1) := by decide +kernel
theorem dX3_leastAhead_15 : decode cX3_leastAhead 15 = .ok (.iaload, 1) := by decide +kernel
theorem dX3_leastAhead_16 : decode cX3_leastAhead 16 = .ok (.ifCond .ne 22, 3) := by decide +kernel
theorem dX3_leastAhead_19 : decode cX3_leastAhead 19 = .ok (.iload_n 1, 1) := by decide +kernel
theorem dX3_leastAhead_20 : decode cX3_leastAhead 20 = .ok (.iconst (-1), 1) := by decide +kernel
theorem dX3_leastAhead_21 : decode cX3_leastAhead 21 = .ok (.if_icmp .eq 17, 3) := by decide +kernel
theorem dX3_leastAhead_24 : decode cX3_leastAhead 24 = .ok (.aload_n 0, 1) := by decide +kernel
theorem dX3_leastAhead_25 : decode cX3_leastAhead 25 = .ok (.getfield 15, 3) := by decide +kernel
theorem dX3_leastAhead_28 : decode cX3_leastAhead 28 = .ok (.iload_n 3, 1) := by decide +kernel
theorem dX3_leastAhead_29 : decode cX3_leastAhead 29 = .ok (.iaload, 1) := by decide +kernel
theorem dX3_leastAhead_30 : decode cX3_leastAhead 30 = .ok (.iload_n 1, 1) := by decide +kernel
theorem dX3_leastAhead_31 : decode cX3_leastAhead 31 = .ok (.if_icmp .ne 7, 3) := by decide +kernel
theorem dX3_leastAhead_34 : decode cX3_leastAhead 34 = .ok (.iconst 1, 1) := by decide +kernel
theorem dX3_leastAhead_35 : decode cX3_leastAhead 35 = .ok (.goto 4, 3) := by decide +kernel
theorem dX3_leastAhead_38 : decode cX3_leastAhead 38 = .ok (.iconst 0, 1) := by decide +kernel
theorem dX3_leastAhead_39 : decode cX3_leastAhead 39 = .ok (.istore 4, 2) := by decide +kernel
theorem dX3_leastAhead_41 : decode cX3_leastAhead 41 = .ok (.aload_n 0, 1) := by decide +kernel
theorem dX3_leastAhead_42 : decode cX3_leastAhead 42 = .ok (.getfield 11, 3) := by decide +kernel
theorem dX3_leastAhead_45 : decode cX3_leastAhead 45 = .ok (.iload_n 3, 1) := by decide +kernel
theorem dX3_leastAhead_46 : decode cX3_leastAhead 46 = .ok (.iaload, 1) := by decide +kernel
theorem dX3_leastAhead_47 : decode cX3_leastAhead 47 = .ok (.iconst 1, 1) := by decide +kernel
theorem dX3_leastAhead_48 : decode cX3_leastAhead 48 = .ok (.if_icmp .ne 17, 3) := by decide +kernel
theorem dX3_leastAhead_51 : decode cX3_leastAhead 51 = .ok (.aload_n 0, 1) := by decide +kernel
theorem dX3_leastAhead_52 : decode cX3_leastAhead 52 = .ok (.getfield 15, 3) := by decide +kernel
theorem dX3_leastAhead_55 : decode cX3_leastAhead 55 = .ok (.iload_n 3, 1) := by decide +kernel
theorem dX3_leastAhead_56 : decode cX3_leastAhead 56 = .ok (.iaload, 1) := by decide +kernel
theorem dX3_leastAhead_57 : decode cX3_leastAhead 57 = .ok (.iload_n 2, 1) := by decide +kernel
theorem dX3_leastAhead_58 : decode cX3_leastAhead 58 = .ok (.if_icmp .ne 7, 3) := by decide +kernel
theorem dX3_leastAhead_61 : decode cX3_leastAhead 61 = .ok (.iconst 1, 1) := by decide +kernel
theorem dX3_leastAhead_62 : decode cX3_leastAhead 62 = .ok (.goto 4, 3) := by decide +kernel
theorem dX3_leastAhead_65 : decode cX3_leastAhead 65 = .ok (.iconst 0, 1) := by decide +kernel
theorem dX3_leastAhead_66 : decode cX3_leastAhead 66 = .ok (.istore 5, 2) := by decide +kernel
theorem dX3_leastAhead_68 : decode cX3_leastAhead 68 = .ok (.iload 4, 2) := by decide +kernel
theorem dX3_leastAhead_70 : decode cX3_leastAhead 70 = .ok (.ifCond .ne 8, 3) := by decide +kernel
theorem dX3_leastAhead_73 : decode cX3_leastAhead 73 = .ok (.iload 5, 2) := by decide +kernel
theorem dX3_leastAhead_75 : decode cX3_leastAhead 75 = .ok (.ifCond .eq 7, 3) := by decide +kernel
theorem dX3_leastAhead_78 : decode cX3_leastAhead 78 = .ok (.iload_n 3, 1) := by decide +kernel
theorem dX3_leastAhead_79 : decode cX3_leastAhead 79 = .ok (.iconst 1, 1) := by decide +kernel
theorem dX3_leastAhead_80 : decode cX3_leastAhead 80 = .ok (.iadd, 1) := by decide +kernel
theorem dX3_leastAhead_81 : decode cX3_leastAhead 81 = .ok (.ireturn, 1) := by decide +kernel
theorem dX3_leastAhead_82 : decode cX3_leastAhead 82 = .ok (.iinc 3 1, 3) := by decide +kernel
theorem dX3_leastAhead_85 : decode cX3_leastAhead 85 = .ok (.goto (-83), 3) := by decide +kernel
theorem dX3_leastAhead_88 : decode cX3_leastAhead 88 = .ok (.iconst 0, 1) := by decide +kernel
theorem dX3_leastAhead_89 : decode cX3_leastAhead 89 = .ok (.ireturn, 1) := by decide +kernel
set_option maxRecDepth 20000 in
theorem ggX3_leastBehind_X3_reaches : GoodIn wsX3_leastBehind wsX3_reaches := goodIn_r _ [8, 9, 10, 11, 12, 13, 14, 15, 16, 17, 18, 19, 20, 21, 22, 23, 24, 25, 26, 27, 28, 29, 30, 31, 32, 33, 34, 35, 36, 41, 42, 43, 44] (by decide +kernel) (by decide +kernel)
set_option maxRecDepth 20000 in
theorem gX3_leastBehind_X3_reaches : GoodIn wsX3_leastBehind (va_wsS RX3 25 yX3_reaches wsX3_reaches) := goodIn_app (goodIn_of _ (by decide +kernel)) ggX3_leastBehind_X3_reaches
theorem dX3_leastBehind_0 : decode cX3_leastBehind 0 = .ok (.iconst 0, 1) := by decide +kernel
theorem dX3_leastBehind_1 : decode cX3_leastBehind 1 = .ok (.istore_n 3, 1) := by decide +kernel
theorem dX3_leastBehind_2 : decode cX3_leastBehind 2 = .ok (.iload_n 3, 1) := by decide +kernel
theorem dX3_leastBehind_3 : decode cX3_leastBehind 3 = .ok (.aload_n 0, 1) := by decide +kernel
theorem dX3_leastBehind_4 : decode cX3_leastBehind 4 = .ok (.getfield 21, 3) := by decide +kernel
theorem dX3_leastBehind_7 : decode cX3_leastBehind 7 = .ok (.if_icmp .ge 86, 3) := by decide +kernel
theorem dX3_leastBehind_10 : decode cX3_leastBehind 10 = .ok (.aload_n 0, 1) := by decide +kernel
theorem dX3_leastBehind_11 : decode cX3_leastBehind 11 = .ok (.getfield 11, 3) := by decide +kernel
theorem dX3_leastBehind_14 : decode cX3_leastBehind 14 = .ok (.iload_n 3, 1) := by decide +kernel
theorem dX3_leastBehind_15 : decode cX3_leastBehind 15 = .ok (.iaload, 1) := by decide +kernel
theorem dX3_leastBehind_16 : decode cX3_leastBehind 16 = .ok (.iconst 2, 1) := by decide +kernel
theorem dX3_leastBehind_17 : decode cX3_leastBehind 17 = .ok (.if_icmp .ne 17, 3) := by decide +kernel
theorem dX3_leastBehind_20 : decode cX3_leastBehind 20 = .ok (.aload_n 0, 1) := by decide +kernel
theorem dX3_leastBehind_21 : decode cX3_leastBehind 21 = .ok (.getfield 15, 3) := by decide +kernel
theorem dX3_leastBehind_24 : decode cX3_leastBehind 24 = .ok (.iload_n 3, 1) := by decide +kernel
theorem dX3_leastBehind_25 : decode cX3_leastBehind 25 = .ok (.iaload, 1) := by decide +kernel
theorem dX3_leastBehind_26 : decode cX3_leastBehind 26 = .ok (.iload_n 1, 1) := by decide +kernel
theorem dX3_leastBehind_27 : decode cX3_leastBehind 27 = .ok (.if_icmp .ne 7, 3) := by decide +kernel
theorem dX3_leastBehind_30 : decode cX3_leastBehind 30 = .ok (.iconst 1, 1) := by decide +kernel
theorem dX3_leastBehind_31 : decode cX3_leastBehind 31 = .ok (.goto 4, 3) := by decide +kernel
theorem dX3_leastBehind_34 : decode cX3_leastBehind 34 = .ok (.iconst 0, 1) := by decide +kernel
theorem dX3_leastBehind_35 : decode cX3_leastBehind 35 = .ok (.istore 4, 2) := by decide +kernel
theorem dX3_leastBehind_37 : decode cX3_leastBehind 37 = .ok (.aload_n 0, 1) := by decide +kernel
theorem dX3_leastBehind_38 : decode cX3_leastBehind 38 = .ok (.getfield 11, 3) := by decide +kernel
theorem dX3_leastBehind_41 : decode cX3_leastBehind 41 = .ok (.iload_n 3, 1) := by decide +kernel
theorem dX3_leastBehind_42 : decode cX3_leastBehind 42 = .ok (.iaload, 1) := by decide +kernel
theorem dX3_leastBehind_43 : decode cX3_leastBehind 43 = .ok (.iconst 3, 1) := by decide +kernel
theorem dX3_leastBehind_44 : decode cX3_leastBehind 44 = .ok (.if_icmp .ne 26, 3) := by decide +kernel
theorem dX3_leastBehind_47 : decode cX3_leastBehind 47 = .ok (.aload_n 2, 1) := by decide +kernel
theorem dX3_leastBehind_48 : decode cX3_leastBehind 48 = .ok (.aload_n 0, 1) := by decide +kernel
theorem dX3_leastBehind_49 : decode cX3_leastBehind 49 = .ok (.getfield 15, 3) := by decide +kernel
theorem dX3_leastBehind_52 : decode cX3_leastBehind 52 = .ok (.iload_n 3, 1) := by decide +kernel
theorem dX3_leastBehind_53 : decode cX3_leastBehind 53 = .ok (.iaload, 1) := by decide +kernel
theorem dX3_leastBehind_54 : decode cX3_leastBehind 54 = .ok (.aload_n 0, 1) := by decide +kernel
theorem dX3_leastBehind_55 : decode cX3_leastBehind 55 = .ok (.getfield 18, 3) := by decide +kernel
theorem dX3_leastBehind_58 : decode cX3_leastBehind 58 = .ok (.iload_n 3, 1) := by decide +kernel
theorem dX3_leastBehind_59 : decode cX3_leastBehind 59 = .ok (.iaload, 1) := by decide +kernel
theorem dX3_leastBehind_60 : decode cX3_leastBehind 60 = .ok (.invokestatic 25, 3) := by decide +kernel
theorem dX3_leastBehind_63 : decode cX3_leastBehind 63 = .ok (.ifCond .eq 7, 3) := by decide +kernel
theorem dX3_leastBehind_66 : decode cX3_leastBehind 66 = .ok (.iconst 1, 1) := by decide +kernel
theorem dX3_leastBehind_67 : decode cX3_leastBehind 67 = .ok (.goto 4, 3) := by decide +kernel
theorem dX3_leastBehind_70 : decode cX3_leastBehind 70 = .ok (.iconst 0, 1) := by decide +kernel
theorem dX3_leastBehind_71 : decode cX3_leastBehind 71 = .ok (.istore 5, 2) := by decide +kernel
theorem dX3_leastBehind_73 : decode cX3_leastBehind 73 = .ok (.iload 4, 2) := by decide +kernel
theorem dX3_leastBehind_75 : decode cX3_leastBehind 75 = .ok (.ifCond .ne 8, 3) := by decide +kernel
theorem dX3_leastBehind_78 : decode cX3_leastBehind 78 = .ok (.iload 5, 2) := by decide +kernel
theorem dX3_leastBehind_80 : decode cX3_leastBehind 80 = .ok (.ifCond .eq 7, 3) := by decide +kernel
theorem dX3_leastBehind_83 : decode cX3_leastBehind 83 = .ok (.iload_n 3, 1) := by decide +kernel
theorem dX3_leastBehind_84 : decode cX3_leastBehind 84 = .ok (.iconst 1, 1) := by decide +kernel
theorem dX3_leastBehind_85 : decode cX3_leastBehind 85 = .ok (.iadd, 1) := by decide +kernel
theorem dX3_leastBehind_86 : decode cX3_leastBehind 86 = .ok (.ireturn, 1) := by decide +kernel
theorem dX3_leastBehind_87 : decode cX3_leastBehind 87 = .ok (.iinc 3 1, 3) := by decide +kernel
theorem dX3_leastBehind_90 : decode cX3_leastBehind 90 = .ok (.goto (-88), 3) := by decide +kernel
theorem dX3_leastBehind_93 : decode cX3_leastBehind 93 = .ok (.iconst 0, 1) := by decide +kernel
theorem dX3_leastBehind_94 : decode cX3_leastBehind 94 = .ok (.ireturn, 1) := by decide +kernel
set_option maxRecDepth 20000 in
theorem ggX3_reaches_X0_isBad : GoodIn wsX3_reaches wsX0_isBad := goodIn_r _ [4, 5, 6, 7, 8, 9, 2, 10, 11, 12, 13, 14, 29, 30, 31, 32] (by decide +kernel) (by decide +kernel)
set_option maxRecDepth 20000 in
theorem gX3_reaches_X0_isBad_n29 : GoodIn wsX3_reaches (wsX0_isBad) := ggX3_reaches_X0_isBad
set_option maxRecDepth 20000 in
theorem ggX3_reaches_X0_says : GoodIn wsX3_reaches wsX0_says := goodIn_r _ [17, 5, 18, 19, 20, 2, 21, 6, 7, 8, 9, 10, 11, 22, 23, 24, 25, 26, 27, 28, 29, 30, 31, 32] (by decide +kernel) (by decide +kernel)
set_option maxRecDepth 20000 in
theorem gX3_reaches_X0_says_n35 : GoodIn wsX3_reaches (wsX0_says) := ggX3_reaches_X0_says
theorem dX3_reaches_0 : decode cX3_reaches 0 = .ok (.aload_n 0, 1) := by decide +kernel
theorem dX3_reaches_1 : decode cX3_reaches 1 = .ok (.iload_n 1, 1) := by decide +kernel
theorem dX3_reaches_2 : decode cX3_reaches 2 = .ok (.invokevirtual 29, 3) := by decide +kernel
theorem dX3_reaches_5 : decode cX3_reaches 5 = .ok (.ifCond .ne 18, 3) := by decide +kernel
theorem dX3_reaches_8 : decode cX3_reaches 8 = .ok (.aload_n 0, 1) := by decide +kernel
theorem dX3_reaches_9 : decode cX3_reaches 9 = .ok (.iload_n 1, 1) := by decide +kernel
theorem dX3_reaches_10 : decode cX3_reaches 10 = .ok (.invokevirtual 35, 3) := by decide +kernel
theorem dX3_reaches_13 : decode cX3_reaches 13 = .ok (.iload_n 2, 1) := by decide +kernel
theorem dX3_reaches_14 : decode cX3_reaches 14 = .ok (.i2l, 1) := by decide +kernel
theorem dX3_reaches_15 : decode cX3_reaches 15 = .ok (.lcmp, 1) := by decide +kernel
theorem dX3_reaches_16 : decode cX3_reaches 16 = .ok (.ifCond .lt 7, 3) := by decide +kernel
theorem dX3_reaches_19 : decode cX3_reaches 19 = .ok (.iconst 1, 1) := by decide +kernel
theorem dX3_reaches_20 : decode cX3_reaches 20 = .ok (.goto 4, 3) := by decide +kernel
theorem dX3_reaches_23 : decode cX3_reaches 23 = .ok (.iconst 0, 1) := by decide +kernel
theorem dX3_reaches_24 : decode cX3_reaches 24 = .ok (.ireturn, 1) := by decide +kernel
theorem dX3_leastForTask_0 : decode cX3_leastForTask 0 = .ok (.iconst 0, 1) := by decide +kernel
theorem dX3_leastForTask_1 : decode cX3_leastForTask 1 = .ok (.istore_n 3, 1) := by decide +kernel
theorem dX3_leastForTask_2 : decode cX3_leastForTask 2 = .ok (.iload_n 3, 1) := by decide +kernel
theorem dX3_leastForTask_3 : decode cX3_leastForTask 3 = .ok (.aload_n 0, 1) := by decide +kernel
theorem dX3_leastForTask_4 : decode cX3_leastForTask 4 = .ok (.getfield 21, 3) := by decide +kernel
theorem dX3_leastForTask_7 : decode cX3_leastForTask 7 = .ok (.if_icmp .ge 43, 3) := by decide +kernel
theorem dX3_leastForTask_10 : decode cX3_leastForTask 10 = .ok (.aload_n 0, 1) := by decide +kernel
theorem dX3_leastForTask_11 : decode cX3_leastForTask 11 = .ok (.getfield 11, 3) := by decide +kernel
theorem dX3_leastForTask_14 : decode cX3_leastForTask 14 = .ok (.iload_n 3, 1) := by decide +kernel
theorem dX3_leastForTask_15 : decode cX3_leastForTask 15 = .ok (.iaload, 1) := by decide +kernel
theorem dX3_leastForTask_16 : decode cX3_leastForTask 16 = .ok (.iconst 4, 1) := by decide +kernel
theorem dX3_leastForTask_17 : decode cX3_leastForTask 17 = .ok (.if_icmp .ne 27, 3) := by decide +kernel
theorem dX3_leastForTask_20 : decode cX3_leastForTask 20 = .ok (.aload_n 0, 1) := by decide +kernel
theorem dX3_leastForTask_21 : decode cX3_leastForTask 21 = .ok (.getfield 15, 3) := by decide +kernel
theorem dX3_leastForTask_24 : decode cX3_leastForTask 24 = .ok (.iload_n 3, 1) := by decide +kernel
theorem dX3_leastForTask_25 : decode cX3_leastForTask 25 = .ok (.iaload, 1) := by decide +kernel
theorem dX3_leastForTask_26 : decode cX3_leastForTask 26 = .ok (.iload_n 1, 1) := by decide +kernel
theorem dX3_leastForTask_27 : decode cX3_leastForTask 27 = .ok (.if_icmp .ne 17, 3) := by decide +kernel
theorem dX3_leastForTask_30 : decode cX3_leastForTask 30 = .ok (.aload_n 0, 1) := by decide +kernel
theorem dX3_leastForTask_31 : decode cX3_leastForTask 31 = .ok (.getfield 18, 3) := by decide +kernel
theorem dX3_leastForTask_34 : decode cX3_leastForTask 34 = .ok (.iload_n 3, 1) := by decide +kernel
theorem dX3_leastForTask_35 : decode cX3_leastForTask 35 = .ok (.iaload, 1) := by decide +kernel
theorem dX3_leastForTask_36 : decode cX3_leastForTask 36 = .ok (.iload_n 2, 1) := by decide +kernel
theorem dX3_leastForTask_37 : decode cX3_leastForTask 37 = .ok (.if_icmp .ne 7, 3) := by decide +kernel
theorem dX3_leastForTask_40 : decode cX3_leastForTask 40 = .ok (.iload_n 3, 1) := by decide +kernel
theorem dX3_leastForTask_41 : decode cX3_leastForTask 41 = .ok (.iconst 1, 1) := by decide +kernel
theorem dX3_leastForTask_42 : decode cX3_leastForTask 42 = .ok (.iadd, 1) := by decide +kernel
theorem dX3_leastForTask_43 : decode cX3_leastForTask 43 = .ok (.ireturn, 1) := by decide +kernel
