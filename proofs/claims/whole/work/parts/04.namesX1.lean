theorem dX1_init_0 : decode cX1_init 0 = .ok (.aload_n 0, 1) := by decide +kernel
theorem dX1_init_1 : decode cX1_init 1 = .ok (.invokespecial 1, 3) := by decide +kernel
theorem dX1_init_4 : decode cX1_init 4 = .ok (.aload_n 0, 1) := by decide +kernel
theorem dX1_init_5 : decode cX1_init 5 = .ok (.sipush 16000, 3) := by decide +kernel
theorem dX1_init_8 : decode cX1_init 8 = .ok (.newarray .byte, 2) := by decide +kernel
theorem dX1_init_10 : decode cX1_init 10 = .ok (.putfield 9, 3) := by decide +kernel
theorem dX1_init_13 : decode cX1_init 13 = .ok (.aload_n 0, 1) := by decide +kernel
theorem dX1_init_14 : decode cX1_init 14 = .ok (.sipush 16000, 3) := by decide +kernel
theorem dX1_init_17 : decode cX1_init 17 = .ok (.newarray .byte, 2) := by decide +kernel
theorem dX1_init_19 : decode cX1_init 19 = .ok (.putfield 13, 3) := by decide +kernel
theorem dX1_init_22 : decode cX1_init 22 = .ok (.aload_n 0, 1) := by decide +kernel
theorem dX1_init_23 : decode cX1_init 23 = .ok (.sipush 16000, 3) := by decide +kernel
theorem dX1_init_26 : decode cX1_init 26 = .ok (.newarray .int, 2) := by decide +kernel
theorem dX1_init_28 : decode cX1_init 28 = .ok (.putfield 16, 3) := by decide +kernel
theorem dX1_init_31 : decode cX1_init 31 = .ok (.aload_n 0, 1) := by decide +kernel
theorem dX1_init_32 : decode cX1_init 32 = .ok (.sipush 16000, 3) := by decide +kernel
theorem dX1_init_35 : decode cX1_init 35 = .ok (.newarray .int, 2) := by decide +kernel
theorem dX1_init_37 : decode cX1_init 37 = .ok (.putfield 20, 3) := by decide +kernel
theorem dX1_init_40 : decode cX1_init 40 = .ok (.aload_n 0, 1) := by decide +kernel
theorem dX1_init_41 : decode cX1_init 41 = .ok (.sipush 16000, 3) := by decide +kernel
theorem dX1_init_44 : decode cX1_init 44 = .ok (.newarray .int, 2) := by decide +kernel
theorem dX1_init_46 : decode cX1_init 46 = .ok (.putfield 23, 3) := by decide +kernel
theorem dX1_init_49 : decode cX1_init 49 = .ok (.aload_n 0, 1) := by decide +kernel
theorem dX1_init_50 : decode cX1_init 50 = .ok (.iconst (-1), 1) := by decide +kernel
theorem dX1_init_51 : decode cX1_init 51 = .ok (.putfield 26, 3) := by decide +kernel
theorem dX1_init_54 : decode cX1_init 54 = .ok (.return_, 1) := by decide +kernel
theorem dX1_four_0 : decode cX1_four 0 = .ok (.iconst 0, 1) := by decide +kernel
theorem dX1_four_1 : decode cX1_four 1 = .ok (.istore_n 2, 1) := by decide +kernel
theorem dX1_four_2 : decode cX1_four 2 = .ok (.iload_n 2, 1) := by decide +kernel
theorem dX1_four_3 : decode cX1_four 3 = .ok (.iconst 4, 1) := by decide +kernel
theorem dX1_four_4 : decode cX1_four 4 = .ok (.if_icmp .ge 38, 3) := by decide +kernel
theorem dX1_four_7 : decode cX1_four 7 = .ok (.aload_n 0, 1) := by decide +kernel
theorem dX1_four_8 : decode cX1_four 8 = .ok (.getfield 9, 3) := by decide +kernel
theorem dX1_four_11 : decode cX1_four 11 = .ok (.aload_n 0, 1) := by decide +kernel
theorem dX1_four_12 : decode cX1_four 12 = .ok (.getfield 30, 3) := by decide +kernel
theorem dX1_four_15 : decode cX1_four 15 = .ok (.iload_n 1, 1) := by decide +kernel
theorem dX1_four_16 : decode cX1_four 16 = .ok (.bipush 24, 2) := by decide +kernel
theorem dX1_four_18 : decode cX1_four 18 = .ok (.bipush 8, 2) := by decide +kernel
theorem dX1_four_20 : decode cX1_four 20 = .ok (.iload_n 2, 1) := by decide +kernel
theorem dX1_four_21 : decode cX1_four 21 = .ok (.imul, 1) := by decide +kernel
theorem dX1_four_22 : decode cX1_four 22 = .ok (.isub, 1) := by decide +kernel
theorem dX1_four_23 : decode cX1_four 23 = .ok (.ishr, 1) := by decide +kernel
theorem dX1_four_24 : decode cX1_four 24 = .ok (.i2b, 1) := by decide +kernel
theorem dX1_four_25 : decode cX1_four 25 = .ok (.bastore, 1) := by decide +kernel
theorem dX1_four_26 : decode cX1_four 26 = .ok (.aload_n 0, 1) := by decide +kernel
theorem dX1_four_27 : decode cX1_four 27 = .ok (.dup, 1) := by decide +kernel
theorem dX1_four_28 : decode cX1_four 28 = .ok (.getfield 30, 3) := by decide +kernel
theorem dX1_four_31 : decode cX1_four 31 = .ok (.iconst 1, 1) := by decide +kernel
theorem dX1_four_32 : decode cX1_four 32 = .ok (.iadd, 1) := by decide +kernel
theorem dX1_four_33 : decode cX1_four 33 = .ok (.putfield 30, 3) := by decide +kernel
theorem dX1_four_36 : decode cX1_four 36 = .ok (.iinc 2 1, 3) := by decide +kernel
theorem dX1_four_39 : decode cX1_four 39 = .ok (.goto (-37), 3) := by decide +kernel
theorem dX1_four_42 : decode cX1_four 42 = .ok (.return_, 1) := by decide +kernel
set_option maxRecDepth 20000 in
theorem ggX1_feed_X1_four : GoodIn wsX1_feed wsX1_four := goodIn_r _ [8, 9, 1, 10, 11, 12, 13, 14, 15, 16, 17, 18, 19] (by decide +kernel) (by decide +kernel)
set_option maxRecDepth 20000 in
theorem gX1_feed_X1_four : GoodIn wsX1_feed (wsV RX1 37 RX1 yX1_four wsX1_four) := goodIn_app (goodIn_of _ (by decide +kernel)) ggX1_feed_X1_four
theorem dX1_feed_0 : decode cX1_feed 0 = .ok (.aload_n 0, 1) := by decide +kernel
theorem dX1_feed_1 : decode cX1_feed 1 = .ok (.getfield 30, 3) := by decide +kernel
theorem dX1_feed_4 : decode cX1_feed 4 = .ok (.bipush 20, 2) := by decide +kernel
theorem dX1_feed_6 : decode cX1_feed 6 = .ok (.iadd, 1) := by decide +kernel
theorem dX1_feed_7 : decode cX1_feed 7 = .ok (.sipush 16000, 3) := by decide +kernel
theorem dX1_feed_10 : decode cX1_feed 10 = .ok (.if_icmp .gt 15, 3) := by decide +kernel
theorem dX1_feed_13 : decode cX1_feed 13 = .ok (.aload_n 0, 1) := by decide +kernel
theorem dX1_feed_14 : decode cX1_feed 14 = .ok (.getfield 33, 3) := by decide +kernel
theorem dX1_feed_17 : decode cX1_feed 17 = .ok (.bipush 20, 2) := by decide +kernel
theorem dX1_feed_19 : decode cX1_feed 19 = .ok (.iadd, 1) := by decide +kernel
theorem dX1_feed_20 : decode cX1_feed 20 = .ok (.ldc 36, 2) := by decide +kernel
theorem dX1_feed_22 : decode cX1_feed 22 = .ok (.if_icmp .le 5, 3) := by decide +kernel
theorem dX1_feed_25 : decode cX1_feed 25 = .ok (.iconst (-1), 1) := by decide +kernel
theorem dX1_feed_26 : decode cX1_feed 26 = .ok (.ireturn, 1) := by decide +kernel
theorem dX1_feed_27 : decode cX1_feed 27 = .ok (.aload_n 0, 1) := by decide +kernel
theorem dX1_feed_28 : decode cX1_feed 28 = .ok (.iload_n 1, 1) := by decide +kernel
theorem dX1_feed_29 : decode cX1_feed 29 = .ok (.invokevirtual 37, 3) := by decide +kernel
theorem dX1_feed_32 : decode cX1_feed 32 = .ok (.aload_n 0, 1) := by decide +kernel
theorem dX1_feed_33 : decode cX1_feed 33 = .ok (.iload_n 2, 1) := by decide +kernel
theorem dX1_feed_34 : decode cX1_feed 34 = .ok (.invokevirtual 37, 3) := by decide +kernel
theorem dX1_feed_37 : decode cX1_feed 37 = .ok (.aload_n 0, 1) := by decide +kernel
theorem dX1_feed_38 : decode cX1_feed 38 = .ok (.iload_n 3, 1) := by decide +kernel
theorem dX1_feed_39 : decode cX1_feed 39 = .ok (.invokevirtual 37, 3) := by decide +kernel
theorem dX1_feed_42 : decode cX1_feed 42 = .ok (.aload_n 0, 1) := by decide +kernel
theorem dX1_feed_43 : decode cX1_feed 43 = .ok (.iload 4, 2) := by decide +kernel
theorem dX1_feed_45 : decode cX1_feed 45 = .ok (.invokevirtual 37, 3) := by decide +kernel
theorem dX1_feed_48 : decode cX1_feed 48 = .ok (.aload_n 0, 1) := by decide +kernel
theorem dX1_feed_49 : decode cX1_feed 49 = .ok (.iload 5, 2) := by decide +kernel
theorem dX1_feed_51 : decode cX1_feed 51 = .ok (.invokevirtual 37, 3) := by decide +kernel
theorem dX1_feed_54 : decode cX1_feed 54 = .ok (.aload_n 0, 1) := by decide +kernel
theorem dX1_feed_55 : decode cX1_feed 55 = .ok (.dup, 1) := by decide +kernel
theorem dX1_feed_56 : decode cX1_feed 56 = .ok (.getfield 33, 3) := by decide +kernel
theorem dX1_feed_59 : decode cX1_feed 59 = .ok (.bipush 20, 2) := by decide +kernel
theorem dX1_feed_61 : decode cX1_feed 61 = .ok (.iadd, 1) := by decide +kernel
theorem dX1_feed_62 : decode cX1_feed 62 = .ok (.putfield 33, 3) := by decide +kernel
theorem dX1_feed_65 : decode cX1_feed 65 = .ok (.aload_n 0, 1) := by decide +kernel
theorem dX1_feed_66 : decode cX1_feed 66 = .ok (.getfield 30, 3) := by decide +kernel
theorem dX1_feed_69 : decode cX1_feed 69 = .ok (.ireturn, 1) := by decide +kernel
theorem dX1_end_0 : decode cX1_end 0 = .ok (.iload_n 1, 1) := by decide +kernel
theorem dX1_end_1 : decode cX1_end 1 = .ok (.ifCond .lt 11, 3) := by decide +kernel
theorem dX1_end_4 : decode cX1_end 4 = .ok (.iload_n 1, 1) := by decide +kernel
theorem dX1_end_5 : decode cX1_end 5 = .ok (.aload_n 0, 1) := by decide +kernel
theorem dX1_end_6 : decode cX1_end 6 = .ok (.getfield 30, 3) := by decide +kernel
theorem dX1_end_9 : decode cX1_end 9 = .ok (.if_icmp .le 5, 3) := by decide +kernel
theorem dX1_end_12 : decode cX1_end 12 = .ok (.iconst (-1), 1) := by decide +kernel
theorem dX1_end_13 : decode cX1_end 13 = .ok (.ireturn, 1) := by decide +kernel
theorem dX1_end_14 : decode cX1_end 14 = .ok (.aload_n 0, 1) := by decide +kernel
theorem dX1_end_15 : decode cX1_end 15 = .ok (.iload_n 1, 1) := by decide +kernel
theorem dX1_end_16 : decode cX1_end 16 = .ok (.putfield 30, 3) := by decide +kernel
theorem dX1_end_19 : decode cX1_end 19 = .ok (.iload_n 1, 1) := by decide +kernel
theorem dX1_end_20 : decode cX1_end 20 = .ok (.ireturn, 1) := by decide +kernel
theorem dX1_look_0 : decode cX1_look 0 = .ok (.iload_n 1, 1) := by decide +kernel
theorem dX1_look_1 : decode cX1_look 1 = .ok (.ifCond .lt 24, 3) := by decide +kernel
theorem dX1_look_4 : decode cX1_look 4 = .ok (.iload_n 1, 1) := by decide +kernel
theorem dX1_look_5 : decode cX1_look 5 = .ok (.aload_n 0, 1) := by decide +kernel
theorem dX1_look_6 : decode cX1_look 6 = .ok (.getfield 41, 3) := by decide +kernel
theorem dX1_look_9 : decode cX1_look 9 = .ok (.if_icmp .ge 16, 3) := by decide +kernel
theorem dX1_look_12 : decode cX1_look 12 = .ok (.aload_n 0, 1) := by decide +kernel
theorem dX1_look_13 : decode cX1_look 13 = .ok (.getfield 13, 3) := by decide +kernel
theorem dX1_look_16 : decode cX1_look 16 = .ok (.iload_n 1, 1) := by decide +kernel
theorem dX1_look_17 : decode cX1_look 17 = .ok (.baload, 1) := by decide +kernel
theorem dX1_look_18 : decode cX1_look 18 = .ok (.sipush 255, 3) := by decide +kernel
theorem dX1_look_21 : decode cX1_look 21 = .ok (.iand, 1) := by decide +kernel
theorem dX1_look_22 : decode cX1_look 22 = .ok (.goto 4, 3) := by decide +kernel
theorem dX1_look_25 : decode cX1_look 25 = .ok (.iconst (-1), 1) := by decide +kernel
theorem dX1_look_26 : decode cX1_look 26 = .ok (.ireturn, 1) := by decide +kernel
theorem dX1_isDigit_0 : decode cX1_isDigit 0 = .ok (.iload_n 0, 1) := by decide +kernel
theorem dX1_isDigit_1 : decode cX1_isDigit 1 = .ok (.bipush 48, 2) := by decide +kernel
theorem dX1_isDigit_3 : decode cX1_isDigit 3 = .ok (.if_icmp .lt 13, 3) := by decide +kernel
theorem dX1_isDigit_6 : decode cX1_isDigit 6 = .ok (.iload_n 0, 1) := by decide +kernel
theorem dX1_isDigit_7 : decode cX1_isDigit 7 = .ok (.bipush 57, 2) := by decide +kernel
theorem dX1_isDigit_9 : decode cX1_isDigit 9 = .ok (.if_icmp .gt 7, 3) := by decide +kernel
theorem dX1_isDigit_12 : decode cX1_isDigit 12 = .ok (.iconst 1, 1) := by decide +kernel
theorem dX1_isDigit_13 : decode cX1_isDigit 13 = .ok (.goto 4, 3) := by decide +kernel
theorem dX1_isDigit_16 : decode cX1_isDigit 16 = .ok (.iconst 0, 1) := by decide +kernel
theorem dX1_isDigit_17 : decode cX1_isDigit 17 = .ok (.ireturn, 1) := by decide +kernel
set_option maxRecDepth 20000 in
theorem ggX1_isInName_X1_isDigit : GoodIn wsX1_isInName wsX1_isDigit := goodIn_r _ [4] (by decide +kernel) (by decide +kernel)
set_option maxRecDepth 20000 in
theorem gX1_isInName_X1_isDigit : GoodIn wsX1_isInName (va_wsS RX1 44 yX1_isDigit wsX1_isDigit) := goodIn_app (goodIn_of _ (by decide +kernel)) ggX1_isInName_X1_isDigit
theorem dX1_isInName_0 : decode cX1_isInName 0 = .ok (.iload_n 0, 1) := by decide +kernel
theorem dX1_isInName_1 : decode cX1_isInName 1 = .ok (.invokestatic 44, 3) := by decide +kernel
theorem dX1_isInName_4 : decode cX1_isInName 4 = .ok (.ifCond .ne 33, 3) := by decide +kernel
theorem dX1_isInName_7 : decode cX1_isInName 7 = .ok (.iload_n 0, 1) := by decide +kernel
theorem dX1_isInName_8 : decode cX1_isInName 8 = .ok (.bipush 95, 2) := by decide +kernel
theorem dX1_isInName_10 : decode cX1_isInName 10 = .ok (.if_icmp .eq 27, 3) := by decide +kernel
theorem dX1_isInName_13 : decode cX1_isInName 13 = .ok (.iload_n 0, 1) := by decide +kernel
theorem dX1_isInName_14 : decode cX1_isInName 14 = .ok (.bipush 97, 2) := by decide +kernel
theorem dX1_isInName_16 : decode cX1_isInName 16 = .ok (.if_icmp .lt 9, 3) := by decide +kernel
theorem dX1_isInName_19 : decode cX1_isInName 19 = .ok (.iload_n 0, 1) := by decide +kernel
theorem dX1_isInName_20 : decode cX1_isInName 20 = .ok (.bipush 122, 2) := by decide +kernel
theorem dX1_isInName_22 : decode cX1_isInName 22 = .ok (.if_icmp .le 15, 3) := by decide +kernel
theorem dX1_isInName_25 : decode cX1_isInName 25 = .ok (.iload_n 0, 1) := by decide +kernel
theorem dX1_isInName_26 : decode cX1_isInName 26 = .ok (.bipush 65, 2) := by decide +kernel
theorem dX1_isInName_28 : decode cX1_isInName 28 = .ok (.if_icmp .lt 13, 3) := by decide +kernel
theorem dX1_isInName_31 : decode cX1_isInName 31 = .ok (.iload_n 0, 1) := by decide +kernel
theorem dX1_isInName_32 : decode cX1_isInName 32 = .ok (.bipush 90, 2) := by decide +kernel
theorem dX1_isInName_34 : decode cX1_isInName 34 = .ok (.if_icmp .gt 7, 3) := by decide +kernel
theorem dX1_isInName_37 : decode cX1_isInName 37 = .ok (.iconst 1, 1) := by decide +kernel
theorem dX1_isInName_38 : decode cX1_isInName 38 = .ok (.goto 4, 3) := by decide +kernel
theorem dX1_isInName_41 : decode cX1_isInName 41 = .ok (.iconst 0, 1) := by decide +kernel
theorem dX1_isInName_42 : decode cX1_isInName 42 = .ok (.ireturn, 1) := by decide +kernel
set_option maxRecDepth 20000 in
theorem ggX1_sixteen_X1_isDigit : GoodIn wsX1_sixteen wsX1_isDigit := goodIn_r _ [4] (by decide +kernel) (by decide +kernel)
set_option maxRecDepth 20000 in
theorem gX1_sixteen_X1_isDigit : GoodIn wsX1_sixteen (va_wsS RX1 44 yX1_isDigit wsX1_isDigit) := goodIn_app (goodIn_of _ (by decide +kernel)) ggX1_sixteen_X1_isDigit
theorem dX1_sixteen_0 : decode cX1_sixteen 0 = .ok (.iload_n 0, 1) := by decide +kernel
theorem dX1_sixteen_1 : decode cX1_sixteen 1 = .ok (.invokestatic 44, 3) := by decide +kernel
theorem dX1_sixteen_4 : decode cX1_sixteen 4 = .ok (.ifCond .eq 10, 3) := by decide +kernel
theorem dX1_sixteen_7 : decode cX1_sixteen 7 = .ok (.iload_n 0, 1) := by decide +kernel
theorem dX1_sixteen_8 : decode cX1_sixteen 8 = .ok (.bipush 48, 2) := by decide +kernel
theorem dX1_sixteen_10 : decode cX1_sixteen 10 = .ok (.isub, 1) := by decide +kernel
theorem dX1_sixteen_11 : decode cX1_sixteen 11 = .ok (.goto 42, 3) := by decide +kernel
theorem dX1_sixteen_14 : decode cX1_sixteen 14 = .ok (.iload_n 0, 1) := by decide +kernel
theorem dX1_sixteen_15 : decode cX1_sixteen 15 = .ok (.bipush 97, 2) := by decide +kernel
theorem dX1_sixteen_17 : decode cX1_sixteen 17 = .ok (.if_icmp .lt 16, 3) := by decide +kernel
theorem dX1_sixteen_20 : decode cX1_sixteen 20 = .ok (.iload_n 0, 1) := by decide +kernel
theorem dX1_sixteen_21 : decode cX1_sixteen 21 = .ok (.bipush 102, 2) := by decide +kernel
theorem dX1_sixteen_23 : decode cX1_sixteen 23 = .ok (.if_icmp .gt 10, 3) := by decide +kernel
theorem dX1_sixteen_26 : decode cX1_sixteen 26 = .ok (.iload_n 0, 1) := by decide +kernel
theorem dX1_sixteen_27 : decode cX1_sixteen 27 = .ok (.bipush 87, 2) := by decide +kernel
theorem dX1_sixteen_29 : decode cX1_sixteen 29 = .ok (.isub, 1) := by decide +kernel
theorem dX1_sixteen_30 : decode cX1_sixteen 30 = .ok (.goto 23, 3) := by decide +kernel
theorem dX1_sixteen_33 : decode cX1_sixteen 33 = .ok (.iload_n 0, 1) := by decide +kernel
theorem dX1_sixteen_34 : decode cX1_sixteen 34 = .ok (.bipush 65, 2) := by decide +kernel
theorem dX1_sixteen_36 : decode cX1_sixteen 36 = .ok (.if_icmp .lt 16, 3) := by decide +kernel
theorem dX1_sixteen_39 : decode cX1_sixteen 39 = .ok (.iload_n 0, 1) := by decide +kernel
theorem dX1_sixteen_40 : decode cX1_sixteen 40 = .ok (.bipush 70, 2) := by decide +kernel
theorem dX1_sixteen_42 : decode cX1_sixteen 42 = .ok (.if_icmp .gt 10, 3) := by decide +kernel
theorem dX1_sixteen_45 : decode cX1_sixteen 45 = .ok (.iload_n 0, 1) := by decide +kernel
theorem dX1_sixteen_46 : decode cX1_sixteen 46 = .ok (.bipush 55, 2) := by decide +kernel
theorem dX1_sixteen_48 : decode cX1_sixteen 48 = .ok (.isub, 1) := by decide +kernel
theorem dX1_sixteen_49 : decode cX1_sixteen 49 = .ok (.goto 4, 3) := by decide +kernel
theorem dX1_sixteen_52 : decode cX1_sixteen 52 = .ok (.iconst (-1), 1) := by decide +kernel
theorem dX1_sixteen_53 : decode cX1_sixteen 53 = .ok (.ireturn, 1) := by decide +kernel
theorem dX1_isBlank_0 : decode cX1_isBlank 0 = .ok (.iload_n 0, 1) := by decide +kernel
theorem dX1_isBlank_1 : decode cX1_isBlank 1 = .ok (.bipush 9, 2) := by decide +kernel
theorem dX1_isBlank_3 : decode cX1_isBlank 3 = .ok (.if_icmp .eq 21, 3) := by decide +kernel
theorem dX1_isBlank_6 : decode cX1_isBlank 6 = .ok (.iload_n 0, 1) := by decide +kernel
theorem dX1_isBlank_7 : decode cX1_isBlank 7 = .ok (.bipush 10, 2) := by decide +kernel
theorem dX1_isBlank_9 : decode cX1_isBlank 9 = .ok (.if_icmp .eq 15, 3) := by decide +kernel
theorem dX1_isBlank_12 : decode cX1_isBlank 12 = .ok (.iload_n 0, 1) := by decide +kernel
theorem dX1_isBlank_13 : decode cX1_isBlank 13 = .ok (.bipush 13, 2) := by decide +kernel
theorem dX1_isBlank_15 : decode cX1_isBlank 15 = .ok (.if_icmp .eq 9, 3) := by decide +kernel
theorem dX1_isBlank_18 : decode cX1_isBlank 18 = .ok (.iload_n 0, 1) := by decide +kernel
theorem dX1_isBlank_19 : decode cX1_isBlank 19 = .ok (.bipush 32, 2) := by decide +kernel
theorem dX1_isBlank_21 : decode cX1_isBlank 21 = .ok (.if_icmp .ne 7, 3) := by decide +kernel
theorem dX1_isBlank_24 : decode cX1_isBlank 24 = .ok (.iconst 1, 1) := by decide +kernel
theorem dX1_isBlank_25 : decode cX1_isBlank 25 = .ok (.goto 4, 3) := by decide +kernel
theorem dX1_isBlank_28 : decode cX1_isBlank 28 = .ok (.iconst 0, 1) := by decide +kernel
theorem dX1_isBlank_29 : decode cX1_isBlank 29 = .ok (.ireturn, 1) := by decide +kernel
set_option maxRecDepth 20000 in
theorem ggX1_isAllowed_X1_isBlank : GoodIn wsX1_isAllowed wsX1_isBlank := goodIn_r _ [4] (by decide +kernel) (by decide +kernel)
set_option maxRecDepth 20000 in
theorem gX1_isAllowed_X1_isBlank : GoodIn wsX1_isAllowed (va_wsS RX1 48 yX1_isBlank wsX1_isBlank) := goodIn_app (goodIn_of _ (by decide +kernel)) ggX1_isAllowed_X1_isBlank
theorem dX1_isAllowed_0 : decode cX1_isAllowed 0 = .ok (.iload_n 0, 1) := by decide +kernel
theorem dX1_isAllowed_1 : decode cX1_isAllowed 1 = .ok (.invokestatic 48, 3) := by decide +kernel
theorem dX1_isAllowed_4 : decode cX1_isAllowed 4 = .ok (.ifCond .ne 15, 3) := by decide +kernel
theorem dX1_isAllowed_7 : decode cX1_isAllowed 7 = .ok (.iload_n 0, 1) := by decide +kernel
theorem dX1_isAllowed_8 : decode cX1_isAllowed 8 = .ok (.bipush 32, 2) := by decide +kernel
theorem dX1_isAllowed_10 : decode cX1_isAllowed 10 = .ok (.if_icmp .lt 13, 3) := by decide +kernel
theorem dX1_isAllowed_13 : decode cX1_isAllowed 13 = .ok (.iload_n 0, 1) := by decide +kernel
theorem dX1_isAllowed_14 : decode cX1_isAllowed 14 = .ok (.bipush 126, 2) := by decide +kernel
theorem dX1_isAllowed_16 : decode cX1_isAllowed 16 = .ok (.if_icmp .gt 7, 3) := by decide +kernel
theorem dX1_isAllowed_19 : decode cX1_isAllowed 19 = .ok (.iconst 1, 1) := by decide +kernel
theorem dX1_isAllowed_20 : decode cX1_isAllowed 20 = .ok (.goto 4, 3) := by decide +kernel
theorem dX1_isAllowed_23 : decode cX1_isAllowed 23 = .ok (.iconst 0, 1) := by decide +kernel
theorem dX1_isAllowed_24 : decode cX1_isAllowed 24 = .ok (.ireturn, 1) := by decide +kernel
set_option maxRecDepth 20000 in
theorem ggX1_blanks_X1_look : GoodIn wsX1_blanks wsX1_look := goodIn_r _ [6, 7, 8, 15, 16, 17, 18, 19, 20, 21, 22, 23, 24] (by decide +kernel) (by decide +kernel)
set_option maxRecDepth 20000 in
theorem gX1_blanks_X1_look : GoodIn wsX1_blanks (wsV RX1 51 RX1 yX1_look wsX1_look) := goodIn_app (goodIn_of _ (by decide +kernel)) ggX1_blanks_X1_look
set_option maxRecDepth 20000 in
theorem ggX1_blanks_X1_isBlank : GoodIn wsX1_blanks wsX1_isBlank := goodIn_r _ [11] (by decide +kernel) (by decide +kernel)
set_option maxRecDepth 20000 in
theorem gX1_blanks_X1_isBlank : GoodIn wsX1_blanks (va_wsS RX1 48 yX1_isBlank wsX1_isBlank) := goodIn_app (goodIn_of _ (by decide +kernel)) ggX1_blanks_X1_isBlank
set_option maxRecDepth 20000 in
theorem ggX1_blanks_X1_isAllowed : GoodIn wsX1_blanks wsX1_isAllowed := goodIn_r _ [14, 9, 10, 5, 11] (by decide +kernel) (by decide +kernel)
set_option maxRecDepth 20000 in
theorem gX1_blanks_X1_isAllowed : GoodIn wsX1_blanks (va_wsS RX1 55 yX1_isAllowed wsX1_isAllowed) := goodIn_app (goodIn_of _ (by decide +kernel)) ggX1_blanks_X1_isAllowed
theorem dX1_blanks_0 : decode cX1_blanks 0 = .ok (.iload_n 1, 1) := by decide +kernel
theorem dX1_blanks_1 : decode cX1_blanks 1 = .ok (.istore_n 2, 1) := by decide +kernel
theorem dX1_blanks_2 : decode cX1_blanks 2 = .ok (.iconst 1, 1) := by decide +kernel
theorem dX1_blanks_3 : decode cX1_blanks 3 = .ok (.istore_n 3, 1) := by decide +kernel
theorem dX1_blanks_4 : decode cX1_blanks 4 = .ok (.iload_n 3, 1) := by decide +kernel
theorem dX1_blanks_5 : decode cX1_blanks 5 = .ok (.ifCond .eq 251, 3) := by decide +kernel
theorem dX1_blanks_8 : decode cX1_blanks 8 = .ok (.aload_n 0, 1) := by decide +kernel
theorem dX1_blanks_9 : decode cX1_blanks 9 = .ok (.iload_n 2, 1) := by decide +kernel
theorem dX1_blanks_10 : decode cX1_blanks 10 = .ok (.invokevirtual 51, 3) := by decide +kernel
theorem dX1_blanks_13 : decode cX1_blanks 13 = .ok (.invokestatic 48, 3) := by decide +kernel
theorem dX1_blanks_16 : decode cX1_blanks 16 = .ok (.ifCond .eq 9, 3) := by decide +kernel
theorem dX1_blanks_19 : decode cX1_blanks 19 = .ok (.iinc 2 1, 3) := by decide +kernel
theorem dX1_blanks_22 : decode cX1_blanks 22 = .ok (.goto (-14), 3) := by decide +kernel
theorem dX1_blanks_25 : decode cX1_blanks 25 = .ok (.aload_n 0, 1) := by decide +kernel
theorem dX1_blanks_26 : decode cX1_blanks 26 = .ok (.iload_n 2, 1) := by decide +kernel
theorem dX1_blanks_27 : decode cX1_blanks 27 = .ok (.invokevirtual 51, 3) := by decide +kernel
theorem dX1_blanks_30 : decode cX1_blanks 30 = .ok (.bipush 47, 2) := by decide +kernel
theorem dX1_blanks_32 : decode cX1_blanks 32 = .ok (.if_icmp .ne 19, 3) := by decide +kernel
theorem dX1_blanks_35 : decode cX1_blanks 35 = .ok (.aload_n 0, 1) := by decide +kernel
theorem dX1_blanks_36 : decode cX1_blanks 36 = .ok (.iload_n 2, 1) := by decide +kernel
theorem dX1_blanks_37 : decode cX1_blanks 37 = .ok (.iconst 1, 1) := by decide +kernel
theorem dX1_blanks_38 : decode cX1_blanks 38 = .ok (.iadd, 1) := by decide +kernel
theorem dX1_blanks_39 : decode cX1_blanks 39 = .ok (.invokevirtual 51, 3) := by decide +kernel
theorem dX1_blanks_42 : decode cX1_blanks 42 = .ok (.bipush 47, 2) := by decide +kernel
theorem dX1_blanks_44 : decode cX1_blanks 44 = .ok (.if_icmp .ne 7, 3) := by decide +kernel
theorem dX1_blanks_47 : decode cX1_blanks 47 = .ok (.iconst 1, 1) := by decide +kernel
theorem dX1_blanks_48 : decode cX1_blanks 48 = .ok (.goto 4, 3) := by decide +kernel
theorem dX1_blanks_51 : decode cX1_blanks 51 = .ok (.iconst 0, 1) := by decide +kernel
theorem dX1_blanks_52 : decode cX1_blanks 52 = .ok (.istore 4, 2) := by decide +kernel
theorem dX1_blanks_54 : decode cX1_blanks 54 = .ok (.aload_n 0, 1) := by decide +kernel
theorem dX1_blanks_55 : decode cX1_blanks 55 = .ok (.iload_n 2, 1) := by decide +kernel
theorem dX1_blanks_56 : decode cX1_blanks 56 = .ok (.invokevirtual 51, 3) := by decide +kernel
theorem dX1_blanks_59 : decode cX1_blanks 59 = .ok (.bipush 47, 2) := by decide +kernel
theorem dX1_blanks_61 : decode cX1_blanks 61 = .ok (.if_icmp .ne 19, 3) := by decide +kernel
theorem dX1_blanks_64 : decode cX1_blanks 64 = .ok (.aload_n 0, 1) := by decide +kernel
theorem dX1_blanks_65 : decode cX1_blanks 65 = .ok (.iload_n 2, 1) := by decide +kernel
theorem dX1_blanks_66 : decode cX1_blanks 66 = .ok (.iconst 1, 1) := by decide +kernel
theorem dX1_blanks_67 : decode cX1_blanks 67 = .ok (.iadd, 1) := by decide +kernel
theorem dX1_blanks_68 : decode cX1_blanks 68 = .ok (.invokevirtual 51, 3) := by decide +kernel
theorem dX1_blanks_71 : decode cX1_blanks 71 = .ok (.bipush 42, 2) := by decide +kernel
theorem dX1_blanks_73 : decode cX1_blanks 73 = .ok (.if_icmp .ne 7, 3) := by decide +kernel
theorem dX1_blanks_76 : decode cX1_blanks 76 = .ok (.iconst 1, 1) := by decide +kernel
theorem dX1_blanks_77 : decode cX1_blanks 77 = .ok (.goto 4, 3) := by decide +kernel
theorem dX1_blanks_80 : decode cX1_blanks 80 = .ok (.iconst 0, 1) := by decide +kernel
theorem dX1_blanks_81 : decode cX1_blanks 81 = .ok (.istore 5, 2) := by decide +kernel
theorem dX1_blanks_83 : decode cX1_blanks 83 = .ok (.iload 4, 2) := by decide +kernel
theorem dX1_blanks_85 : decode cX1_blanks 85 = .ok (.ifCond .ne 8, 3) := by decide +kernel
theorem dX1_blanks_88 : decode cX1_blanks 88 = .ok (.iload 5, 2) := by decide +kernel
theorem dX1_blanks_90 : decode cX1_blanks 90 = .ok (.ifCond .eq 7, 3) := by decide +kernel
theorem dX1_blanks_93 : decode cX1_blanks 93 = .ok (.iconst 1, 1) := by decide +kernel
theorem dX1_blanks_94 : decode cX1_blanks 94 = .ok (.goto 4, 3) := by decide +kernel
theorem dX1_blanks_97 : decode cX1_blanks 97 = .ok (.iconst 0, 1) := by decide +kernel
theorem dX1_blanks_98 : decode cX1_blanks 98 = .ok (.istore_n 3, 1) := by decide +kernel
theorem dX1_blanks_99 : decode cX1_blanks 99 = .ok (.iload_n 3, 1) := by decide +kernel
theorem dX1_blanks_100 : decode cX1_blanks 100 = .ok (.ifCond .ne 5, 3) := by decide +kernel
theorem dX1_blanks_103 : decode cX1_blanks 103 = .ok (.iload_n 2, 1) := by decide +kernel
theorem dX1_blanks_104 : decode cX1_blanks 104 = .ok (.ireturn, 1) := by decide +kernel
theorem dX1_blanks_105 : decode cX1_blanks 105 = .ok (.iload_n 2, 1) := by decide +kernel
theorem dX1_blanks_106 : decode cX1_blanks 106 = .ok (.iconst 2, 1) := by decide +kernel
theorem dX1_blanks_107 : decode cX1_blanks 107 = .ok (.iadd, 1) := by decide +kernel
theorem dX1_blanks_108 : decode cX1_blanks 108 = .ok (.istore 6, 2) := by decide +kernel
theorem dX1_blanks_110 : decode cX1_blanks 110 = .ok (.aload_n 0, 1) := by decide +kernel
theorem dX1_blanks_111 : decode cX1_blanks 111 = .ok (.iload 6, 2) := by decide +kernel
theorem dX1_blanks_113 : decode cX1_blanks 113 = .ok (.invokevirtual 51, 3) := by decide +kernel
theorem dX1_blanks_116 : decode cX1_blanks 116 = .ok (.ifCond .lt 64, 3) := by decide +kernel
theorem dX1_blanks_119 : decode cX1_blanks 119 = .ok (.aload_n 0, 1) := by decide +kernel
theorem dX1_blanks_120 : decode cX1_blanks 120 = .ok (.iload 6, 2) := by decide +kernel
theorem dX1_blanks_122 : decode cX1_blanks 122 = .ok (.invokevirtual 51, 3) := by decide +kernel
theorem dX1_blanks_125 : decode cX1_blanks 125 = .ok (.invokestatic 55, 3) := by decide +kernel
theorem dX1_blanks_128 : decode cX1_blanks 128 = .ok (.ifCond .eq 52, 3) := by decide +kernel
theorem dX1_blanks_131 : decode cX1_blanks 131 = .ok (.iload 4, 2) := by decide +kernel
theorem dX1_blanks_133 : decode cX1_blanks 133 = .ok (.ifCond .eq 17, 3) := by decide +kernel
theorem dX1_blanks_136 : decode cX1_blanks 136 = .ok (.aload_n 0, 1) := by decide +kernel
theorem dX1_blanks_137 : decode cX1_blanks 137 = .ok (.iload 6, 2) := by decide +kernel
theorem dX1_blanks_139 : decode cX1_blanks 139 = .ok (.invokevirtual 51, 3) := by decide +kernel
theorem dX1_blanks_142 : decode cX1_blanks 142 = .ok (.bipush 10, 2) := by decide +kernel
theorem dX1_blanks_144 : decode cX1_blanks 144 = .ok (.if_icmp .ne 30, 3) := by decide +kernel
theorem dX1_blanks_147 : decode cX1_blanks 147 = .ok (.goto 33, 3) := by decide +kernel
theorem dX1_blanks_150 : decode cX1_blanks 150 = .ok (.aload_n 0, 1) := by decide +kernel
theorem dX1_blanks_151 : decode cX1_blanks 151 = .ok (.iload 6, 2) := by decide +kernel
theorem dX1_blanks_153 : decode cX1_blanks 153 = .ok (.invokevirtual 51, 3) := by decide +kernel
theorem dX1_blanks_156 : decode cX1_blanks 156 = .ok (.bipush 42, 2) := by decide +kernel
theorem dX1_blanks_158 : decode cX1_blanks 158 = .ok (.if_icmp .ne 16, 3) := by decide +kernel
theorem dX1_blanks_161 : decode cX1_blanks 161 = .ok (.aload_n 0, 1) := by decide +kernel
theorem dX1_blanks_162 : decode cX1_blanks 162 = .ok (.iload 6, 2) := by decide +kernel
theorem dX1_blanks_164 : decode cX1_blanks 164 = .ok (.iconst 1, 1) := by decide +kernel
theorem dX1_blanks_165 : decode cX1_blanks 165 = .ok (.iadd, 1) := by decide +kernel
theorem dX1_blanks_166 : decode cX1_blanks 166 = .ok (.invokevirtual 51, 3) := by decide +kernel
theorem dX1_blanks_169 : decode cX1_blanks 169 = .ok (.bipush 47, 2) := by decide +kernel
theorem dX1_blanks_171 : decode cX1_blanks 171 = .ok (.if_icmp .eq 9, 3) := by decide +kernel
theorem dX1_blanks_174 : decode cX1_blanks 174 = .ok (.iinc 6 1, 3) := by decide +kernel
theorem dX1_blanks_177 : decode cX1_blanks 177 = .ok (.goto (-67), 3) := by decide +kernel
theorem dX1_blanks_180 : decode cX1_blanks 180 = .ok (.aload_n 0, 1) := by decide +kernel
theorem dX1_blanks_181 : decode cX1_blanks 181 = .ok (.iload 6, 2) := by decide +kernel
theorem dX1_blanks_183 : decode cX1_blanks 183 = .ok (.invokevirtual 51, 3) := by decide +kernel
theorem dX1_blanks_186 : decode cX1_blanks 186 = .ok (.ifCond .lt 24, 3) := by decide +kernel
theorem dX1_blanks_189 : decode cX1_blanks 189 = .ok (.aload_n 0, 1) := by decide +kernel
theorem dX1_blanks_190 : decode cX1_blanks 190 = .ok (.iload 6, 2) := by decide +kernel
theorem dX1_blanks_192 : decode cX1_blanks 192 = .ok (.invokevirtual 51, 3) := by decide +kernel
theorem dX1_blanks_195 : decode cX1_blanks 195 = .ok (.invokestatic 55, 3) := by decide +kernel
theorem dX1_blanks_198 : decode cX1_blanks 198 = .ok (.ifCond .ne 12, 3) := by decide +kernel
theorem dX1_blanks_201 : decode cX1_blanks 201 = .ok (.aload_n 0, 1) := by decide +kernel
theorem dX1_blanks_202 : decode cX1_blanks 202 = .ok (.iload 6, 2) := by decide +kernel
theorem dX1_blanks_204 : decode cX1_blanks 204 = .ok (.putfield 26, 3) := by decide +kernel
theorem dX1_blanks_207 : decode cX1_blanks 207 = .ok (.goto 22, 3) := by decide +kernel
theorem dX1_blanks_210 : decode cX1_blanks 210 = .ok (.iload 5, 2) := by decide +kernel
theorem dX1_blanks_212 : decode cX1_blanks 212 = .ok (.ifCond .eq 17, 3) := by decide +kernel
theorem dX1_blanks_215 : decode cX1_blanks 215 = .ok (.aload_n 0, 1) := by decide +kernel
theorem dX1_blanks_216 : decode cX1_blanks 216 = .ok (.iload 6, 2) := by decide +kernel
theorem dX1_blanks_218 : decode cX1_blanks 218 = .ok (.invokevirtual 51, 3) := by decide +kernel
theorem dX1_blanks_221 : decode cX1_blanks 221 = .ok (.ifCond .ge 8, 3) := by decide +kernel
theorem dX1_blanks_224 : decode cX1_blanks 224 = .ok (.aload_n 0, 1) := by decide +kernel
theorem dX1_blanks_225 : decode cX1_blanks 225 = .ok (.iload_n 2, 1) := by decide +kernel
theorem dX1_blanks_226 : decode cX1_blanks 226 = .ok (.putfield 26, 3) := by decide +kernel
theorem dX1_blanks_229 : decode cX1_blanks 229 = .ok (.aload_n 0, 1) := by decide +kernel
theorem dX1_blanks_230 : decode cX1_blanks 230 = .ok (.getfield 26, 3) := by decide +kernel
theorem dX1_blanks_233 : decode cX1_blanks 233 = .ok (.ifCond .lt 5, 3) := by decide +kernel
theorem dX1_blanks_236 : decode cX1_blanks 236 = .ok (.iload_n 2, 1) := by decide +kernel
theorem dX1_blanks_237 : decode cX1_blanks 237 = .ok (.ireturn, 1) := by decide +kernel
theorem dX1_blanks_238 : decode cX1_blanks 238 = .ok (.iload 4, 2) := by decide +kernel
theorem dX1_blanks_240 : decode cX1_blanks 240 = .ok (.ifCond .eq 8, 3) := by decide +kernel
theorem dX1_blanks_243 : decode cX1_blanks 243 = .ok (.iload 6, 2) := by decide +kernel
theorem dX1_blanks_245 : decode cX1_blanks 245 = .ok (.goto 7, 3) := by decide +kernel
theorem dX1_blanks_248 : decode cX1_blanks 248 = .ok (.iload 6, 2) := by decide +kernel
theorem dX1_blanks_250 : decode cX1_blanks 250 = .ok (.iconst 2, 1) := by decide +kernel
theorem dX1_blanks_251 : decode cX1_blanks 251 = .ok (.iadd, 1) := by decide +kernel
theorem dX1_blanks_252 : decode cX1_blanks 252 = .ok (.istore_n 2, 1) := by decide +kernel
theorem dX1_blanks_253 : decode cX1_blanks 253 = .ok (.goto (-249), 3) := by decide +kernel
theorem dX1_blanks_256 : decode cX1_blanks 256 = .ok (.iload_n 2, 1) := by decide +kernel
theorem dX1_blanks_257 : decode cX1_blanks 257 = .ok (.ireturn, 1) := by decide +kernel
set_option maxRecDepth 20000 in
theorem ggX1_cut_X1_blanks : GoodIn wsX1_cut wsX1_blanks := goodIn_r _ [14, 6, 15, 16, 17, 13, 18, 2, 3, 19, 20, 21, 22, 23, 24, 114, 115, 116, 117, 118, 119, 120, 121, 122, 123] (by decide +kernel) (by decide +kernel)
set_option maxRecDepth 20000 in
theorem gX1_cut_X1_blanks : GoodIn wsX1_cut (wsV RX1 61 RX1 yX1_blanks wsX1_blanks) := goodIn_app (goodIn_of _ (by decide +kernel)) ggX1_cut_X1_blanks
set_option maxRecDepth 20000 in
theorem ggX1_cut_X1_kindAt : GoodIn wsX1_cut wsX1_kindAt := goodIn_r _ [28, 15, 16, 17, 13, 18, 2, 3, 29, 30, 31, 32, 33, 34, 35, 36, 37, 38, 39, 40, 41, 42, 43, 44, 45, 46, 47, 48, 49, 50, 51, 52, 53, 54, 55, 56, 57, 58, 59, 60, 61, 62, 63, 64, 65, 66, 67, 68, 69, 70, 71, 72, 73, 74, 75, 76, 77, 78, 79, 80, 81, 82, 83, 84, 85, 86, 87, 88, 89, 90, 91, 114, 115, 116, 117, 118, 119, 120, 121, 122, 123] (by decide +kernel) (by decide +kernel)
set_option maxRecDepth 20000 in
theorem gX1_cut_X1_kindAt : GoodIn wsX1_cut (wsV RX1 64 RX1 yX1_kindAt wsX1_kindAt) := goodIn_app (goodIn_of _ (by decide +kernel)) ggX1_cut_X1_kindAt
set_option maxRecDepth 20000 in
theorem ggX1_cut_X1_endOf : GoodIn wsX1_cut wsX1_endOf := goodIn_r _ [95, 35, 36, 37, 13, 38, 39, 40, 41, 42, 43, 44, 45, 46, 47, 48, 49, 50, 51, 52, 53, 54, 55, 56, 57, 58, 59, 60, 61, 62, 63, 64, 65, 66, 67, 68, 69, 70, 71, 72, 73, 74, 75, 76, 77, 78, 79, 80, 81, 82, 83, 84, 85, 86, 87, 88, 89, 90, 91, 15, 16, 17, 18, 2, 3, 96, 97, 98, 99, 100, 101, 102, 103, 32, 33, 34, 29, 30, 31, 104, 105, 106, 107, 108, 109, 110, 111, 112, 113, 114, 115, 116, 117, 118, 119, 120, 121, 122, 123] (by decide +kernel) (by decide +kernel)
set_option maxRecDepth 20000 in
theorem gX1_cut_X1_endOf : GoodIn wsX1_cut (wsV RX1 67 RX1 yX1_endOf wsX1_endOf) := goodIn_app (goodIn_of _ (by decide +kernel)) ggX1_cut_X1_endOf
theorem dX1_cut_0 : decode cX1_cut 0 = .ok (.aload_n 0, 1) := by decide +kernel
theorem dX1_cut_1 : decode cX1_cut 1 = .ok (.aload_n 0, 1) := by decide +kernel
theorem dX1_cut_2 : decode cX1_cut 2 = .ok (.getfield 30, 3) := by decide +kernel
theorem dX1_cut_5 : decode cX1_cut 5 = .ok (.putfield 41, 3) := by decide +kernel
theorem dX1_cut_8 : decode cX1_cut 8 = .ok (.aload_n 0, 1) := by decide +kernel
theorem dX1_cut_9 : decode cX1_cut 9 = .ok (.iconst 0, 1) := by decide +kernel
theorem dX1_cut_10 : decode cX1_cut 10 = .ok (.putfield 30, 3) := by decide +kernel
theorem dX1_cut_13 : decode cX1_cut 13 = .ok (.iconst 0, 1) := by decide +kernel
theorem dX1_cut_14 : decode cX1_cut 14 = .ok (.istore_n 1, 1) := by decide +kernel
theorem dX1_cut_15 : decode cX1_cut 15 = .ok (.iload_n 1, 1) := by decide +kernel
theorem dX1_cut_16 : decode cX1_cut 16 = .ok (.aload_n 0, 1) := by decide +kernel
theorem dX1_cut_17 : decode cX1_cut 17 = .ok (.getfield 41, 3) := by decide +kernel
theorem dX1_cut_20 : decode cX1_cut 20 = .ok (.if_icmp .ge 21, 3) := by decide +kernel
theorem dX1_cut_23 : decode cX1_cut 23 = .ok (.aload_n 0, 1) := by decide +kernel
theorem dX1_cut_24 : decode cX1_cut 24 = .ok (.getfield 13, 3) := by decide +kernel
theorem dX1_cut_27 : decode cX1_cut 27 = .ok (.iload_n 1, 1) := by decide +kernel
theorem dX1_cut_28 : decode cX1_cut 28 = .ok (.aload_n 0, 1) := by decide +kernel
theorem dX1_cut_29 : decode cX1_cut 29 = .ok (.getfield 9, 3) := by decide +kernel
theorem dX1_cut_32 : decode cX1_cut 32 = .ok (.iload_n 1, 1) := by decide +kernel
theorem dX1_cut_33 : decode cX1_cut 33 = .ok (.baload, 1) := by decide +kernel
theorem dX1_cut_34 : decode cX1_cut 34 = .ok (.bastore, 1) := by decide +kernel
theorem dX1_cut_35 : decode cX1_cut 35 = .ok (.iinc 1 1, 3) := by decide +kernel
theorem dX1_cut_38 : decode cX1_cut 38 = .ok (.goto (-23), 3) := by decide +kernel
theorem dX1_cut_41 : decode cX1_cut 41 = .ok (.aload_n 0, 1) := by decide +kernel
theorem dX1_cut_42 : decode cX1_cut 42 = .ok (.iconst 0, 1) := by decide +kernel
theorem dX1_cut_43 : decode cX1_cut 43 = .ok (.putfield 58, 3) := by decide +kernel
theorem dX1_cut_46 : decode cX1_cut 46 = .ok (.aload_n 0, 1) := by decide +kernel
theorem dX1_cut_47 : decode cX1_cut 47 = .ok (.iconst (-1), 1) := by decide +kernel
theorem dX1_cut_48 : decode cX1_cut 48 = .ok (.putfield 26, 3) := by decide +kernel
theorem dX1_cut_51 : decode cX1_cut 51 = .ok (.aload_n 0, 1) := by decide +kernel
theorem dX1_cut_52 : decode cX1_cut 52 = .ok (.iconst 0, 1) := by decide +kernel
theorem dX1_cut_53 : decode cX1_cut 53 = .ok (.invokevirtual 61, 3) := by decide +kernel
theorem dX1_cut_56 : decode cX1_cut 56 = .ok (.istore_n 1, 1) := by decide +kernel
theorem dX1_cut_57 : decode cX1_cut 57 = .ok (.aload_n 0, 1) := by decide +kernel
theorem dX1_cut_58 : decode cX1_cut 58 = .ok (.getfield 26, 3) := by decide +kernel
theorem dX1_cut_61 : decode cX1_cut 61 = .ok (.ifCond .ge 93, 3) := by decide +kernel
theorem dX1_cut_64 : decode cX1_cut 64 = .ok (.iload_n 1, 1) := by decide +kernel
theorem dX1_cut_65 : decode cX1_cut 65 = .ok (.aload_n 0, 1) := by decide +kernel
theorem dX1_cut_66 : decode cX1_cut 66 = .ok (.getfield 41, 3) := by decide +kernel
theorem dX1_cut_69 : decode cX1_cut 69 = .ok (.if_icmp .ge 85, 3) := by decide +kernel
theorem dX1_cut_72 : decode cX1_cut 72 = .ok (.aload_n 0, 1) := by decide +kernel
theorem dX1_cut_73 : decode cX1_cut 73 = .ok (.iload_n 1, 1) := by decide +kernel
theorem dX1_cut_74 : decode cX1_cut 74 = .ok (.invokevirtual 64, 3) := by decide +kernel
theorem dX1_cut_77 : decode cX1_cut 77 = .ok (.istore_n 2, 1) := by decide +kernel
theorem dX1_cut_78 : decode cX1_cut 78 = .ok (.iload_n 2, 1) := by decide +kernel
theorem dX1_cut_79 : decode cX1_cut 79 = .ok (.ifCond .ne 7, 3) := by decide +kernel
theorem dX1_cut_82 : decode cX1_cut 82 = .ok (.iconst (-1), 1) := by decide +kernel
theorem dX1_cut_83 : decode cX1_cut 83 = .ok (.goto 9, 3) := by decide +kernel
theorem dX1_cut_86 : decode cX1_cut 86 = .ok (.aload_n 0, 1) := by decide +kernel
theorem dX1_cut_87 : decode cX1_cut 87 = .ok (.iload_n 2, 1) := by decide +kernel
theorem dX1_cut_88 : decode cX1_cut 88 = .ok (.iload_n 1, 1) := by decide +kernel
theorem dX1_cut_89 : decode cX1_cut 89 = .ok (.invokevirtual 67, 3) := by decide +kernel
theorem dX1_cut_92 : decode cX1_cut 92 = .ok (.istore_n 3, 1) := by decide +kernel
theorem dX1_cut_93 : decode cX1_cut 93 = .ok (.iload_n 3, 1) := by decide +kernel
theorem dX1_cut_94 : decode cX1_cut 94 = .ok (.ifCond .ge 11, 3) := by decide +kernel
theorem dX1_cut_97 : decode cX1_cut 97 = .ok (.aload_n 0, 1) := by decide +kernel
theorem dX1_cut_98 : decode cX1_cut 98 = .ok (.iload_n 1, 1) := by decide +kernel
theorem dX1_cut_99 : decode cX1_cut 99 = .ok (.putfield 26, 3) := by decide +kernel
theorem dX1_cut_102 : decode cX1_cut 102 = .ok (.goto 49, 3) := by decide +kernel
theorem dX1_cut_105 : decode cX1_cut 105 = .ok (.aload_n 0, 1) := by decide +kernel
theorem dX1_cut_106 : decode cX1_cut 106 = .ok (.getfield 16, 3) := by decide +kernel
theorem dX1_cut_109 : decode cX1_cut 109 = .ok (.aload_n 0, 1) := by decide +kernel
theorem dX1_cut_110 : decode cX1_cut 110 = .ok (.getfield 58, 3) := by decide +kernel
theorem dX1_cut_113 : decode cX1_cut 113 = .ok (.iload_n 2, 1) := by decide +kernel
theorem dX1_cut_114 : decode cX1_cut 114 = .ok (.iastore, 1) := by decide +kernel
theorem dX1_cut_115 : decode cX1_cut 115 = .ok (.aload_n 0, 1) := by decide +kernel
theorem dX1_cut_116 : decode cX1_cut 116 = .ok (.getfield 20, 3) := by decide +kernel
theorem dX1_cut_119 : decode cX1_cut 119 = .ok (.aload_n 0, 1) := by decide +kernel
theorem dX1_cut_120 : decode cX1_cut 120 = .ok (.getfield 58, 3) := by decide +kernel
theorem dX1_cut_123 : decode cX1_cut 123 = .ok (.iload_n 1, 1) := by decide +kernel
theorem dX1_cut_124 : decode cX1_cut 124 = .ok (.iastore, 1) := by decide +kernel
theorem dX1_cut_125 : decode cX1_cut 125 = .ok (.aload_n 0, 1) := by decide +kernel
theorem dX1_cut_126 : decode cX1_cut 126 = .ok (.getfield 23, 3) := by decide +kernel
theorem dX1_cut_129 : decode cX1_cut 129 = .ok (.aload_n 0, 1) := by decide +kernel
theorem dX1_cut_130 : decode cX1_cut 130 = .ok (.getfield 58, 3) := by decide +kernel
theorem dX1_cut_133 : decode cX1_cut 133 = .ok (.iload_n 3, 1) := by decide +kernel
theorem dX1_cut_134 : decode cX1_cut 134 = .ok (.iastore, 1) := by decide +kernel
theorem dX1_cut_135 : decode cX1_cut 135 = .ok (.aload_n 0, 1) := by decide +kernel
theorem dX1_cut_136 : decode cX1_cut 136 = .ok (.dup, 1) := by decide +kernel
theorem dX1_cut_137 : decode cX1_cut 137 = .ok (.getfield 58, 3) := by decide +kernel
theorem dX1_cut_140 : decode cX1_cut 140 = .ok (.iconst 1, 1) := by decide +kernel
theorem dX1_cut_141 : decode cX1_cut 141 = .ok (.iadd, 1) := by decide +kernel
theorem dX1_cut_142 : decode cX1_cut 142 = .ok (.putfield 58, 3) := by decide +kernel
theorem dX1_cut_145 : decode cX1_cut 145 = .ok (.aload_n 0, 1) := by decide +kernel
theorem dX1_cut_146 : decode cX1_cut 146 = .ok (.iload_n 3, 1) := by decide +kernel
theorem dX1_cut_147 : decode cX1_cut 147 = .ok (.invokevirtual 61, 3) := by decide +kernel
theorem dX1_cut_150 : decode cX1_cut 150 = .ok (.istore_n 1, 1) := by decide +kernel
theorem dX1_cut_151 : decode cX1_cut 151 = .ok (.goto (-94), 3) := by decide +kernel
theorem dX1_cut_154 : decode cX1_cut 154 = .ok (.aload_n 0, 1) := by decide +kernel
theorem dX1_cut_155 : decode cX1_cut 155 = .ok (.getfield 26, 3) := by decide +kernel
theorem dX1_cut_158 : decode cX1_cut 158 = .ok (.ifCond .ge 10, 3) := by decide +kernel
theorem dX1_cut_161 : decode cX1_cut 161 = .ok (.aload_n 0, 1) := by decide +kernel
theorem dX1_cut_162 : decode cX1_cut 162 = .ok (.getfield 58, 3) := by decide +kernel
theorem dX1_cut_165 : decode cX1_cut 165 = .ok (.goto 4, 3) := by decide +kernel
theorem dX1_cut_168 : decode cX1_cut 168 = .ok (.iconst (-1), 1) := by decide +kernel
theorem dX1_cut_169 : decode cX1_cut 169 = .ok (.ireturn, 1) := by decide +kernel
set_option maxRecDepth 20000 in
theorem ggX1_kindAt_X1_look : GoodIn wsX1_kindAt wsX1_look := goodIn_r _ [5, 6, 7, 71, 72, 73, 74, 75, 76, 77, 78, 79, 80] (by decide +kernel) (by decide +kernel)
set_option maxRecDepth 20000 in
theorem gX1_kindAt_X1_look : GoodIn wsX1_kindAt (wsV RX1 51 RX1 yX1_look wsX1_look) := goodIn_app (goodIn_of _ (by decide +kernel)) ggX1_kindAt_X1_look
set_option maxRecDepth 20000 in
theorem ggX1_kindAt_X1_isDigit : GoodIn wsX1_kindAt wsX1_isDigit := goodIn_r _ [10] (by decide +kernel) (by decide +kernel)
set_option maxRecDepth 20000 in
theorem gX1_kindAt_X1_isDigit : GoodIn wsX1_kindAt (va_wsS RX1 44 yX1_isDigit wsX1_isDigit) := goodIn_app (goodIn_of _ (by decide +kernel)) ggX1_kindAt_X1_isDigit
set_option maxRecDepth 20000 in
theorem ggX1_kindAt_X1_isInName : GoodIn wsX1_kindAt wsX1_isInName := goodIn_r _ [13, 8, 9, 4, 10] (by decide +kernel) (by decide +kernel)
set_option maxRecDepth 20000 in
theorem gX1_kindAt_X1_isInName : GoodIn wsX1_kindAt (va_wsS RX1 71 yX1_isInName wsX1_isInName) := goodIn_app (goodIn_of _ (by decide +kernel)) ggX1_kindAt_X1_isInName
set_option maxRecDepth 20000 in
theorem ggX1_kindAt_X1_signEnd : GoodIn wsX1_kindAt wsX1_signEnd := goodIn_r _ [17, 18, 19, 20, 21, 22, 23, 24, 25, 26, 27, 28, 29, 30, 31, 32, 33, 34, 35, 36, 37, 38, 39, 40, 41, 42, 43, 44, 45, 46, 47, 48, 49, 50, 51, 52, 53, 54, 55, 56, 57, 58, 59, 60, 61, 62, 63, 64, 65, 66, 67, 68, 69, 4, 70, 1, 2, 3, 5, 6, 7, 71, 72, 73, 74, 75, 76, 77, 78, 79, 80] (by decide +kernel) (by decide +kernel)
set_option maxRecDepth 20000 in
theorem gX1_kindAt_X1_signEnd : GoodIn wsX1_kindAt (wsV RX1 74 RX1 yX1_signEnd wsX1_signEnd) := goodIn_app (goodIn_of _ (by decide +kernel)) ggX1_kindAt_X1_signEnd
theorem dX1_kindAt_0 : decode cX1_kindAt 0 = .ok (.aload_n 0, 1) := by decide +kernel
theorem dX1_kindAt_1 : decode cX1_kindAt 1 = .ok (.iload_n 1, 1) := by decide +kernel
theorem dX1_kindAt_2 : decode cX1_kindAt 2 = .ok (.invokevirtual 51, 3) := by decide +kernel
theorem dX1_kindAt_5 : decode cX1_kindAt 5 = .ok (.istore_n 2, 1) := by decide +kernel
theorem dX1_kindAt_6 : decode cX1_kindAt 6 = .ok (.iload_n 2, 1) := by decide +kernel
theorem dX1_kindAt_7 : decode cX1_kindAt 7 = .ok (.invokestatic 44, 3) := by decide +kernel
theorem dX1_kindAt_10 : decode cX1_kindAt 10 = .ok (.ifCond .ne 9, 3) := by decide +kernel
theorem dX1_kindAt_13 : decode cX1_kindAt 13 = .ok (.iload_n 2, 1) := by decide +kernel
theorem dX1_kindAt_14 : decode cX1_kindAt 14 = .ok (.bipush 39, 2) := by decide +kernel
theorem dX1_kindAt_16 : decode cX1_kindAt 16 = .ok (.if_icmp .ne 5, 3) := by decide +kernel
theorem dX1_kindAt_19 : decode cX1_kindAt 19 = .ok (.iconst 2, 1) := by decide +kernel
theorem dX1_kindAt_20 : decode cX1_kindAt 20 = .ok (.ireturn, 1) := by decide +kernel
theorem dX1_kindAt_21 : decode cX1_kindAt 21 = .ok (.iload_n 2, 1) := by decide +kernel
theorem dX1_kindAt_22 : decode cX1_kindAt 22 = .ok (.invokestatic 71, 3) := by decide +kernel
theorem dX1_kindAt_25 : decode cX1_kindAt 25 = .ok (.ifCond .eq 5, 3) := by decide +kernel
theorem dX1_kindAt_28 : decode cX1_kindAt 28 = .ok (.iconst 1, 1) := by decide +kernel
theorem dX1_kindAt_29 : decode cX1_kindAt 29 = .ok (.ireturn, 1) := by decide +kernel
theorem dX1_kindAt_30 : decode cX1_kindAt 30 = .ok (.iload_n 2, 1) := by decide +kernel
theorem dX1_kindAt_31 : decode cX1_kindAt 31 = .ok (.bipush 34, 2) := by decide +kernel
theorem dX1_kindAt_33 : decode cX1_kindAt 33 = .ok (.if_icmp .ne 5, 3) := by decide +kernel
theorem dX1_kindAt_36 : decode cX1_kindAt 36 = .ok (.iconst 3, 1) := by decide +kernel
theorem dX1_kindAt_37 : decode cX1_kindAt 37 = .ok (.ireturn, 1) := by decide +kernel
theorem dX1_kindAt_38 : decode cX1_kindAt 38 = .ok (.aload_n 0, 1) := by decide +kernel
theorem dX1_kindAt_39 : decode cX1_kindAt 39 = .ok (.iload_n 1, 1) := by decide +kernel
theorem dX1_kindAt_40 : decode cX1_kindAt 40 = .ok (.invokevirtual 74, 3) := by decide +kernel
theorem dX1_kindAt_43 : decode cX1_kindAt 43 = .ok (.ifCond .le 7, 3) := by decide +kernel
theorem dX1_kindAt_46 : decode cX1_kindAt 46 = .ok (.iconst 5, 1) := by decide +kernel
theorem dX1_kindAt_47 : decode cX1_kindAt 47 = .ok (.goto 4, 3) := by decide +kernel
theorem dX1_kindAt_50 : decode cX1_kindAt 50 = .ok (.iconst 0, 1) := by decide +kernel
theorem dX1_kindAt_51 : decode cX1_kindAt 51 = .ok (.ireturn, 1) := by decide +kernel
set_option maxRecDepth 20000 in
theorem ggX1_endOf_X1_signEnd : GoodIn wsX1_endOf wsX1_signEnd := goodIn_r _ [5, 6, 7, 8, 9, 10, 11, 12, 13, 14, 15, 16, 17, 18, 19, 20, 21, 22, 23, 24, 25, 26, 27, 28, 29, 30, 31, 32, 33, 34, 35, 36, 37, 38, 39, 40, 41, 42, 43, 44, 45, 46, 47, 48, 49, 50, 51, 52, 53, 54, 55, 56, 57, 4, 58, 59, 60, 61, 62, 63, 64, 89, 90, 91, 92, 93, 94, 95, 96, 97, 98] (by decide +kernel) (by decide +kernel)
set_option maxRecDepth 20000 in
theorem gX1_endOf_X1_signEnd : GoodIn wsX1_endOf (wsV RX1 74 RX1 yX1_signEnd wsX1_signEnd) := goodIn_app (goodIn_of _ (by decide +kernel)) ggX1_endOf_X1_signEnd
set_option maxRecDepth 20000 in
theorem ggX1_endOf_X1_stringEnd : GoodIn wsX1_endOf wsX1_stringEnd := goodIn_r _ [68, 59, 60, 61, 4, 62, 63, 64, 69, 70, 71, 72, 89, 90, 91, 92, 93, 94, 95, 96, 97, 98] (by decide +kernel) (by decide +kernel)
set_option maxRecDepth 20000 in
theorem gX1_endOf_X1_stringEnd : GoodIn wsX1_endOf (wsV RX1 77 RX1 yX1_stringEnd wsX1_stringEnd) := goodIn_app (goodIn_of _ (by decide +kernel)) ggX1_endOf_X1_stringEnd
set_option maxRecDepth 20000 in
theorem ggX1_endOf_X1_look : GoodIn wsX1_endOf wsX1_look := goodIn_r _ [62, 63, 64, 89, 90, 91, 92, 93, 94, 95, 96, 97, 98] (by decide +kernel) (by decide +kernel)
set_option maxRecDepth 20000 in
theorem gX1_endOf_X1_look : GoodIn wsX1_endOf (wsV RX1 51 RX1 yX1_look wsX1_look) := goodIn_app (goodIn_of _ (by decide +kernel)) ggX1_endOf_X1_look
set_option maxRecDepth 20000 in
theorem ggX1_endOf_X1_isInName : GoodIn wsX1_endOf wsX1_isInName := goodIn_r _ [75, 76, 77, 4, 78] (by decide +kernel) (by decide +kernel)
set_option maxRecDepth 20000 in
theorem gX1_endOf_X1_isInName : GoodIn wsX1_endOf (va_wsS RX1 71 yX1_isInName wsX1_isInName) := goodIn_app (goodIn_of _ (by decide +kernel)) ggX1_endOf_X1_isInName
set_option maxRecDepth 20000 in
theorem ggX1_endOf_X1_behind : GoodIn wsX1_endOf wsX1_behind := goodIn_r _ [72, 59, 60, 61, 4, 62, 63, 64, 89, 90, 91, 92, 93, 94, 95, 96, 97, 98] (by decide +kernel) (by decide +kernel)
set_option maxRecDepth 20000 in
theorem gX1_endOf_X1_behind : GoodIn wsX1_endOf (wsV RX1 80 RX1 yX1_behind wsX1_behind) := goodIn_app (goodIn_of _ (by decide +kernel)) ggX1_endOf_X1_behind
set_option maxRecDepth 20000 in
theorem ggX1_endOf_X1_sixteen : GoodIn wsX1_endOf wsX1_sixteen := goodIn_r _ [81, 76, 77, 4, 78] (by decide +kernel) (by decide +kernel)
set_option maxRecDepth 20000 in
theorem gX1_endOf_X1_sixteen : GoodIn wsX1_endOf (va_wsS RX1 83 yX1_sixteen wsX1_sixteen) := goodIn_app (goodIn_of _ (by decide +kernel)) ggX1_endOf_X1_sixteen
set_option maxRecDepth 20000 in
theorem ggX1_endOf_X1_isDigit : GoodIn wsX1_endOf wsX1_isDigit := goodIn_r _ [78] (by decide +kernel) (by decide +kernel)
set_option maxRecDepth 20000 in
theorem gX1_endOf_X1_isDigit : GoodIn wsX1_endOf (va_wsS RX1 44 yX1_isDigit wsX1_isDigit) := goodIn_app (goodIn_of _ (by decide +kernel)) ggX1_endOf_X1_isDigit
set_option maxRecDepth 20000 in
theorem ggX1_endOf_X1_isInt : GoodIn wsX1_endOf wsX1_isInt := goodIn_r _ [85, 86, 87, 88, 59, 60, 61, 4, 62, 63, 64, 89, 90, 91, 92, 93, 94, 95, 96, 97, 98] (by decide +kernel) (by decide +kernel)
set_option maxRecDepth 20000 in
theorem gX1_endOf_X1_isInt : GoodIn wsX1_endOf (wsV RX1 86 RX1 yX1_isInt wsX1_isInt) := goodIn_app (goodIn_of _ (by decide +kernel)) ggX1_endOf_X1_isInt
theorem dX1_endOf_0 : decode cX1_endOf 0 = .ok (.iload_n 2, 1) := by decide +kernel
theorem dX1_endOf_1 : decode cX1_endOf 1 = .ok (.istore_n 3, 1) := by decide +kernel
theorem dX1_endOf_2 : decode cX1_endOf 2 = .ok (.iload_n 1, 1) := by decide +kernel
theorem dX1_endOf_3 : decode cX1_endOf 3 = .ok (.iconst 5, 1) := by decide +kernel
theorem dX1_endOf_4 : decode cX1_endOf 4 = .ok (.if_icmp .ne 9, 3) := by decide +kernel
theorem dX1_endOf_7 : decode cX1_endOf 7 = .ok (.aload_n 0, 1) := by decide +kernel
theorem dX1_endOf_8 : decode cX1_endOf 8 = .ok (.iload_n 2, 1) := by decide +kernel
theorem dX1_endOf_9 : decode cX1_endOf 9 = .ok (.invokevirtual 74, 3) := by decide +kernel
theorem dX1_endOf_12 : decode cX1_endOf 12 = .ok (.ireturn, 1) := by decide +kernel
theorem dX1_endOf_13 : decode cX1_endOf 13 = .ok (.iload_n 1, 1) := by decide +kernel
theorem dX1_endOf_14 : decode cX1_endOf 14 = .ok (.iconst 3, 1) := by decide +kernel
theorem dX1_endOf_15 : decode cX1_endOf 15 = .ok (.if_icmp .ne 9, 3) := by decide +kernel
theorem dX1_endOf_18 : decode cX1_endOf 18 = .ok (.aload_n 0, 1) := by decide +kernel
theorem dX1_endOf_19 : decode cX1_endOf 19 = .ok (.iload_n 2, 1) := by decide +kernel
theorem dX1_endOf_20 : decode cX1_endOf 20 = .ok (.invokevirtual 77, 3) := by decide +kernel
theorem dX1_endOf_23 : decode cX1_endOf 23 = .ok (.ireturn, 1) := by decide +kernel
theorem dX1_endOf_24 : decode cX1_endOf 24 = .ok (.iload_n 1, 1) := by decide +kernel
theorem dX1_endOf_25 : decode cX1_endOf 25 = .ok (.iconst 1, 1) := by decide +kernel
theorem dX1_endOf_26 : decode cX1_endOf 26 = .ok (.if_icmp .ne 34, 3) := by decide +kernel
theorem dX1_endOf_29 : decode cX1_endOf 29 = .ok (.aload_n 0, 1) := by decide +kernel
theorem dX1_endOf_30 : decode cX1_endOf 30 = .ok (.iload_n 3, 1) := by decide +kernel
theorem dX1_endOf_31 : decode cX1_endOf 31 = .ok (.invokevirtual 51, 3) := by decide +kernel
theorem dX1_endOf_34 : decode cX1_endOf 34 = .ok (.invokestatic 71, 3) := by decide +kernel
theorem dX1_endOf_37 : decode cX1_endOf 37 = .ok (.ifCond .eq 9, 3) := by decide +kernel
theorem dX1_endOf_40 : decode cX1_endOf 40 = .ok (.iinc 3 1, 3) := by decide +kernel
theorem dX1_endOf_43 : decode cX1_endOf 43 = .ok (.goto (-14), 3) := by decide +kernel
theorem dX1_endOf_46 : decode cX1_endOf 46 = .ok (.iload_n 3, 1) := by decide +kernel
theorem dX1_endOf_47 : decode cX1_endOf 47 = .ok (.iload_n 2, 1) := by decide +kernel
theorem dX1_endOf_48 : decode cX1_endOf 48 = .ok (.isub, 1) := by decide +kernel
theorem dX1_endOf_49 : decode cX1_endOf 49 = .ok (.bipush 24, 2) := by decide +kernel
theorem dX1_endOf_51 : decode cX1_endOf 51 = .ok (.if_icmp .gt 7, 3) := by decide +kernel
theorem dX1_endOf_54 : decode cX1_endOf 54 = .ok (.iload_n 3, 1) := by decide +kernel
theorem dX1_endOf_55 : decode cX1_endOf 55 = .ok (.goto 4, 3) := by decide +kernel
theorem dX1_endOf_58 : decode cX1_endOf 58 = .ok (.iconst (-1), 1) := by decide +kernel
theorem dX1_endOf_59 : decode cX1_endOf 59 = .ok (.ireturn, 1) := by decide +kernel
theorem dX1_endOf_60 : decode cX1_endOf 60 = .ok (.aload_n 0, 1) := by decide +kernel
theorem dX1_endOf_61 : decode cX1_endOf 61 = .ok (.iload_n 2, 1) := by decide +kernel
theorem dX1_endOf_62 : decode cX1_endOf 62 = .ok (.invokevirtual 51, 3) := by decide +kernel
theorem dX1_endOf_65 : decode cX1_endOf 65 = .ok (.bipush 39, 2) := by decide +kernel
theorem dX1_endOf_67 : decode cX1_endOf 67 = .ok (.if_icmp .ne 35, 3) := by decide +kernel
theorem dX1_endOf_70 : decode cX1_endOf 70 = .ok (.aload_n 0, 1) := by decide +kernel
theorem dX1_endOf_71 : decode cX1_endOf 71 = .ok (.iload_n 2, 1) := by decide +kernel
theorem dX1_endOf_72 : decode cX1_endOf 72 = .ok (.iconst 1, 1) := by decide +kernel
theorem dX1_endOf_73 : decode cX1_endOf 73 = .ok (.iadd, 1) := by decide +kernel
theorem dX1_endOf_74 : decode cX1_endOf 74 = .ok (.bipush 39, 2) := by decide +kernel
theorem dX1_endOf_76 : decode cX1_endOf 76 = .ok (.invokevirtual 80, 3) := by decide +kernel
theorem dX1_endOf_79 : decode cX1_endOf 79 = .ok (.istore_n 3, 1) := by decide +kernel
theorem dX1_endOf_80 : decode cX1_endOf 80 = .ok (.iload_n 3, 1) := by decide +kernel
theorem dX1_endOf_81 : decode cX1_endOf 81 = .ok (.ifCond .le 19, 3) := by decide +kernel
theorem dX1_endOf_84 : decode cX1_endOf 84 = .ok (.aload_n 0, 1) := by decide +kernel
theorem dX1_endOf_85 : decode cX1_endOf 85 = .ok (.iload_n 3, 1) := by decide +kernel
theorem dX1_endOf_86 : decode cX1_endOf 86 = .ok (.invokevirtual 51, 3) := by decide +kernel
theorem dX1_endOf_89 : decode cX1_endOf 89 = .ok (.bipush 39, 2) := by decide +kernel
theorem dX1_endOf_91 : decode cX1_endOf 91 = .ok (.if_icmp .ne 9, 3) := by decide +kernel
theorem dX1_endOf_94 : decode cX1_endOf 94 = .ok (.iload_n 3, 1) := by decide +kernel
theorem dX1_endOf_95 : decode cX1_endOf 95 = .ok (.iconst 1, 1) := by decide +kernel
theorem dX1_endOf_96 : decode cX1_endOf 96 = .ok (.iadd, 1) := by decide +kernel
theorem dX1_endOf_97 : decode cX1_endOf 97 = .ok (.goto 4, 3) := by decide +kernel
theorem dX1_endOf_100 : decode cX1_endOf 100 = .ok (.iconst (-1), 1) := by decide +kernel
theorem dX1_endOf_101 : decode cX1_endOf 101 = .ok (.ireturn, 1) := by decide +kernel
theorem dX1_endOf_102 : decode cX1_endOf 102 = .ok (.aload_n 0, 1) := by decide +kernel
theorem dX1_endOf_103 : decode cX1_endOf 103 = .ok (.iload_n 2, 1) := by decide +kernel
theorem dX1_endOf_104 : decode cX1_endOf 104 = .ok (.invokevirtual 51, 3) := by decide +kernel
theorem dX1_endOf_107 : decode cX1_endOf 107 = .ok (.bipush 48, 2) := by decide +kernel
theorem dX1_endOf_109 : decode cX1_endOf 109 = .ok (.if_icmp .ne 32, 3) := by decide +kernel
theorem dX1_endOf_112 : decode cX1_endOf 112 = .ok (.aload_n 0, 1) := by decide +kernel
theorem dX1_endOf_113 : decode cX1_endOf 113 = .ok (.iload_n 2, 1) := by decide +kernel
theorem dX1_endOf_114 : decode cX1_endOf 114 = .ok (.iconst 1, 1) := by decide +kernel
theorem dX1_endOf_115 : decode cX1_endOf 115 = .ok (.iadd, 1) := by decide +kernel
theorem dX1_endOf_116 : decode cX1_endOf 116 = .ok (.invokevirtual 51, 3) := by decide +kernel
theorem dX1_endOf_119 : decode cX1_endOf 119 = .ok (.bipush 120, 2) := by decide +kernel
theorem dX1_endOf_121 : decode cX1_endOf 121 = .ok (.if_icmp .ne 20, 3) := by decide +kernel
theorem dX1_endOf_124 : decode cX1_endOf 124 = .ok (.aload_n 0, 1) := by decide +kernel
theorem dX1_endOf_125 : decode cX1_endOf 125 = .ok (.iload_n 2, 1) := by decide +kernel
theorem dX1_endOf_126 : decode cX1_endOf 126 = .ok (.iconst 2, 1) := by decide +kernel
theorem dX1_endOf_127 : decode cX1_endOf 127 = .ok (.iadd, 1) := by decide +kernel
theorem dX1_endOf_128 : decode cX1_endOf 128 = .ok (.invokevirtual 51, 3) := by decide +kernel
theorem dX1_endOf_131 : decode cX1_endOf 131 = .ok (.invokestatic 83, 3) := by decide +kernel
theorem dX1_endOf_134 : decode cX1_endOf 134 = .ok (.ifCond .lt 7, 3) := by decide +kernel
theorem dX1_endOf_137 : decode cX1_endOf 137 = .ok (.iconst 1, 1) := by decide +kernel
theorem dX1_endOf_138 : decode cX1_endOf 138 = .ok (.goto 4, 3) := by decide +kernel
theorem dX1_endOf_141 : decode cX1_endOf 141 = .ok (.iconst 0, 1) := by decide +kernel
theorem dX1_endOf_142 : decode cX1_endOf 142 = .ok (.istore 4, 2) := by decide +kernel
theorem dX1_endOf_144 : decode cX1_endOf 144 = .ok (.iload 4, 2) := by decide +kernel
theorem dX1_endOf_146 : decode cX1_endOf 146 = .ok (.ifCond .eq 38, 3) := by decide +kernel
theorem dX1_endOf_149 : decode cX1_endOf 149 = .ok (.iload_n 2, 1) := by decide +kernel
theorem dX1_endOf_150 : decode cX1_endOf 150 = .ok (.iconst 2, 1) := by decide +kernel
theorem dX1_endOf_151 : decode cX1_endOf 151 = .ok (.iadd, 1) := by decide +kernel
theorem dX1_endOf_152 : decode cX1_endOf 152 = .ok (.istore_n 3, 1) := by decide +kernel
theorem dX1_endOf_153 : decode cX1_endOf 153 = .ok (.aload_n 0, 1) := by decide +kernel
theorem dX1_endOf_154 : decode cX1_endOf 154 = .ok (.iload_n 3, 1) := by decide +kernel
theorem dX1_endOf_155 : decode cX1_endOf 155 = .ok (.invokevirtual 51, 3) := by decide +kernel
theorem dX1_endOf_158 : decode cX1_endOf 158 = .ok (.invokestatic 83, 3) := by decide +kernel
theorem dX1_endOf_161 : decode cX1_endOf 161 = .ok (.ifCond .lt 9, 3) := by decide +kernel
theorem dX1_endOf_164 : decode cX1_endOf 164 = .ok (.iinc 3 1, 3) := by decide +kernel
theorem dX1_endOf_167 : decode cX1_endOf 167 = .ok (.goto (-14), 3) := by decide +kernel
theorem dX1_endOf_170 : decode cX1_endOf 170 = .ok (.iload_n 3, 1) := by decide +kernel
theorem dX1_endOf_171 : decode cX1_endOf 171 = .ok (.iload_n 2, 1) := by decide +kernel
theorem dX1_endOf_172 : decode cX1_endOf 172 = .ok (.isub, 1) := by decide +kernel
theorem dX1_endOf_173 : decode cX1_endOf 173 = .ok (.bipush 10, 2) := by decide +kernel
theorem dX1_endOf_175 : decode cX1_endOf 175 = .ok (.if_icmp .gt 7, 3) := by decide +kernel
theorem dX1_endOf_178 : decode cX1_endOf 178 = .ok (.iload_n 3, 1) := by decide +kernel
theorem dX1_endOf_179 : decode cX1_endOf 179 = .ok (.goto 4, 3) := by decide +kernel
theorem dX1_endOf_182 : decode cX1_endOf 182 = .ok (.iconst (-1), 1) := by decide +kernel
theorem dX1_endOf_183 : decode cX1_endOf 183 = .ok (.ireturn, 1) := by decide +kernel
theorem dX1_endOf_184 : decode cX1_endOf 184 = .ok (.aload_n 0, 1) := by decide +kernel
theorem dX1_endOf_185 : decode cX1_endOf 185 = .ok (.iload_n 3, 1) := by decide +kernel
theorem dX1_endOf_186 : decode cX1_endOf 186 = .ok (.invokevirtual 51, 3) := by decide +kernel
theorem dX1_endOf_189 : decode cX1_endOf 189 = .ok (.invokestatic 44, 3) := by decide +kernel
theorem dX1_endOf_192 : decode cX1_endOf 192 = .ok (.ifCond .eq 9, 3) := by decide +kernel
theorem dX1_endOf_195 : decode cX1_endOf 195 = .ok (.iinc 3 1, 3) := by decide +kernel
theorem dX1_endOf_198 : decode cX1_endOf 198 = .ok (.goto (-14), 3) := by decide +kernel
theorem dX1_endOf_201 : decode cX1_endOf 201 = .ok (.aload_n 0, 1) := by decide +kernel
theorem dX1_endOf_202 : decode cX1_endOf 202 = .ok (.iload_n 2, 1) := by decide +kernel
theorem dX1_endOf_203 : decode cX1_endOf 203 = .ok (.iload_n 3, 1) := by decide +kernel
theorem dX1_endOf_204 : decode cX1_endOf 204 = .ok (.invokevirtual 86, 3) := by decide +kernel
theorem dX1_endOf_207 : decode cX1_endOf 207 = .ok (.ifCond .eq 7, 3) := by decide +kernel
theorem dX1_endOf_210 : decode cX1_endOf 210 = .ok (.iload_n 3, 1) := by decide +kernel
theorem dX1_endOf_211 : decode cX1_endOf 211 = .ok (.goto 4, 3) := by decide +kernel
theorem dX1_endOf_214 : decode cX1_endOf 214 = .ok (.iconst (-1), 1) := by decide +kernel
theorem dX1_endOf_215 : decode cX1_endOf 215 = .ok (.ireturn, 1) := by decide +kernel
set_option maxRecDepth 20000 in
theorem ggX1_isInt_X1_look : GoodIn wsX1_isInt wsX1_look := goodIn_r _ [8, 9, 10, 11, 12, 13, 14, 15, 16, 17, 18, 19, 20] (by decide +kernel) (by decide +kernel)
set_option maxRecDepth 20000 in
theorem gX1_isInt_X1_look : GoodIn wsX1_isInt (wsV RX1 51 RX1 yX1_look wsX1_look) := goodIn_app (goodIn_of _ (by decide +kernel)) ggX1_isInt_X1_look
theorem dX1_isInt_0 : decode cX1_isInt 0 = .ok (.iload_n 1, 1) := by decide +kernel
theorem dX1_isInt_1 : decode cX1_isInt 1 = .ok (.istore_n 3, 1) := by decide +kernel
theorem dX1_isInt_2 : decode cX1_isInt 2 = .ok (.iload_n 3, 1) := by decide +kernel
theorem dX1_isInt_3 : decode cX1_isInt 3 = .ok (.iload_n 2, 1) := by decide +kernel
theorem dX1_isInt_4 : decode cX1_isInt 4 = .ok (.if_icmp .ge 19, 3) := by decide +kernel
theorem dX1_isInt_7 : decode cX1_isInt 7 = .ok (.aload_n 0, 1) := by decide +kernel
theorem dX1_isInt_8 : decode cX1_isInt 8 = .ok (.iload_n 3, 1) := by decide +kernel
theorem dX1_isInt_9 : decode cX1_isInt 9 = .ok (.invokevirtual 51, 3) := by decide +kernel
theorem dX1_isInt_12 : decode cX1_isInt 12 = .ok (.bipush 48, 2) := by decide +kernel
theorem dX1_isInt_14 : decode cX1_isInt 14 = .ok (.if_icmp .ne 9, 3) := by decide +kernel
theorem dX1_isInt_17 : decode cX1_isInt 17 = .ok (.iinc 3 1, 3) := by decide +kernel
theorem dX1_isInt_20 : decode cX1_isInt 20 = .ok (.goto (-18), 3) := by decide +kernel
theorem dX1_isInt_23 : decode cX1_isInt 23 = .ok (.iload_n 2, 1) := by decide +kernel
theorem dX1_isInt_24 : decode cX1_isInt 24 = .ok (.iload_n 3, 1) := by decide +kernel
theorem dX1_isInt_25 : decode cX1_isInt 25 = .ok (.isub, 1) := by decide +kernel
theorem dX1_isInt_26 : decode cX1_isInt 26 = .ok (.bipush 10, 2) := by decide +kernel
theorem dX1_isInt_28 : decode cX1_isInt 28 = .ok (.if_icmp .eq 17, 3) := by decide +kernel
theorem dX1_isInt_31 : decode cX1_isInt 31 = .ok (.iload_n 2, 1) := by decide +kernel
theorem dX1_isInt_32 : decode cX1_isInt 32 = .ok (.iload_n 3, 1) := by decide +kernel
theorem dX1_isInt_33 : decode cX1_isInt 33 = .ok (.isub, 1) := by decide +kernel
theorem dX1_isInt_34 : decode cX1_isInt 34 = .ok (.bipush 10, 2) := by decide +kernel
theorem dX1_isInt_36 : decode cX1_isInt 36 = .ok (.if_icmp .ge 7, 3) := by decide +kernel
theorem dX1_isInt_39 : decode cX1_isInt 39 = .ok (.iconst 1, 1) := by decide +kernel
theorem dX1_isInt_40 : decode cX1_isInt 40 = .ok (.goto 4, 3) := by decide +kernel
theorem dX1_isInt_43 : decode cX1_isInt 43 = .ok (.iconst 0, 1) := by decide +kernel
theorem dX1_isInt_44 : decode cX1_isInt 44 = .ok (.ireturn, 1) := by decide +kernel
theorem dX1_isInt_45 : decode cX1_isInt 45 = .ok (.lconst 0, 1) := by decide +kernel
theorem dX1_isInt_46 : decode cX1_isInt 46 = .ok (.lstore 4, 2) := by decide +kernel
theorem dX1_isInt_48 : decode cX1_isInt 48 = .ok (.iload_n 3, 1) := by decide +kernel
theorem dX1_isInt_49 : decode cX1_isInt 49 = .ok (.istore 6, 2) := by decide +kernel
theorem dX1_isInt_51 : decode cX1_isInt 51 = .ok (.iload 6, 2) := by decide +kernel
theorem dX1_isInt_53 : decode cX1_isInt 53 = .ok (.iload_n 2, 1) := by decide +kernel
theorem dX1_isInt_54 : decode cX1_isInt 54 = .ok (.if_icmp .ge 29, 3) := by decide +kernel
theorem dX1_isInt_57 : decode cX1_isInt 57 = .ok (.ldc2_w 90, 3) := by decide +kernel
theorem dX1_isInt_60 : decode cX1_isInt 60 = .ok (.lload 4, 2) := by decide +kernel
theorem dX1_isInt_62 : decode cX1_isInt 62 = .ok (.lmul, 1) := by decide +kernel
theorem dX1_isInt_63 : decode cX1_isInt 63 = .ok (.aload_n 0, 1) := by decide +kernel
theorem dX1_isInt_64 : decode cX1_isInt 64 = .ok (.iload 6, 2) := by decide +kernel
theorem dX1_isInt_66 : decode cX1_isInt 66 = .ok (.invokevirtual 51, 3) := by decide +kernel
theorem dX1_isInt_69 : decode cX1_isInt 69 = .ok (.i2l, 1) := by decide +kernel
theorem dX1_isInt_70 : decode cX1_isInt 70 = .ok (.ladd, 1) := by decide +kernel
theorem dX1_isInt_71 : decode cX1_isInt 71 = .ok (.ldc2_w 92, 3) := by decide +kernel
theorem dX1_isInt_74 : decode cX1_isInt 74 = .ok (.lsub, 1) := by decide +kernel
theorem dX1_isInt_75 : decode cX1_isInt 75 = .ok (.lstore 4, 2) := by decide +kernel
theorem dX1_isInt_77 : decode cX1_isInt 77 = .ok (.iinc 6 1, 3) := by decide +kernel
theorem dX1_isInt_80 : decode cX1_isInt 80 = .ok (.goto (-29), 3) := by decide +kernel
theorem dX1_isInt_83 : decode cX1_isInt 83 = .ok (.lload 4, 2) := by decide +kernel
theorem dX1_isInt_85 : decode cX1_isInt 85 = .ok (.ldc2_w 94, 3) := by decide +kernel
theorem dX1_isInt_88 : decode cX1_isInt 88 = .ok (.lcmp, 1) := by decide +kernel
theorem dX1_isInt_89 : decode cX1_isInt 89 = .ok (.ifCond .gt 7, 3) := by decide +kernel
theorem dX1_isInt_92 : decode cX1_isInt 92 = .ok (.iconst 1, 1) := by decide +kernel
theorem dX1_isInt_93 : decode cX1_isInt 93 = .ok (.goto 4, 3) := by decide +kernel
theorem dX1_isInt_96 : decode cX1_isInt 96 = .ok (.iconst 0, 1) := by decide +kernel
theorem dX1_isInt_97 : decode cX1_isInt 97 = .ok (.ireturn, 1) := by decide +kernel
set_option maxRecDepth 20000 in
theorem ggX1_behind_X1_look : GoodIn wsX1_behind wsX1_look := goodIn_r _ [5, 6, 7, 8, 9, 10, 11, 12, 13, 14, 15, 16, 17] (by decide +kernel) (by decide +kernel)
set_option maxRecDepth 20000 in
theorem gX1_behind_X1_look : GoodIn wsX1_behind (wsV RX1 51 RX1 yX1_look wsX1_look) := goodIn_app (goodIn_of _ (by decide +kernel)) ggX1_behind_X1_look
theorem dX1_behind_0 : decode cX1_behind 0 = .ok (.aload_n 0, 1) := by decide +kernel
theorem dX1_behind_1 : decode cX1_behind 1 = .ok (.iload_n 1, 1) := by decide +kernel
theorem dX1_behind_2 : decode cX1_behind 2 = .ok (.invokevirtual 51, 3) := by decide +kernel
theorem dX1_behind_5 : decode cX1_behind 5 = .ok (.istore_n 3, 1) := by decide +kernel
theorem dX1_behind_6 : decode cX1_behind 6 = .ok (.iload_n 3, 1) := by decide +kernel
theorem dX1_behind_7 : decode cX1_behind 7 = .ok (.bipush 92, 2) := by decide +kernel
theorem dX1_behind_9 : decode cX1_behind 9 = .ok (.if_icmp .ne 55, 3) := by decide +kernel
theorem dX1_behind_12 : decode cX1_behind 12 = .ok (.aload_n 0, 1) := by decide +kernel
theorem dX1_behind_13 : decode cX1_behind 13 = .ok (.iload_n 1, 1) := by decide +kernel
theorem dX1_behind_14 : decode cX1_behind 14 = .ok (.iconst 1, 1) := by decide +kernel
theorem dX1_behind_15 : decode cX1_behind 15 = .ok (.iadd, 1) := by decide +kernel
theorem dX1_behind_16 : decode cX1_behind 16 = .ok (.invokevirtual 51, 3) := by decide +kernel
theorem dX1_behind_19 : decode cX1_behind 19 = .ok (.istore 4, 2) := by decide +kernel
theorem dX1_behind_21 : decode cX1_behind 21 = .ok (.iload 4, 2) := by decide +kernel
theorem dX1_behind_23 : decode cX1_behind 23 = .ok (.bipush 110, 2) := by decide +kernel
theorem dX1_behind_25 : decode cX1_behind 25 = .ok (.if_icmp .eq 31, 3) := by decide +kernel
theorem dX1_behind_28 : decode cX1_behind 28 = .ok (.iload 4, 2) := by decide +kernel
theorem dX1_behind_30 : decode cX1_behind 30 = .ok (.bipush 48, 2) := by decide +kernel
theorem dX1_behind_32 : decode cX1_behind 32 = .ok (.if_icmp .eq 24, 3) := by decide +kernel
theorem dX1_behind_35 : decode cX1_behind 35 = .ok (.iload 4, 2) := by decide +kernel
theorem dX1_behind_37 : decode cX1_behind 37 = .ok (.bipush 92, 2) := by decide +kernel
theorem dX1_behind_39 : decode cX1_behind 39 = .ok (.if_icmp .eq 17, 3) := by decide +kernel
theorem dX1_behind_42 : decode cX1_behind 42 = .ok (.iload 4, 2) := by decide +kernel
theorem dX1_behind_44 : decode cX1_behind 44 = .ok (.bipush 39, 2) := by decide +kernel
theorem dX1_behind_46 : decode cX1_behind 46 = .ok (.if_icmp .eq 10, 3) := by decide +kernel
theorem dX1_behind_49 : decode cX1_behind 49 = .ok (.iload 4, 2) := by decide +kernel
theorem dX1_behind_51 : decode cX1_behind 51 = .ok (.bipush 34, 2) := by decide +kernel
theorem dX1_behind_53 : decode cX1_behind 53 = .ok (.if_icmp .ne 9, 3) := by decide +kernel
theorem dX1_behind_56 : decode cX1_behind 56 = .ok (.iload_n 1, 1) := by decide +kernel
theorem dX1_behind_57 : decode cX1_behind 57 = .ok (.iconst 2, 1) := by decide +kernel
theorem dX1_behind_58 : decode cX1_behind 58 = .ok (.iadd, 1) := by decide +kernel
theorem dX1_behind_59 : decode cX1_behind 59 = .ok (.goto 4, 3) := by decide +kernel
theorem dX1_behind_62 : decode cX1_behind 62 = .ok (.iconst (-1), 1) := by decide +kernel
theorem dX1_behind_63 : decode cX1_behind 63 = .ok (.ireturn, 1) := by decide +kernel
theorem dX1_behind_64 : decode cX1_behind 64 = .ok (.iload_n 3, 1) := by decide +kernel
theorem dX1_behind_65 : decode cX1_behind 65 = .ok (.bipush 32, 2) := by decide +kernel
theorem dX1_behind_67 : decode cX1_behind 67 = .ok (.if_icmp .lt 20, 3) := by decide +kernel
theorem dX1_behind_70 : decode cX1_behind 70 = .ok (.iload_n 3, 1) := by decide +kernel
theorem dX1_behind_71 : decode cX1_behind 71 = .ok (.bipush 126, 2) := by decide +kernel
theorem dX1_behind_73 : decode cX1_behind 73 = .ok (.if_icmp .gt 14, 3) := by decide +kernel
theorem dX1_behind_76 : decode cX1_behind 76 = .ok (.iload_n 3, 1) := by decide +kernel
theorem dX1_behind_77 : decode cX1_behind 77 = .ok (.iload_n 2, 1) := by decide +kernel
theorem dX1_behind_78 : decode cX1_behind 78 = .ok (.if_icmp .eq 9, 3) := by decide +kernel
theorem dX1_behind_81 : decode cX1_behind 81 = .ok (.iload_n 1, 1) := by decide +kernel
theorem dX1_behind_82 : decode cX1_behind 82 = .ok (.iconst 1, 1) := by decide +kernel
theorem dX1_behind_83 : decode cX1_behind 83 = .ok (.iadd, 1) := by decide +kernel
theorem dX1_behind_84 : decode cX1_behind 84 = .ok (.goto 4, 3) := by decide +kernel
theorem dX1_behind_87 : decode cX1_behind 87 = .ok (.iconst (-1), 1) := by decide +kernel
theorem dX1_behind_88 : decode cX1_behind 88 = .ok (.ireturn, 1) := by decide +kernel
set_option maxRecDepth 20000 in
theorem ggX1_stringEnd_X1_look : GoodIn wsX1_stringEnd wsX1_look := goodIn_r _ [5, 6, 7, 12, 13, 14, 15, 16, 17, 18, 19, 20, 21] (by decide +kernel) (by decide +kernel)
set_option maxRecDepth 20000 in
theorem gX1_stringEnd_X1_look : GoodIn wsX1_stringEnd (wsV RX1 51 RX1 yX1_look wsX1_look) := goodIn_app (goodIn_of _ (by decide +kernel)) ggX1_stringEnd_X1_look
set_option maxRecDepth 20000 in
theorem ggX1_stringEnd_X1_behind : GoodIn wsX1_stringEnd wsX1_behind := goodIn_r _ [11, 1, 2, 3, 4, 5, 6, 7, 12, 13, 14, 15, 16, 17, 18, 19, 20, 21] (by decide +kernel) (by decide +kernel)
set_option maxRecDepth 20000 in
theorem gX1_stringEnd_X1_behind : GoodIn wsX1_stringEnd (wsV RX1 80 RX1 yX1_behind wsX1_behind) := goodIn_app (goodIn_of _ (by decide +kernel)) ggX1_stringEnd_X1_behind
theorem dX1_stringEnd_0 : decode cX1_stringEnd 0 = .ok (.iload_n 1, 1) := by decide +kernel
theorem dX1_stringEnd_1 : decode cX1_stringEnd 1 = .ok (.iconst 1, 1) := by decide +kernel
theorem dX1_stringEnd_2 : decode cX1_stringEnd 2 = .ok (.iadd, 1) := by decide +kernel
theorem dX1_stringEnd_3 : decode cX1_stringEnd 3 = .ok (.istore_n 2, 1) := by decide +kernel
theorem dX1_stringEnd_4 : decode cX1_stringEnd 4 = .ok (.iconst 0, 1) := by decide +kernel
theorem dX1_stringEnd_5 : decode cX1_stringEnd 5 = .ok (.istore_n 3, 1) := by decide +kernel
theorem dX1_stringEnd_6 : decode cX1_stringEnd 6 = .ok (.iload_n 2, 1) := by decide +kernel
theorem dX1_stringEnd_7 : decode cX1_stringEnd 7 = .ok (.ifCond .le 38, 3) := by decide +kernel
theorem dX1_stringEnd_10 : decode cX1_stringEnd 10 = .ok (.aload_n 0, 1) := by decide +kernel
theorem dX1_stringEnd_11 : decode cX1_stringEnd 11 = .ok (.iload_n 2, 1) := by decide +kernel
theorem dX1_stringEnd_12 : decode cX1_stringEnd 12 = .ok (.invokevirtual 51, 3) := by decide +kernel
theorem dX1_stringEnd_15 : decode cX1_stringEnd 15 = .ok (.bipush 34, 2) := by decide +kernel
theorem dX1_stringEnd_17 : decode cX1_stringEnd 17 = .ok (.if_icmp .eq 28, 3) := by decide +kernel
theorem dX1_stringEnd_20 : decode cX1_stringEnd 20 = .ok (.iload_n 3, 1) := by decide +kernel
theorem dX1_stringEnd_21 : decode cX1_stringEnd 21 = .ok (.sipush 200, 3) := by decide +kernel
theorem dX1_stringEnd_24 : decode cX1_stringEnd 24 = .ok (.if_icmp .ne 7, 3) := by decide +kernel
theorem dX1_stringEnd_27 : decode cX1_stringEnd 27 = .ok (.iconst (-1), 1) := by decide +kernel
theorem dX1_stringEnd_28 : decode cX1_stringEnd 28 = .ok (.goto 10, 3) := by decide +kernel
theorem dX1_stringEnd_31 : decode cX1_stringEnd 31 = .ok (.aload_n 0, 1) := by decide +kernel
theorem dX1_stringEnd_32 : decode cX1_stringEnd 32 = .ok (.iload_n 2, 1) := by decide +kernel
theorem dX1_stringEnd_33 : decode cX1_stringEnd 33 = .ok (.bipush 34, 2) := by decide +kernel
theorem dX1_stringEnd_35 : decode cX1_stringEnd 35 = .ok (.invokevirtual 80, 3) := by decide +kernel
theorem dX1_stringEnd_38 : decode cX1_stringEnd 38 = .ok (.istore_n 2, 1) := by decide +kernel
theorem dX1_stringEnd_39 : decode cX1_stringEnd 39 = .ok (.iinc 3 1, 3) := by decide +kernel
theorem dX1_stringEnd_42 : decode cX1_stringEnd 42 = .ok (.goto (-36), 3) := by decide +kernel
theorem dX1_stringEnd_45 : decode cX1_stringEnd 45 = .ok (.iload_n 2, 1) := by decide +kernel
theorem dX1_stringEnd_46 : decode cX1_stringEnd 46 = .ok (.ifCond .le 9, 3) := by decide +kernel
theorem dX1_stringEnd_49 : decode cX1_stringEnd 49 = .ok (.iload_n 2, 1) := by decide +kernel
theorem dX1_stringEnd_50 : decode cX1_stringEnd 50 = .ok (.iconst 1, 1) := by decide +kernel
theorem dX1_stringEnd_51 : decode cX1_stringEnd 51 = .ok (.iadd, 1) := by decide +kernel
theorem dX1_stringEnd_52 : decode cX1_stringEnd 52 = .ok (.goto 4, 3) := by decide +kernel
theorem dX1_stringEnd_55 : decode cX1_stringEnd 55 = .ok (.iconst (-1), 1) := by decide +kernel
theorem dX1_stringEnd_56 : decode cX1_stringEnd 56 = .ok (.ireturn, 1) := by decide +kernel
set_option maxRecDepth 20000 in
theorem ggX1_isAt_X1_look : GoodIn wsX1_isAt wsX1_look := goodIn_r _ [5, 6, 7, 49, 50, 51, 52, 53, 54, 55, 56, 57, 58] (by decide +kernel) (by decide +kernel)
set_option maxRecDepth 20000 in
theorem gX1_isAt_X1_look : GoodIn wsX1_isAt (wsV RX1 51 RX1 yX1_look wsX1_look) := goodIn_app (goodIn_of _ (by decide +kernel)) ggX1_isAt_X1_look
set_option maxRecDepth 20000 in
theorem ggX1_isAt_J0_charAt_5068e : GoodIn wsX1_isAt wsJ0_charAt_5068e := goodIn_r _ [12, 13, 14, 15, 16, 11, 17, 18, 19, 20, 21, 22, 23, 24, 25, 26, 27, 28, 29, 30, 31, 32, 33, 34, 35, 36, 37, 38, 39, 40, 41, 42, 43, 44, 45, 46, 47, 48] (by decide +kernel) (by decide +kernel)
set_option maxRecDepth 20000 in
theorem gX1_isAt_J0_charAt_5068e : GoodIn wsX1_isAt (wsV RX1 96 RJ0 yJ0_charAt_5068e wsJ0_charAt_5068e) := goodIn_app (goodIn_of _ (by decide +kernel)) ggX1_isAt_J0_charAt_5068e
theorem dX1_isAt_0 : decode cX1_isAt 0 = .ok (.iload_n 3, 1) := by decide +kernel
theorem dX1_isAt_1 : decode cX1_isAt 1 = .ok (.istore 5, 2) := by decide +kernel
theorem dX1_isAt_3 : decode cX1_isAt 3 = .ok (.iload 5, 2) := by decide +kernel
theorem dX1_isAt_5 : decode cX1_isAt 5 = .ok (.iload 4, 2) := by decide +kernel
theorem dX1_isAt_7 : decode cX1_isAt 7 = .ok (.if_icmp .ge 30, 3) := by decide +kernel
theorem dX1_isAt_10 : decode cX1_isAt 10 = .ok (.aload_n 0, 1) := by decide +kernel
theorem dX1_isAt_11 : decode cX1_isAt 11 = .ok (.iload_n 1, 1) := by decide +kernel
theorem dX1_isAt_12 : decode cX1_isAt 12 = .ok (.iload 5, 2) := by decide +kernel
theorem dX1_isAt_14 : decode cX1_isAt 14 = .ok (.iadd, 1) := by decide +kernel
theorem dX1_isAt_15 : decode cX1_isAt 15 = .ok (.iload_n 3, 1) := by decide +kernel
theorem dX1_isAt_16 : decode cX1_isAt 16 = .ok (.isub, 1) := by decide +kernel
theorem dX1_isAt_17 : decode cX1_isAt 17 = .ok (.invokevirtual 51, 3) := by decide +kernel
theorem dX1_isAt_20 : decode cX1_isAt 20 = .ok (.aload_n 2, 1) := by decide +kernel
theorem dX1_isAt_21 : decode cX1_isAt 21 = .ok (.iload 5, 2) := by decide +kernel
theorem dX1_isAt_23 : decode cX1_isAt 23 = .ok (.invokevirtual 96, 3) := by decide +kernel
theorem dX1_isAt_26 : decode cX1_isAt 26 = .ok (.if_icmp .eq 5, 3) := by decide +kernel
theorem dX1_isAt_29 : decode cX1_isAt 29 = .ok (.iconst 0, 1) := by decide +kernel
theorem dX1_isAt_30 : decode cX1_isAt 30 = .ok (.ireturn, 1) := by decide +kernel
theorem dX1_isAt_31 : decode cX1_isAt 31 = .ok (.iinc 5 1, 3) := by decide +kernel
theorem dX1_isAt_34 : decode cX1_isAt 34 = .ok (.goto (-31), 3) := by decide +kernel
theorem dX1_isAt_37 : decode cX1_isAt 37 = .ok (.iconst 1, 1) := by decide +kernel
theorem dX1_isAt_38 : decode cX1_isAt 38 = .ok (.ireturn, 1) := by decide +kernel
set_option maxRecDepth 20000 in
theorem ggX1_signEnd_J0_length_8abf5 : GoodIn wsX1_signEnd wsJ0_length_8abf5 := goodIn_r _ [5, 6, 7, 8, 9, 4, 10, 11, 12] (by decide +kernel) (by decide +kernel)
set_option maxRecDepth 20000 in
theorem gX1_signEnd_J0_length_8abf5 : GoodIn wsX1_signEnd (wsV RX1 104 RJ0 yJ0_length_8abf5 wsJ0_length_8abf5) := goodIn_app (goodIn_of _ (by decide +kernel)) ggX1_signEnd_J0_length_8abf5
set_option maxRecDepth 20000 in
theorem ggX1_signEnd_J0_charAt_5068e : GoodIn wsX1_signEnd wsJ0_charAt_5068e := goodIn_r _ [16, 6, 17, 18, 19, 4, 20, 11, 12, 21, 22, 23, 24, 25, 26, 27, 28, 29, 30, 31, 32, 33, 34, 35, 36, 37, 38, 39, 40, 41, 42, 43, 44, 45, 46, 47, 48, 49] (by decide +kernel) (by decide +kernel)
set_option maxRecDepth 20000 in
theorem gX1_signEnd_J0_charAt_5068e : GoodIn wsX1_signEnd (wsV RX1 96 RJ0 yJ0_charAt_5068e wsJ0_charAt_5068e) := goodIn_app (goodIn_of _ (by decide +kernel)) ggX1_signEnd_J0_charAt_5068e
set_option maxRecDepth 20000 in
theorem ggX1_signEnd_X1_isAt : GoodIn wsX1_signEnd wsX1_isAt := goodIn_r _ [54, 55, 56, 57, 53, 58, 59, 60, 13, 14, 15, 4, 16, 6, 17, 18, 19, 20, 11, 12, 21, 22, 23, 24, 25, 26, 27, 28, 29, 30, 31, 32, 33, 34, 35, 36, 37, 38, 39, 40, 41, 42, 43, 44, 45, 46, 47, 48, 49, 61, 62, 63, 64, 65, 66, 67, 68, 69, 70] (by decide +kernel) (by decide +kernel)
set_option maxRecDepth 20000 in
theorem gX1_signEnd_X1_isAt : GoodIn wsX1_signEnd (wsV RX1 108 RX1 yX1_isAt wsX1_isAt) := goodIn_app (goodIn_of _ (by decide +kernel)) ggX1_signEnd_X1_isAt
theorem dX1_signEnd_0 : decode cX1_signEnd 0 = .ok (.iconst (-1), 1) := by decide +kernel
theorem dX1_signEnd_1 : decode cX1_signEnd 1 = .ok (.istore_n 2, 1) := by decide +kernel
theorem dX1_signEnd_2 : decode cX1_signEnd 2 = .ok (.iconst 1, 1) := by decide +kernel
theorem dX1_signEnd_3 : decode cX1_signEnd 3 = .ok (.istore_n 3, 1) := by decide +kernel
theorem dX1_signEnd_4 : decode cX1_signEnd 4 = .ok (.iload_n 3, 1) := by decide +kernel
theorem dX1_signEnd_5 : decode cX1_signEnd 5 = .ok (.ldc 102, 2) := by decide +kernel
theorem dX1_signEnd_7 : decode cX1_signEnd 7 = .ok (.invokevirtual 104, 3) := by decide +kernel
theorem dX1_signEnd_10 : decode cX1_signEnd 10 = .ok (.if_icmp .ge 62, 3) := by decide +kernel
theorem dX1_signEnd_13 : decode cX1_signEnd 13 = .ok (.iload_n 3, 1) := by decide +kernel
theorem dX1_signEnd_14 : decode cX1_signEnd 14 = .ok (.istore 4, 2) := by decide +kernel
theorem dX1_signEnd_16 : decode cX1_signEnd 16 = .ok (.ldc 102, 2) := by decide +kernel
theorem dX1_signEnd_18 : decode cX1_signEnd 18 = .ok (.iload 4, 2) := by decide +kernel
theorem dX1_signEnd_20 : decode cX1_signEnd 20 = .ok (.invokevirtual 96, 3) := by decide +kernel
theorem dX1_signEnd_23 : decode cX1_signEnd 23 = .ok (.bipush 32, 2) := by decide +kernel
theorem dX1_signEnd_25 : decode cX1_signEnd 25 = .ok (.if_icmp .eq 9, 3) := by decide +kernel
theorem dX1_signEnd_28 : decode cX1_signEnd 28 = .ok (.iinc 4 1, 3) := by decide +kernel
theorem dX1_signEnd_31 : decode cX1_signEnd 31 = .ok (.goto (-15), 3) := by decide +kernel
theorem dX1_signEnd_34 : decode cX1_signEnd 34 = .ok (.aload_n 0, 1) := by decide +kernel
theorem dX1_signEnd_35 : decode cX1_signEnd 35 = .ok (.iload_n 1, 1) := by decide +kernel
theorem dX1_signEnd_36 : decode cX1_signEnd 36 = .ok (.ldc 102, 2) := by decide +kernel
theorem dX1_signEnd_38 : decode cX1_signEnd 38 = .ok (.iload_n 3, 1) := by decide +kernel
theorem dX1_signEnd_39 : decode cX1_signEnd 39 = .ok (.iload 4, 2) := by decide +kernel
theorem dX1_signEnd_41 : decode cX1_signEnd 41 = .ok (.invokevirtual 108, 3) := by decide +kernel
theorem dX1_signEnd_44 : decode cX1_signEnd 44 = .ok (.ifCond .eq 20, 3) := by decide +kernel
theorem dX1_signEnd_47 : decode cX1_signEnd 47 = .ok (.iload_n 1, 1) := by decide +kernel
theorem dX1_signEnd_48 : decode cX1_signEnd 48 = .ok (.iload 4, 2) := by decide +kernel
theorem dX1_signEnd_50 : decode cX1_signEnd 50 = .ok (.iadd, 1) := by decide +kernel
theorem dX1_signEnd_51 : decode cX1_signEnd 51 = .ok (.iload_n 3, 1) := by decide +kernel
theorem dX1_signEnd_52 : decode cX1_signEnd 52 = .ok (.isub, 1) := by decide +kernel
theorem dX1_signEnd_53 : decode cX1_signEnd 53 = .ok (.iload_n 2, 1) := by decide +kernel
theorem dX1_signEnd_54 : decode cX1_signEnd 54 = .ok (.if_icmp .le 10, 3) := by decide +kernel
theorem dX1_signEnd_57 : decode cX1_signEnd 57 = .ok (.iload_n 1, 1) := by decide +kernel
theorem dX1_signEnd_58 : decode cX1_signEnd 58 = .ok (.iload 4, 2) := by decide +kernel
theorem dX1_signEnd_60 : decode cX1_signEnd 60 = .ok (.iadd, 1) := by decide +kernel
theorem dX1_signEnd_61 : decode cX1_signEnd 61 = .ok (.iload_n 3, 1) := by decide +kernel
theorem dX1_signEnd_62 : decode cX1_signEnd 62 = .ok (.isub, 1) := by decide +kernel
theorem dX1_signEnd_63 : decode cX1_signEnd 63 = .ok (.istore_n 2, 1) := by decide +kernel
theorem dX1_signEnd_64 : decode cX1_signEnd 64 = .ok (.iload 4, 2) := by decide +kernel
theorem dX1_signEnd_66 : decode cX1_signEnd 66 = .ok (.iconst 1, 1) := by decide +kernel
theorem dX1_signEnd_67 : decode cX1_signEnd 67 = .ok (.iadd, 1) := by decide +kernel
theorem dX1_signEnd_68 : decode cX1_signEnd 68 = .ok (.istore_n 3, 1) := by decide +kernel
theorem dX1_signEnd_69 : decode cX1_signEnd 69 = .ok (.goto (-65), 3) := by decide +kernel
theorem dX1_signEnd_72 : decode cX1_signEnd 72 = .ok (.iload_n 2, 1) := by decide +kernel
theorem dX1_signEnd_73 : decode cX1_signEnd 73 = .ok (.ireturn, 1) := by decide +kernel
theorem dX1_isToken_0 : decode cX1_isToken 0 = .ok (.iload_n 1, 1) := by decide +kernel
theorem dX1_isToken_1 : decode cX1_isToken 1 = .ok (.ifCond .lt 15, 3) := by decide +kernel
theorem dX1_isToken_4 : decode cX1_isToken 4 = .ok (.iload_n 1, 1) := by decide +kernel
theorem dX1_isToken_5 : decode cX1_isToken 5 = .ok (.aload_n 0, 1) := by decide +kernel
theorem dX1_isToken_6 : decode cX1_isToken 6 = .ok (.getfield 58, 3) := by decide +kernel
theorem dX1_isToken_9 : decode cX1_isToken 9 = .ok (.if_icmp .ge 7, 3) := by decide +kernel
theorem dX1_isToken_12 : decode cX1_isToken 12 = .ok (.iconst 1, 1) := by decide +kernel
theorem dX1_isToken_13 : decode cX1_isToken 13 = .ok (.goto 4, 3) := by decide +kernel
theorem dX1_isToken_16 : decode cX1_isToken 16 = .ok (.iconst 0, 1) := by decide +kernel
theorem dX1_isToken_17 : decode cX1_isToken 17 = .ok (.ireturn, 1) := by decide +kernel
set_option maxRecDepth 20000 in
theorem ggX1_among_J0_length_8abf5 : GoodIn wsX1_among wsJ0_length_8abf5 := goodIn_r _ [7, 8, 9, 10, 11, 6, 12, 13, 14] (by decide +kernel) (by decide +kernel)
set_option maxRecDepth 20000 in
theorem gX1_among_J0_length_8abf5 : GoodIn wsX1_among (wsV RX1 104 RJ0 yJ0_length_8abf5 wsJ0_length_8abf5) := goodIn_app (goodIn_of _ (by decide +kernel)) ggX1_among_J0_length_8abf5
set_option maxRecDepth 20000 in
theorem ggX1_among_J0_charAt_5068e : GoodIn wsX1_among wsJ0_charAt_5068e := goodIn_r _ [18, 8, 19, 20, 21, 6, 22, 13, 14, 23, 24, 25, 26, 27, 28, 29, 30, 31, 32, 33, 34, 35, 36, 37, 38, 39, 40, 41, 42, 43, 44, 45, 46, 47, 48, 49, 50, 51] (by decide +kernel) (by decide +kernel)
set_option maxRecDepth 20000 in
theorem gX1_among_J0_charAt_5068e : GoodIn wsX1_among (wsV RX1 96 RJ0 yJ0_charAt_5068e wsJ0_charAt_5068e) := goodIn_app (goodIn_of _ (by decide +kernel)) ggX1_among_J0_charAt_5068e
set_option maxRecDepth 20000 in
theorem ggX1_among_X1_isAt : GoodIn wsX1_among wsX1_isAt := goodIn_r _ [56, 57, 58, 59, 55, 60, 61, 62, 15, 16, 17, 6, 18, 8, 19, 20, 21, 22, 13, 14, 23, 24, 25, 26, 27, 28, 29, 30, 31, 32, 33, 34, 35, 36, 37, 38, 39, 40, 41, 42, 43, 44, 45, 46, 47, 48, 49, 50, 51, 63, 64, 65, 66, 67, 68, 69, 70, 71, 72] (by decide +kernel) (by decide +kernel)
set_option maxRecDepth 20000 in
theorem gX1_among_X1_isAt : GoodIn wsX1_among (wsV RX1 108 RX1 yX1_isAt wsX1_isAt) := goodIn_app (goodIn_of _ (by decide +kernel)) ggX1_among_X1_isAt
theorem dX1_among_0 : decode cX1_among 0 = .ok (.iconst 0, 1) := by decide +kernel
theorem dX1_among_1 : decode cX1_among 1 = .ok (.istore_n 3, 1) := by decide +kernel
theorem dX1_among_2 : decode cX1_among 2 = .ok (.iconst 1, 1) := by decide +kernel
theorem dX1_among_3 : decode cX1_among 3 = .ok (.istore 4, 2) := by decide +kernel
theorem dX1_among_5 : decode cX1_among 5 = .ok (.iload 4, 2) := by decide +kernel
theorem dX1_among_7 : decode cX1_among 7 = .ok (.aload_n 2, 1) := by decide +kernel
theorem dX1_among_8 : decode cX1_among 8 = .ok (.invokevirtual 104, 3) := by decide +kernel
theorem dX1_among_11 : decode cX1_among 11 = .ok (.if_icmp .ge 77, 3) := by decide +kernel
theorem dX1_among_14 : decode cX1_among 14 = .ok (.iload 4, 2) := by decide +kernel
theorem dX1_among_16 : decode cX1_among 16 = .ok (.istore 5, 2) := by decide +kernel
theorem dX1_among_18 : decode cX1_among 18 = .ok (.aload_n 2, 1) := by decide +kernel
theorem dX1_among_19 : decode cX1_among 19 = .ok (.iload 5, 2) := by decide +kernel
theorem dX1_among_21 : decode cX1_among 21 = .ok (.invokevirtual 96, 3) := by decide +kernel
theorem dX1_among_24 : decode cX1_among 24 = .ok (.bipush 32, 2) := by decide +kernel
theorem dX1_among_26 : decode cX1_among 26 = .ok (.if_icmp .eq 9, 3) := by decide +kernel
theorem dX1_among_29 : decode cX1_among 29 = .ok (.iinc 5 1, 3) := by decide +kernel
theorem dX1_among_32 : decode cX1_among 32 = .ok (.goto (-14), 3) := by decide +kernel
theorem dX1_among_35 : decode cX1_among 35 = .ok (.iload 5, 2) := by decide +kernel
theorem dX1_among_37 : decode cX1_among 37 = .ok (.iload 4, 2) := by decide +kernel
theorem dX1_among_39 : decode cX1_among 39 = .ok (.isub, 1) := by decide +kernel
theorem dX1_among_40 : decode cX1_among 40 = .ok (.aload_n 0, 1) := by decide +kernel
theorem dX1_among_41 : decode cX1_among 41 = .ok (.getfield 23, 3) := by decide +kernel
theorem dX1_among_44 : decode cX1_among 44 = .ok (.iload_n 1, 1) := by decide +kernel
theorem dX1_among_45 : decode cX1_among 45 = .ok (.iaload, 1) := by decide +kernel
theorem dX1_among_46 : decode cX1_among 46 = .ok (.aload_n 0, 1) := by decide +kernel
theorem dX1_among_47 : decode cX1_among 47 = .ok (.getfield 20, 3) := by decide +kernel
theorem dX1_among_50 : decode cX1_among 50 = .ok (.iload_n 1, 1) := by decide +kernel
theorem dX1_among_51 : decode cX1_among 51 = .ok (.iaload, 1) := by decide +kernel
theorem dX1_among_52 : decode cX1_among 52 = .ok (.isub, 1) := by decide +kernel
theorem dX1_among_53 : decode cX1_among 53 = .ok (.if_icmp .ne 23, 3) := by decide +kernel
theorem dX1_among_56 : decode cX1_among 56 = .ok (.aload_n 0, 1) := by decide +kernel
theorem dX1_among_57 : decode cX1_among 57 = .ok (.aload_n 0, 1) := by decide +kernel
theorem dX1_among_58 : decode cX1_among 58 = .ok (.getfield 20, 3) := by decide +kernel
theorem dX1_among_61 : decode cX1_among 61 = .ok (.iload_n 1, 1) := by decide +kernel
theorem dX1_among_62 : decode cX1_among 62 = .ok (.iaload, 1) := by decide +kernel
theorem dX1_among_63 : decode cX1_among 63 = .ok (.aload_n 2, 1) := by decide +kernel
theorem dX1_among_64 : decode cX1_among 64 = .ok (.iload 4, 2) := by decide +kernel
theorem dX1_among_66 : decode cX1_among 66 = .ok (.iload 5, 2) := by decide +kernel
theorem dX1_among_68 : decode cX1_among 68 = .ok (.invokevirtual 108, 3) := by decide +kernel
theorem dX1_among_71 : decode cX1_among 71 = .ok (.ifCond .eq 5, 3) := by decide +kernel
theorem dX1_among_74 : decode cX1_among 74 = .ok (.iload_n 3, 1) := by decide +kernel
theorem dX1_among_75 : decode cX1_among 75 = .ok (.ireturn, 1) := by decide +kernel
theorem dX1_among_76 : decode cX1_among 76 = .ok (.iinc 3 1, 3) := by decide +kernel
theorem dX1_among_79 : decode cX1_among 79 = .ok (.iload 5, 2) := by decide +kernel
theorem dX1_among_81 : decode cX1_among 81 = .ok (.iconst 1, 1) := by decide +kernel
theorem dX1_among_82 : decode cX1_among 82 = .ok (.iadd, 1) := by decide +kernel
theorem dX1_among_83 : decode cX1_among 83 = .ok (.istore 4, 2) := by decide +kernel
theorem dX1_among_85 : decode cX1_among 85 = .ok (.goto (-80), 3) := by decide +kernel
theorem dX1_among_88 : decode cX1_among 88 = .ok (.iconst (-1), 1) := by decide +kernel
theorem dX1_among_89 : decode cX1_among 89 = .ok (.ireturn, 1) := by decide +kernel
theorem dX1_place_0 : decode cX1_place 0 = .ok (.aload_n 0, 1) := by decide +kernel
theorem dX1_place_1 : decode cX1_place 1 = .ok (.getfield 26, 3) := by decide +kernel
theorem dX1_place_4 : decode cX1_place 4 = .ok (.ireturn, 1) := by decide +kernel
theorem dX1_tokens_0 : decode cX1_tokens 0 = .ok (.aload_n 0, 1) := by decide +kernel
theorem dX1_tokens_1 : decode cX1_tokens 1 = .ok (.getfield 58, 3) := by decide +kernel
theorem dX1_tokens_4 : decode cX1_tokens 4 = .ok (.ireturn, 1) := by decide +kernel
set_option maxRecDepth 20000 in
theorem ggX1_kind_X1_isToken : GoodIn wsX1_kind wsX1_isToken := goodIn_r _ [6, 7, 73, 74, 75, 76, 77, 78, 79, 80, 81, 82] (by decide +kernel) (by decide +kernel)
set_option maxRecDepth 20000 in
theorem gX1_kind_X1_isToken : GoodIn wsX1_kind (wsV RX1 112 RX1 yX1_isToken wsX1_isToken) := goodIn_app (goodIn_of _ (by decide +kernel)) ggX1_kind_X1_isToken
set_option maxRecDepth 20000 in
theorem ggX1_kind_X1_among : GoodIn wsX1_kind wsX1_among := goodIn_r _ [11, 12, 13, 14, 15, 16, 17, 18, 19, 20, 21, 22, 23, 24, 25, 26, 27, 28, 29, 30, 31, 32, 33, 34, 35, 36, 37, 38, 39, 40, 41, 42, 43, 44, 45, 46, 47, 48, 49, 50, 51, 52, 53, 54, 55, 56, 57, 58, 59, 60, 61, 62, 63, 64, 65, 5, 66, 67, 68, 69, 70, 71, 72, 73, 74, 75, 76, 77, 78, 79, 80, 81, 82] (by decide +kernel) (by decide +kernel)
set_option maxRecDepth 20000 in
theorem gX1_kind_X1_among : GoodIn wsX1_kind (wsV RX1 117 RX1 yX1_among wsX1_among) := goodIn_app (goodIn_of _ (by decide +kernel)) ggX1_kind_X1_among
theorem dX1_kind_0 : decode cX1_kind 0 = .ok (.aload_n 0, 1) := by decide +kernel
theorem dX1_kind_1 : decode cX1_kind 1 = .ok (.iload_n 1, 1) := by decide +kernel
theorem dX1_kind_2 : decode cX1_kind 2 = .ok (.invokevirtual 112, 3) := by decide +kernel
theorem dX1_kind_5 : decode cX1_kind 5 = .ok (.ifCond .ne 7, 3) := by decide +kernel
theorem dX1_kind_8 : decode cX1_kind 8 = .ok (.iconst 0, 1) := by decide +kernel
theorem dX1_kind_9 : decode cX1_kind 9 = .ok (.goto 33, 3) := by decide +kernel
theorem dX1_kind_12 : decode cX1_kind 12 = .ok (.aload_n 0, 1) := by decide +kernel
theorem dX1_kind_13 : decode cX1_kind 13 = .ok (.getfield 16, 3) := by decide +kernel
theorem dX1_kind_16 : decode cX1_kind 16 = .ok (.iload_n 1, 1) := by decide +kernel
theorem dX1_kind_17 : decode cX1_kind 17 = .ok (.iaload, 1) := by decide +kernel
theorem dX1_kind_18 : decode cX1_kind 18 = .ok (.iconst 1, 1) := by decide +kernel
theorem dX1_kind_19 : decode cX1_kind 19 = .ok (.if_icmp .ne 17, 3) := by decide +kernel
theorem dX1_kind_22 : decode cX1_kind 22 = .ok (.aload_n 0, 1) := by decide +kernel
theorem dX1_kind_23 : decode cX1_kind 23 = .ok (.iload_n 1, 1) := by decide +kernel
theorem dX1_kind_24 : decode cX1_kind 24 = .ok (.ldc 115, 2) := by decide +kernel
theorem dX1_kind_26 : decode cX1_kind 26 = .ok (.invokevirtual 117, 3) := by decide +kernel
theorem dX1_kind_29 : decode cX1_kind 29 = .ok (.ifCond .lt 7, 3) := by decide +kernel
theorem dX1_kind_32 : decode cX1_kind 32 = .ok (.iconst 4, 1) := by decide +kernel
theorem dX1_kind_33 : decode cX1_kind 33 = .ok (.goto 9, 3) := by decide +kernel
theorem dX1_kind_36 : decode cX1_kind 36 = .ok (.aload_n 0, 1) := by decide +kernel
theorem dX1_kind_37 : decode cX1_kind 37 = .ok (.getfield 16, 3) := by decide +kernel
theorem dX1_kind_40 : decode cX1_kind 40 = .ok (.iload_n 1, 1) := by decide +kernel
theorem dX1_kind_41 : decode cX1_kind 41 = .ok (.iaload, 1) := by decide +kernel
theorem dX1_kind_42 : decode cX1_kind 42 = .ok (.ireturn, 1) := by decide +kernel
set_option maxRecDepth 20000 in
theorem ggX1_which_X1_kind : GoodIn wsX1_which wsX1_kind := goodIn_r _ [5, 6, 7, 8, 9, 4, 10, 11, 12, 13, 14, 15, 16, 17, 18, 19, 20, 21, 22, 23, 24, 25, 26, 27, 28, 29, 30, 31, 32, 33, 34, 35, 36, 37, 38, 39, 40, 41, 42, 43, 44, 45, 46, 47, 48, 49, 50, 51, 52, 53, 54, 55, 56, 57, 58, 59, 60, 61, 62, 63, 64, 65, 66, 67, 68, 69, 70, 71, 72, 73, 74, 75, 76, 77, 78, 79, 80, 81, 82, 83, 84, 85, 86] (by decide +kernel) (by decide +kernel)
set_option maxRecDepth 20000 in
theorem gX1_which_X1_kind : GoodIn wsX1_which (wsV RX1 121 RX1 yX1_kind wsX1_kind) := goodIn_app (goodIn_of _ (by decide +kernel)) ggX1_which_X1_kind
set_option maxRecDepth 20000 in
theorem ggX1_which_X1_among : GoodIn wsX1_which wsX1_among := goodIn_r _ [15, 16, 17, 18, 19, 20, 21, 22, 23, 24, 25, 26, 27, 28, 29, 30, 31, 32, 33, 34, 35, 36, 37, 38, 39, 40, 41, 42, 43, 44, 45, 46, 47, 48, 49, 50, 51, 52, 53, 54, 55, 56, 57, 58, 59, 60, 61, 62, 63, 64, 65, 66, 67, 68, 69, 4, 70, 71, 72, 73, 74, 75, 76, 77, 78, 79, 80, 81, 82, 83, 84, 85, 86] (by decide +kernel) (by decide +kernel)
set_option maxRecDepth 20000 in
theorem gX1_which_X1_among : GoodIn wsX1_which (wsV RX1 117 RX1 yX1_among wsX1_among) := goodIn_app (goodIn_of _ (by decide +kernel)) ggX1_which_X1_among
theorem dX1_which_0 : decode cX1_which 0 = .ok (.aload_n 0, 1) := by decide +kernel
theorem dX1_which_1 : decode cX1_which 1 = .ok (.iload_n 1, 1) := by decide +kernel
theorem dX1_which_2 : decode cX1_which 2 = .ok (.invokevirtual 121, 3) := by decide +kernel
theorem dX1_which_5 : decode cX1_which 5 = .ok (.istore_n 2, 1) := by decide +kernel
theorem dX1_which_6 : decode cX1_which 6 = .ok (.iload_n 2, 1) := by decide +kernel
theorem dX1_which_7 : decode cX1_which 7 = .ok (.iconst 4, 1) := by decide +kernel
theorem dX1_which_8 : decode cX1_which 8 = .ok (.if_icmp .ne 13, 3) := by decide +kernel
theorem dX1_which_11 : decode cX1_which 11 = .ok (.aload_n 0, 1) := by decide +kernel
theorem dX1_which_12 : decode cX1_which 12 = .ok (.iload_n 1, 1) := by decide +kernel
theorem dX1_which_13 : decode cX1_which 13 = .ok (.ldc 115, 2) := by decide +kernel
theorem dX1_which_15 : decode cX1_which 15 = .ok (.invokevirtual 117, 3) := by decide +kernel
theorem dX1_which_18 : decode cX1_which 18 = .ok (.goto 19, 3) := by decide +kernel
theorem dX1_which_21 : decode cX1_which 21 = .ok (.iload_n 2, 1) := by decide +kernel
theorem dX1_which_22 : decode cX1_which 22 = .ok (.iconst 5, 1) := by decide +kernel
theorem dX1_which_23 : decode cX1_which 23 = .ok (.if_icmp .ne 13, 3) := by decide +kernel
theorem dX1_which_26 : decode cX1_which 26 = .ok (.aload_n 0, 1) := by decide +kernel
theorem dX1_which_27 : decode cX1_which 27 = .ok (.iload_n 1, 1) := by decide +kernel
theorem dX1_which_28 : decode cX1_which 28 = .ok (.ldc 102, 2) := by decide +kernel
theorem dX1_which_30 : decode cX1_which 30 = .ok (.invokevirtual 117, 3) := by decide +kernel
theorem dX1_which_33 : decode cX1_which 33 = .ok (.goto 4, 3) := by decide +kernel
theorem dX1_which_36 : decode cX1_which 36 = .ok (.iconst (-1), 1) := by decide +kernel
theorem dX1_which_37 : decode cX1_which 37 = .ok (.ireturn, 1) := by decide +kernel
set_option maxRecDepth 20000 in
theorem ggX1_from_X1_isToken : GoodIn wsX1_from wsX1_isToken := goodIn_r _ [6, 7, 8, 9, 10, 11, 12, 13, 14, 15, 16, 17] (by decide +kernel) (by decide +kernel)
set_option maxRecDepth 20000 in
theorem gX1_from_X1_isToken : GoodIn wsX1_from (wsV RX1 112 RX1 yX1_isToken wsX1_isToken) := goodIn_app (goodIn_of _ (by decide +kernel)) ggX1_from_X1_isToken
theorem dX1_from_0 : decode cX1_from 0 = .ok (.aload_n 0, 1) := by decide +kernel
theorem dX1_from_1 : decode cX1_from 1 = .ok (.iload_n 1, 1) := by decide +kernel
theorem dX1_from_2 : decode cX1_from 2 = .ok (.invokevirtual 112, 3) := by decide +kernel
theorem dX1_from_5 : decode cX1_from 5 = .ok (.ifCond .eq 12, 3) := by decide +kernel
theorem dX1_from_8 : decode cX1_from 8 = .ok (.aload_n 0, 1) := by decide +kernel
theorem dX1_from_9 : decode cX1_from 9 = .ok (.getfield 20, 3) := by decide +kernel
theorem dX1_from_12 : decode cX1_from 12 = .ok (.iload_n 1, 1) := by decide +kernel
theorem dX1_from_13 : decode cX1_from 13 = .ok (.iaload, 1) := by decide +kernel
theorem dX1_from_14 : decode cX1_from 14 = .ok (.goto 4, 3) := by decide +kernel
theorem dX1_from_17 : decode cX1_from 17 = .ok (.iconst (-1), 1) := by decide +kernel
theorem dX1_from_18 : decode cX1_from 18 = .ok (.ireturn, 1) := by decide +kernel
set_option maxRecDepth 20000 in
theorem ggX1_length_X1_isToken : GoodIn wsX1_length wsX1_isToken := goodIn_r _ [7, 8, 9, 10, 11, 12, 13, 14, 15, 16, 17, 18] (by decide +kernel) (by decide +kernel)
set_option maxRecDepth 20000 in
theorem gX1_length_X1_isToken : GoodIn wsX1_length (wsV RX1 112 RX1 yX1_isToken wsX1_isToken) := goodIn_app (goodIn_of _ (by decide +kernel)) ggX1_length_X1_isToken
theorem dX1_length_0 : decode cX1_length 0 = .ok (.aload_n 0, 1) := by decide +kernel
theorem dX1_length_1 : decode cX1_length 1 = .ok (.iload_n 1, 1) := by decide +kernel
theorem dX1_length_2 : decode cX1_length 2 = .ok (.invokevirtual 112, 3) := by decide +kernel
theorem dX1_length_5 : decode cX1_length 5 = .ok (.ifCond .eq 19, 3) := by decide +kernel
theorem dX1_length_8 : decode cX1_length 8 = .ok (.aload_n 0, 1) := by decide +kernel
theorem dX1_length_9 : decode cX1_length 9 = .ok (.getfield 23, 3) := by decide +kernel
theorem dX1_length_12 : decode cX1_length 12 = .ok (.iload_n 1, 1) := by decide +kernel
theorem dX1_length_13 : decode cX1_length 13 = .ok (.iaload, 1) := by decide +kernel
theorem dX1_length_14 : decode cX1_length 14 = .ok (.aload_n 0, 1) := by decide +kernel
theorem dX1_length_15 : decode cX1_length 15 = .ok (.getfield 20, 3) := by decide +kernel
theorem dX1_length_18 : decode cX1_length 18 = .ok (.iload_n 1, 1) := by decide +kernel
theorem dX1_length_19 : decode cX1_length 19 = .ok (.iaload, 1) := by decide +kernel
theorem dX1_length_20 : decode cX1_length 20 = .ok (.isub, 1) := by decide +kernel
theorem dX1_length_21 : decode cX1_length 21 = .ok (.goto 4, 3) := by decide +kernel
theorem dX1_length_24 : decode cX1_length 24 = .ok (.iconst 0, 1) := by decide +kernel
theorem dX1_length_25 : decode cX1_length 25 = .ok (.ireturn, 1) := by decide +kernel
set_option maxRecDepth 20000 in
theorem ggX1_line_X1_isToken : GoodIn wsX1_line wsX1_isToken := goodIn_r _ [7, 8, 9, 10, 11, 12, 13, 14, 15, 16, 17, 18] (by decide +kernel) (by decide +kernel)
set_option maxRecDepth 20000 in
theorem gX1_line_X1_isToken : GoodIn wsX1_line (wsV RX1 112 RX1 yX1_isToken wsX1_isToken) := goodIn_app (goodIn_of _ (by decide +kernel)) ggX1_line_X1_isToken
theorem dX1_line_0 : decode cX1_line 0 = .ok (.aload_n 0, 1) := by decide +kernel
theorem dX1_line_1 : decode cX1_line 1 = .ok (.iload_n 1, 1) := by decide +kernel
theorem dX1_line_2 : decode cX1_line 2 = .ok (.invokevirtual 112, 3) := by decide +kernel
theorem dX1_line_5 : decode cX1_line 5 = .ok (.ifCond .ne 5, 3) := by decide +kernel
theorem dX1_line_8 : decode cX1_line 8 = .ok (.iconst 0, 1) := by decide +kernel
theorem dX1_line_9 : decode cX1_line 9 = .ok (.ireturn, 1) := by decide +kernel
theorem dX1_line_10 : decode cX1_line 10 = .ok (.iconst 1, 1) := by decide +kernel
theorem dX1_line_11 : decode cX1_line 11 = .ok (.istore_n 2, 1) := by decide +kernel
theorem dX1_line_12 : decode cX1_line 12 = .ok (.iconst 0, 1) := by decide +kernel
theorem dX1_line_13 : decode cX1_line 13 = .ok (.istore_n 3, 1) := by decide +kernel
theorem dX1_line_14 : decode cX1_line 14 = .ok (.iload_n 3, 1) := by decide +kernel
theorem dX1_line_15 : decode cX1_line 15 = .ok (.aload_n 0, 1) := by decide +kernel
theorem dX1_line_16 : decode cX1_line 16 = .ok (.getfield 20, 3) := by decide +kernel
theorem dX1_line_19 : decode cX1_line 19 = .ok (.iload_n 1, 1) := by decide +kernel
theorem dX1_line_20 : decode cX1_line 20 = .ok (.iaload, 1) := by decide +kernel
theorem dX1_line_21 : decode cX1_line 21 = .ok (.if_icmp .ge 23, 3) := by decide +kernel
theorem dX1_line_24 : decode cX1_line 24 = .ok (.aload_n 0, 1) := by decide +kernel
theorem dX1_line_25 : decode cX1_line 25 = .ok (.getfield 13, 3) := by decide +kernel
theorem dX1_line_28 : decode cX1_line 28 = .ok (.iload_n 3, 1) := by decide +kernel
theorem dX1_line_29 : decode cX1_line 29 = .ok (.baload, 1) := by decide +kernel
theorem dX1_line_30 : decode cX1_line 30 = .ok (.bipush 10, 2) := by decide +kernel
theorem dX1_line_32 : decode cX1_line 32 = .ok (.if_icmp .ne 6, 3) := by decide +kernel
theorem dX1_line_35 : decode cX1_line 35 = .ok (.iinc 2 1, 3) := by decide +kernel
theorem dX1_line_38 : decode cX1_line 38 = .ok (.iinc 3 1, 3) := by decide +kernel
theorem dX1_line_41 : decode cX1_line 41 = .ok (.goto (-27), 3) := by decide +kernel
theorem dX1_line_44 : decode cX1_line 44 = .ok (.iload_n 2, 1) := by decide +kernel
theorem dX1_line_45 : decode cX1_line 45 = .ok (.ireturn, 1) := by decide +kernel
set_option maxRecDepth 20000 in
theorem ggX1_codeAt_X1_look : GoodIn wsX1_codeAt wsX1_look := goodIn_r _ [5, 6, 7, 8, 9, 10, 11, 12, 13, 14, 15, 16, 17] (by decide +kernel) (by decide +kernel)
set_option maxRecDepth 20000 in
theorem gX1_codeAt_X1_look : GoodIn wsX1_codeAt (wsV RX1 51 RX1 yX1_look wsX1_look) := goodIn_app (goodIn_of _ (by decide +kernel)) ggX1_codeAt_X1_look
theorem dX1_codeAt_0 : decode cX1_codeAt 0 = .ok (.aload_n 0, 1) := by decide +kernel
theorem dX1_codeAt_1 : decode cX1_codeAt 1 = .ok (.iload_n 1, 1) := by decide +kernel
theorem dX1_codeAt_2 : decode cX1_codeAt 2 = .ok (.invokevirtual 51, 3) := by decide +kernel
theorem dX1_codeAt_5 : decode cX1_codeAt 5 = .ok (.bipush 92, 2) := by decide +kernel
theorem dX1_codeAt_7 : decode cX1_codeAt 7 = .ok (.if_icmp .eq 9, 3) := by decide +kernel
theorem dX1_codeAt_10 : decode cX1_codeAt 10 = .ok (.aload_n 0, 1) := by decide +kernel
theorem dX1_codeAt_11 : decode cX1_codeAt 11 = .ok (.iload_n 1, 1) := by decide +kernel
theorem dX1_codeAt_12 : decode cX1_codeAt 12 = .ok (.invokevirtual 51, 3) := by decide +kernel
theorem dX1_codeAt_15 : decode cX1_codeAt 15 = .ok (.ireturn, 1) := by decide +kernel
theorem dX1_codeAt_16 : decode cX1_codeAt 16 = .ok (.aload_n 0, 1) := by decide +kernel
theorem dX1_codeAt_17 : decode cX1_codeAt 17 = .ok (.iload_n 1, 1) := by decide +kernel
theorem dX1_codeAt_18 : decode cX1_codeAt 18 = .ok (.iconst 1, 1) := by decide +kernel
theorem dX1_codeAt_19 : decode cX1_codeAt 19 = .ok (.iadd, 1) := by decide +kernel
theorem dX1_codeAt_20 : decode cX1_codeAt 20 = .ok (.invokevirtual 51, 3) := by decide +kernel
theorem dX1_codeAt_23 : decode cX1_codeAt 23 = .ok (.istore_n 2, 1) := by decide +kernel
theorem dX1_codeAt_24 : decode cX1_codeAt 24 = .ok (.iload_n 2, 1) := by decide +kernel
theorem dX1_codeAt_25 : decode cX1_codeAt 25 = .ok (.bipush 110, 2) := by decide +kernel
theorem dX1_codeAt_27 : decode cX1_codeAt 27 = .ok (.if_icmp .ne 8, 3) := by decide +kernel
theorem dX1_codeAt_30 : decode cX1_codeAt 30 = .ok (.bipush 10, 2) := by decide +kernel
theorem dX1_codeAt_32 : decode cX1_codeAt 32 = .ok (.goto 14, 3) := by decide +kernel
theorem dX1_codeAt_35 : decode cX1_codeAt 35 = .ok (.iload_n 2, 1) := by decide +kernel
theorem dX1_codeAt_36 : decode cX1_codeAt 36 = .ok (.bipush 48, 2) := by decide +kernel
theorem dX1_codeAt_38 : decode cX1_codeAt 38 = .ok (.if_icmp .ne 7, 3) := by decide +kernel
theorem dX1_codeAt_41 : decode cX1_codeAt 41 = .ok (.iconst 0, 1) := by decide +kernel
theorem dX1_codeAt_42 : decode cX1_codeAt 42 = .ok (.goto 4, 3) := by decide +kernel
theorem dX1_codeAt_45 : decode cX1_codeAt 45 = .ok (.iload_n 2, 1) := by decide +kernel
theorem dX1_codeAt_46 : decode cX1_codeAt 46 = .ok (.ireturn, 1) := by decide +kernel
set_option maxRecDepth 20000 in
theorem ggX1_worth_X1_kind : GoodIn wsX1_worth wsX1_kind := goodIn_r _ [7, 8, 9, 10, 11, 6, 12, 13, 14, 15, 16, 17, 2, 1, 18, 19, 20, 21, 22, 23, 24, 25, 26, 27, 28, 29, 30, 31, 32, 33, 34, 35, 36, 37, 38, 39, 40, 41, 42, 43, 44, 45, 46, 47, 48, 49, 50, 51, 52, 53, 54, 55, 56, 57, 58, 59, 60, 61, 62, 63, 64, 65, 66, 67, 68, 69, 70, 71, 72, 73, 74, 75, 76, 87, 88, 89, 90, 91, 92, 93, 94, 95, 96] (by decide +kernel) (by decide +kernel)
set_option maxRecDepth 20000 in
theorem gX1_worth_X1_kind : GoodIn wsX1_worth (wsV RX1 121 RX1 yX1_kind wsX1_kind) := goodIn_app (goodIn_of _ (by decide +kernel)) ggX1_worth_X1_kind
set_option maxRecDepth 20000 in
theorem ggX1_worth_X1_look : GoodIn wsX1_worth wsX1_look := goodIn_r _ [74, 75, 76, 87, 88, 89, 90, 91, 92, 93, 94, 95, 96] (by decide +kernel) (by decide +kernel)
set_option maxRecDepth 20000 in
theorem gX1_worth_X1_look : GoodIn wsX1_worth (wsV RX1 51 RX1 yX1_look wsX1_look) := goodIn_app (goodIn_of _ (by decide +kernel)) ggX1_worth_X1_look
set_option maxRecDepth 20000 in
theorem ggX1_worth_X1_codeAt : GoodIn wsX1_worth wsX1_codeAt := goodIn_r _ [80, 71, 72, 73, 6, 74, 75, 76, 87, 88, 89, 90, 91, 92, 93, 94, 95, 96] (by decide +kernel) (by decide +kernel)
set_option maxRecDepth 20000 in
theorem gX1_worth_X1_codeAt : GoodIn wsX1_worth (wsV RX1 124 RX1 yX1_codeAt wsX1_codeAt) := goodIn_app (goodIn_of _ (by decide +kernel)) ggX1_worth_X1_codeAt
set_option maxRecDepth 20000 in
theorem ggX1_worth_X1_sixteen : GoodIn wsX1_worth wsX1_sixteen := goodIn_r _ [83, 84, 85, 6, 86] (by decide +kernel) (by decide +kernel)
set_option maxRecDepth 20000 in
theorem gX1_worth_X1_sixteen : GoodIn wsX1_worth (va_wsS RX1 83 yX1_sixteen wsX1_sixteen) := goodIn_app (goodIn_of _ (by decide +kernel)) ggX1_worth_X1_sixteen
theorem dX1_worth_0 : decode cX1_worth 0 = .ok (.aload_n 0, 1) := by decide +kernel
theorem dX1_worth_1 : decode cX1_worth 1 = .ok (.iload_n 1, 1) := by decide +kernel
theorem dX1_worth_2 : decode cX1_worth 2 = .ok (.invokevirtual 121, 3) := by decide +kernel
theorem dX1_worth_5 : decode cX1_worth 5 = .ok (.iconst 2, 1) := by decide +kernel
theorem dX1_worth_6 : decode cX1_worth 6 = .ok (.if_icmp .eq 5, 3) := by decide +kernel
theorem dX1_worth_9 : decode cX1_worth 9 = .ok (.iconst 0, 1) := by decide +kernel
theorem dX1_worth_10 : decode cX1_worth 10 = .ok (.ireturn, 1) := by decide +kernel
theorem dX1_worth_11 : decode cX1_worth 11 = .ok (.aload_n 0, 1) := by decide +kernel
theorem dX1_worth_12 : decode cX1_worth 12 = .ok (.getfield 20, 3) := by decide +kernel
theorem dX1_worth_15 : decode cX1_worth 15 = .ok (.iload_n 1, 1) := by decide +kernel
theorem dX1_worth_16 : decode cX1_worth 16 = .ok (.iaload, 1) := by decide +kernel
theorem dX1_worth_17 : decode cX1_worth 17 = .ok (.istore_n 2, 1) := by decide +kernel
theorem dX1_worth_18 : decode cX1_worth 18 = .ok (.aload_n 0, 1) := by decide +kernel
theorem dX1_worth_19 : decode cX1_worth 19 = .ok (.iload_n 2, 1) := by decide +kernel
theorem dX1_worth_20 : decode cX1_worth 20 = .ok (.invokevirtual 51, 3) := by decide +kernel
theorem dX1_worth_23 : decode cX1_worth 23 = .ok (.bipush 39, 2) := by decide +kernel
theorem dX1_worth_25 : decode cX1_worth 25 = .ok (.if_icmp .ne 11, 3) := by decide +kernel
theorem dX1_worth_28 : decode cX1_worth 28 = .ok (.aload_n 0, 1) := by decide +kernel
theorem dX1_worth_29 : decode cX1_worth 29 = .ok (.iload_n 2, 1) := by decide +kernel
theorem dX1_worth_30 : decode cX1_worth 30 = .ok (.iconst 1, 1) := by decide +kernel
theorem dX1_worth_31 : decode cX1_worth 31 = .ok (.iadd, 1) := by decide +kernel
theorem dX1_worth_32 : decode cX1_worth 32 = .ok (.invokevirtual 124, 3) := by decide +kernel
theorem dX1_worth_35 : decode cX1_worth 35 = .ok (.ireturn, 1) := by decide +kernel
theorem dX1_worth_36 : decode cX1_worth 36 = .ok (.iconst 0, 1) := by decide +kernel
theorem dX1_worth_37 : decode cX1_worth 37 = .ok (.istore_n 3, 1) := by decide +kernel
theorem dX1_worth_38 : decode cX1_worth 38 = .ok (.aload_n 0, 1) := by decide +kernel
theorem dX1_worth_39 : decode cX1_worth 39 = .ok (.getfield 23, 3) := by decide +kernel
theorem dX1_worth_42 : decode cX1_worth 42 = .ok (.iload_n 1, 1) := by decide +kernel
theorem dX1_worth_43 : decode cX1_worth 43 = .ok (.iaload, 1) := by decide +kernel
theorem dX1_worth_44 : decode cX1_worth 44 = .ok (.iload_n 2, 1) := by decide +kernel
theorem dX1_worth_45 : decode cX1_worth 45 = .ok (.isub, 1) := by decide +kernel
theorem dX1_worth_46 : decode cX1_worth 46 = .ok (.iconst 2, 1) := by decide +kernel
theorem dX1_worth_47 : decode cX1_worth 47 = .ok (.if_icmp .le 19, 3) := by decide +kernel
theorem dX1_worth_50 : decode cX1_worth 50 = .ok (.aload_n 0, 1) := by decide +kernel
theorem dX1_worth_51 : decode cX1_worth 51 = .ok (.iload_n 2, 1) := by decide +kernel
theorem dX1_worth_52 : decode cX1_worth 52 = .ok (.iconst 1, 1) := by decide +kernel
theorem dX1_worth_53 : decode cX1_worth 53 = .ok (.iadd, 1) := by decide +kernel
theorem dX1_worth_54 : decode cX1_worth 54 = .ok (.invokevirtual 51, 3) := by decide +kernel
theorem dX1_worth_57 : decode cX1_worth 57 = .ok (.bipush 120, 2) := by decide +kernel
theorem dX1_worth_59 : decode cX1_worth 59 = .ok (.if_icmp .ne 7, 3) := by decide +kernel
theorem dX1_worth_62 : decode cX1_worth 62 = .ok (.iconst 1, 1) := by decide +kernel
theorem dX1_worth_63 : decode cX1_worth 63 = .ok (.goto 4, 3) := by decide +kernel
theorem dX1_worth_66 : decode cX1_worth 66 = .ok (.iconst 0, 1) := by decide +kernel
theorem dX1_worth_67 : decode cX1_worth 67 = .ok (.istore 4, 2) := by decide +kernel
theorem dX1_worth_69 : decode cX1_worth 69 = .ok (.iload 4, 2) := by decide +kernel
theorem dX1_worth_71 : decode cX1_worth 71 = .ok (.ifCond .eq 9, 3) := by decide +kernel
theorem dX1_worth_74 : decode cX1_worth 74 = .ok (.iload_n 2, 1) := by decide +kernel
theorem dX1_worth_75 : decode cX1_worth 75 = .ok (.iconst 2, 1) := by decide +kernel
theorem dX1_worth_76 : decode cX1_worth 76 = .ok (.iadd, 1) := by decide +kernel
theorem dX1_worth_77 : decode cX1_worth 77 = .ok (.goto 4, 3) := by decide +kernel
theorem dX1_worth_80 : decode cX1_worth 80 = .ok (.iload_n 2, 1) := by decide +kernel
theorem dX1_worth_81 : decode cX1_worth 81 = .ok (.istore 5, 2) := by decide +kernel
theorem dX1_worth_83 : decode cX1_worth 83 = .ok (.iload 5, 2) := by decide +kernel
theorem dX1_worth_85 : decode cX1_worth 85 = .ok (.aload_n 0, 1) := by decide +kernel
theorem dX1_worth_86 : decode cX1_worth 86 = .ok (.getfield 23, 3) := by decide +kernel
theorem dX1_worth_89 : decode cX1_worth 89 = .ok (.iload_n 1, 1) := by decide +kernel
theorem dX1_worth_90 : decode cX1_worth 90 = .ok (.iaload, 1) := by decide +kernel
theorem dX1_worth_91 : decode cX1_worth 91 = .ok (.if_icmp .ge 46, 3) := by decide +kernel
theorem dX1_worth_94 : decode cX1_worth 94 = .ok (.iload 4, 2) := by decide +kernel
theorem dX1_worth_96 : decode cX1_worth 96 = .ok (.ifCond .eq 20, 3) := by decide +kernel
theorem dX1_worth_99 : decode cX1_worth 99 = .ok (.iload_n 3, 1) := by decide +kernel
theorem dX1_worth_100 : decode cX1_worth 100 = .ok (.bipush 16, 2) := by decide +kernel
theorem dX1_worth_102 : decode cX1_worth 102 = .ok (.imul, 1) := by decide +kernel
theorem dX1_worth_103 : decode cX1_worth 103 = .ok (.aload_n 0, 1) := by decide +kernel
theorem dX1_worth_104 : decode cX1_worth 104 = .ok (.iload 5, 2) := by decide +kernel
theorem dX1_worth_106 : decode cX1_worth 106 = .ok (.invokevirtual 51, 3) := by decide +kernel
theorem dX1_worth_109 : decode cX1_worth 109 = .ok (.invokestatic 83, 3) := by decide +kernel
theorem dX1_worth_112 : decode cX1_worth 112 = .ok (.iadd, 1) := by decide +kernel
theorem dX1_worth_113 : decode cX1_worth 113 = .ok (.goto 17, 3) := by decide +kernel
theorem dX1_worth_116 : decode cX1_worth 116 = .ok (.iload_n 3, 1) := by decide +kernel
theorem dX1_worth_117 : decode cX1_worth 117 = .ok (.bipush 10, 2) := by decide +kernel
theorem dX1_worth_119 : decode cX1_worth 119 = .ok (.imul, 1) := by decide +kernel
theorem dX1_worth_120 : decode cX1_worth 120 = .ok (.aload_n 0, 1) := by decide +kernel
theorem dX1_worth_121 : decode cX1_worth 121 = .ok (.iload 5, 2) := by decide +kernel
theorem dX1_worth_123 : decode cX1_worth 123 = .ok (.invokevirtual 51, 3) := by decide +kernel
theorem dX1_worth_126 : decode cX1_worth 126 = .ok (.iadd, 1) := by decide +kernel
theorem dX1_worth_127 : decode cX1_worth 127 = .ok (.bipush 48, 2) := by decide +kernel
theorem dX1_worth_129 : decode cX1_worth 129 = .ok (.isub, 1) := by decide +kernel
theorem dX1_worth_130 : decode cX1_worth 130 = .ok (.istore_n 3, 1) := by decide +kernel
theorem dX1_worth_131 : decode cX1_worth 131 = .ok (.iinc 5 1, 3) := by decide +kernel
theorem dX1_worth_134 : decode cX1_worth 134 = .ok (.goto (-51), 3) := by decide +kernel
theorem dX1_worth_137 : decode cX1_worth 137 = .ok (.iload_n 3, 1) := by decide +kernel
theorem dX1_worth_138 : decode cX1_worth 138 = .ok (.ireturn, 1) := by decide +kernel
set_option maxRecDepth 20000 in
theorem ggX1_codes_X1_kind : GoodIn wsX1_codes wsX1_kind := goodIn_r _ [7, 8, 9, 10, 11, 6, 12, 13, 14, 15, 16, 17, 2, 1, 18, 19, 20, 21, 22, 23, 24, 25, 26, 27, 28, 29, 30, 31, 32, 33, 34, 35, 36, 37, 38, 39, 40, 41, 42, 43, 44, 45, 46, 47, 48, 49, 50, 51, 52, 53, 54, 55, 56, 57, 58, 59, 60, 61, 62, 63, 64, 65, 66, 67, 68, 69, 70, 71, 72, 73, 74, 75, 76, 81, 82, 83, 84, 85, 86, 87, 88, 89, 90] (by decide +kernel) (by decide +kernel)
set_option maxRecDepth 20000 in
theorem gX1_codes_X1_kind : GoodIn wsX1_codes (wsV RX1 121 RX1 yX1_kind wsX1_kind) := goodIn_app (goodIn_of _ (by decide +kernel)) ggX1_codes_X1_kind
set_option maxRecDepth 20000 in
theorem ggX1_codes_X1_behind : GoodIn wsX1_codes wsX1_behind := goodIn_r _ [80, 71, 72, 73, 6, 74, 75, 76, 81, 82, 83, 84, 85, 86, 87, 88, 89, 90] (by decide +kernel) (by decide +kernel)
set_option maxRecDepth 20000 in
theorem gX1_codes_X1_behind : GoodIn wsX1_codes (wsV RX1 80 RX1 yX1_behind wsX1_behind) := goodIn_app (goodIn_of _ (by decide +kernel)) ggX1_codes_X1_behind
theorem dX1_codes_0 : decode cX1_codes 0 = .ok (.aload_n 0, 1) := by decide +kernel
theorem dX1_codes_1 : decode cX1_codes 1 = .ok (.iload_n 1, 1) := by decide +kernel
theorem dX1_codes_2 : decode cX1_codes 2 = .ok (.invokevirtual 121, 3) := by decide +kernel
theorem dX1_codes_5 : decode cX1_codes 5 = .ok (.iconst 3, 1) := by decide +kernel
theorem dX1_codes_6 : decode cX1_codes 6 = .ok (.if_icmp .eq 5, 3) := by decide +kernel
theorem dX1_codes_9 : decode cX1_codes 9 = .ok (.iconst (-1), 1) := by decide +kernel
theorem dX1_codes_10 : decode cX1_codes 10 = .ok (.ireturn, 1) := by decide +kernel
theorem dX1_codes_11 : decode cX1_codes 11 = .ok (.iconst 0, 1) := by decide +kernel
theorem dX1_codes_12 : decode cX1_codes 12 = .ok (.istore_n 2, 1) := by decide +kernel
theorem dX1_codes_13 : decode cX1_codes 13 = .ok (.aload_n 0, 1) := by decide +kernel
theorem dX1_codes_14 : decode cX1_codes 14 = .ok (.getfield 20, 3) := by decide +kernel
theorem dX1_codes_17 : decode cX1_codes 17 = .ok (.iload_n 1, 1) := by decide +kernel
theorem dX1_codes_18 : decode cX1_codes 18 = .ok (.iaload, 1) := by decide +kernel
theorem dX1_codes_19 : decode cX1_codes 19 = .ok (.iconst 1, 1) := by decide +kernel
theorem dX1_codes_20 : decode cX1_codes 20 = .ok (.iadd, 1) := by decide +kernel
theorem dX1_codes_21 : decode cX1_codes 21 = .ok (.istore_n 3, 1) := by decide +kernel
theorem dX1_codes_22 : decode cX1_codes 22 = .ok (.iload_n 3, 1) := by decide +kernel
theorem dX1_codes_23 : decode cX1_codes 23 = .ok (.aload_n 0, 1) := by decide +kernel
theorem dX1_codes_24 : decode cX1_codes 24 = .ok (.getfield 23, 3) := by decide +kernel
theorem dX1_codes_27 : decode cX1_codes 27 = .ok (.iload_n 1, 1) := by decide +kernel
theorem dX1_codes_28 : decode cX1_codes 28 = .ok (.iaload, 1) := by decide +kernel
theorem dX1_codes_29 : decode cX1_codes 29 = .ok (.iconst 1, 1) := by decide +kernel
theorem dX1_codes_30 : decode cX1_codes 30 = .ok (.isub, 1) := by decide +kernel
theorem dX1_codes_31 : decode cX1_codes 31 = .ok (.if_icmp .ge 17, 3) := by decide +kernel
theorem dX1_codes_34 : decode cX1_codes 34 = .ok (.iinc 2 1, 3) := by decide +kernel
theorem dX1_codes_37 : decode cX1_codes 37 = .ok (.aload_n 0, 1) := by decide +kernel
theorem dX1_codes_38 : decode cX1_codes 38 = .ok (.iload_n 3, 1) := by decide +kernel
theorem dX1_codes_39 : decode cX1_codes 39 = .ok (.bipush 34, 2) := by decide +kernel
theorem dX1_codes_41 : decode cX1_codes 41 = .ok (.invokevirtual 80, 3) := by decide +kernel
theorem dX1_codes_44 : decode cX1_codes 44 = .ok (.istore_n 3, 1) := by decide +kernel
theorem dX1_codes_45 : decode cX1_codes 45 = .ok (.goto (-23), 3) := by decide +kernel
theorem dX1_codes_48 : decode cX1_codes 48 = .ok (.iload_n 2, 1) := by decide +kernel
theorem dX1_codes_49 : decode cX1_codes 49 = .ok (.ireturn, 1) := by decide +kernel
set_option maxRecDepth 20000 in
theorem ggX1_code_X1_codes : GoodIn wsX1_code wsX1_codes := goodIn_r _ [6, 1, 7, 8, 9, 10, 5, 11, 12, 13, 14, 15, 16, 17, 18, 19, 20, 21, 22, 23, 24, 25, 26, 27, 28, 29, 30, 31, 32, 33, 34, 35, 36, 37, 38, 39, 40, 41, 42, 43, 44, 45, 46, 47, 48, 49, 50, 51, 52, 53, 54, 55, 56, 57, 58, 59, 60, 61, 62, 63, 64, 65, 66, 67, 68, 69, 70, 71, 72, 73, 74, 75, 76, 77, 78, 79, 80, 81, 82, 83, 84, 89, 90, 91, 92, 93, 94, 95, 96, 97, 98] (by decide +kernel) (by decide +kernel)
set_option maxRecDepth 20000 in
theorem gX1_code_X1_codes : GoodIn wsX1_code (wsV RX1 127 RX1 yX1_codes wsX1_codes) := goodIn_app (goodIn_of _ (by decide +kernel)) ggX1_code_X1_codes
set_option maxRecDepth 20000 in
theorem ggX1_code_X1_behind : GoodIn wsX1_code wsX1_behind := goodIn_r _ [84, 75, 76, 77, 5, 78, 79, 80, 89, 90, 91, 92, 93, 94, 95, 96, 97, 98] (by decide +kernel) (by decide +kernel)
set_option maxRecDepth 20000 in
theorem gX1_code_X1_behind : GoodIn wsX1_code (wsV RX1 80 RX1 yX1_behind wsX1_behind) := goodIn_app (goodIn_of _ (by decide +kernel)) ggX1_code_X1_behind
set_option maxRecDepth 20000 in
theorem ggX1_code_X1_codeAt : GoodIn wsX1_code wsX1_codeAt := goodIn_r _ [88, 75, 76, 77, 5, 78, 79, 80, 89, 90, 91, 92, 93, 94, 95, 96, 97, 98] (by decide +kernel) (by decide +kernel)
set_option maxRecDepth 20000 in
theorem gX1_code_X1_codeAt : GoodIn wsX1_code (wsV RX1 124 RX1 yX1_codeAt wsX1_codeAt) := goodIn_app (goodIn_of _ (by decide +kernel)) ggX1_code_X1_codeAt
theorem dX1_code_0 : decode cX1_code 0 = .ok (.iload_n 2, 1) := by decide +kernel
theorem dX1_code_1 : decode cX1_code 1 = .ok (.ifCond .lt 12, 3) := by decide +kernel
theorem dX1_code_4 : decode cX1_code 4 = .ok (.iload_n 2, 1) := by decide +kernel
theorem dX1_code_5 : decode cX1_code 5 = .ok (.aload_n 0, 1) := by decide +kernel
theorem dX1_code_6 : decode cX1_code 6 = .ok (.iload_n 1, 1) := by decide +kernel
theorem dX1_code_7 : decode cX1_code 7 = .ok (.invokevirtual 127, 3) := by decide +kernel
theorem dX1_code_10 : decode cX1_code 10 = .ok (.if_icmp .lt 5, 3) := by decide +kernel
theorem dX1_code_13 : decode cX1_code 13 = .ok (.iconst (-1), 1) := by decide +kernel
theorem dX1_code_14 : decode cX1_code 14 = .ok (.ireturn, 1) := by decide +kernel
theorem dX1_code_15 : decode cX1_code 15 = .ok (.aload_n 0, 1) := by decide +kernel
theorem dX1_code_16 : decode cX1_code 16 = .ok (.getfield 20, 3) := by decide +kernel
theorem dX1_code_19 : decode cX1_code 19 = .ok (.iload_n 1, 1) := by decide +kernel
theorem dX1_code_20 : decode cX1_code 20 = .ok (.iaload, 1) := by decide +kernel
theorem dX1_code_21 : decode cX1_code 21 = .ok (.iconst 1, 1) := by decide +kernel
theorem dX1_code_22 : decode cX1_code 22 = .ok (.iadd, 1) := by decide +kernel
theorem dX1_code_23 : decode cX1_code 23 = .ok (.istore_n 3, 1) := by decide +kernel
theorem dX1_code_24 : decode cX1_code 24 = .ok (.iconst 0, 1) := by decide +kernel
theorem dX1_code_25 : decode cX1_code 25 = .ok (.istore 4, 2) := by decide +kernel
theorem dX1_code_27 : decode cX1_code 27 = .ok (.iload 4, 2) := by decide +kernel
theorem dX1_code_29 : decode cX1_code 29 = .ok (.iload_n 2, 1) := by decide +kernel
theorem dX1_code_30 : decode cX1_code 30 = .ok (.if_icmp .ge 17, 3) := by decide +kernel
theorem dX1_code_33 : decode cX1_code 33 = .ok (.aload_n 0, 1) := by decide +kernel
theorem dX1_code_34 : decode cX1_code 34 = .ok (.iload_n 3, 1) := by decide +kernel
theorem dX1_code_35 : decode cX1_code 35 = .ok (.bipush 34, 2) := by decide +kernel
theorem dX1_code_37 : decode cX1_code 37 = .ok (.invokevirtual 80, 3) := by decide +kernel
theorem dX1_code_40 : decode cX1_code 40 = .ok (.istore_n 3, 1) := by decide +kernel
theorem dX1_code_41 : decode cX1_code 41 = .ok (.iinc 4 1, 3) := by decide +kernel
theorem dX1_code_44 : decode cX1_code 44 = .ok (.goto (-17), 3) := by decide +kernel
theorem dX1_code_47 : decode cX1_code 47 = .ok (.aload_n 0, 1) := by decide +kernel
theorem dX1_code_48 : decode cX1_code 48 = .ok (.iload_n 3, 1) := by decide +kernel
theorem dX1_code_49 : decode cX1_code 49 = .ok (.invokevirtual 124, 3) := by decide +kernel
theorem dX1_code_52 : decode cX1_code 52 = .ok (.ireturn, 1) := by decide +kernel
set_option maxRecDepth 20000 in
theorem ggX1_same_X1_isToken : GoodIn wsX1_same wsX1_isToken := goodIn_r _ [7, 8, 14, 15, 16, 17, 18, 19, 20, 21, 22, 23] (by decide +kernel) (by decide +kernel)
set_option maxRecDepth 20000 in
theorem gX1_same_X1_isToken : GoodIn wsX1_same (wsV RX1 112 RX1 yX1_isToken wsX1_isToken) := goodIn_app (goodIn_of _ (by decide +kernel)) ggX1_same_X1_isToken
set_option maxRecDepth 20000 in
theorem ggX1_same_X1_length : GoodIn wsX1_same wsX1_length := goodIn_r _ [12, 13, 2, 3, 4, 5, 6, 7, 8, 14, 15, 16, 17, 18, 19, 20, 21, 22, 23] (by decide +kernel) (by decide +kernel)
set_option maxRecDepth 20000 in
theorem gX1_same_X1_length : GoodIn wsX1_same (wsV RX1 130 RX1 yX1_length wsX1_length) := goodIn_app (goodIn_of _ (by decide +kernel)) ggX1_same_X1_length
theorem dX1_same_0 : decode cX1_same 0 = .ok (.aload_n 0, 1) := by decide +kernel
theorem dX1_same_1 : decode cX1_same 1 = .ok (.iload_n 1, 1) := by decide +kernel
theorem dX1_same_2 : decode cX1_same 2 = .ok (.invokevirtual 112, 3) := by decide +kernel
theorem dX1_same_5 : decode cX1_same 5 = .ok (.ifCond .eq 24, 3) := by decide +kernel
theorem dX1_same_8 : decode cX1_same 8 = .ok (.aload_n 0, 1) := by decide +kernel
theorem dX1_same_9 : decode cX1_same 9 = .ok (.iload_n 2, 1) := by decide +kernel
theorem dX1_same_10 : decode cX1_same 10 = .ok (.invokevirtual 112, 3) := by decide +kernel
theorem dX1_same_13 : decode cX1_same 13 = .ok (.ifCond .eq 16, 3) := by decide +kernel
theorem dX1_same_16 : decode cX1_same 16 = .ok (.aload_n 0, 1) := by decide +kernel
theorem dX1_same_17 : decode cX1_same 17 = .ok (.iload_n 1, 1) := by decide +kernel
theorem dX1_same_18 : decode cX1_same 18 = .ok (.invokevirtual 130, 3) := by decide +kernel
theorem dX1_same_21 : decode cX1_same 21 = .ok (.aload_n 0, 1) := by decide +kernel
theorem dX1_same_22 : decode cX1_same 22 = .ok (.iload_n 2, 1) := by decide +kernel
theorem dX1_same_23 : decode cX1_same 23 = .ok (.invokevirtual 130, 3) := by decide +kernel
theorem dX1_same_26 : decode cX1_same 26 = .ok (.if_icmp .eq 5, 3) := by decide +kernel
theorem dX1_same_29 : decode cX1_same 29 = .ok (.iconst 0, 1) := by decide +kernel
theorem dX1_same_30 : decode cX1_same 30 = .ok (.ireturn, 1) := by decide +kernel
theorem dX1_same_31 : decode cX1_same 31 = .ok (.iconst 0, 1) := by decide +kernel
theorem dX1_same_32 : decode cX1_same 32 = .ok (.istore_n 3, 1) := by decide +kernel
theorem dX1_same_33 : decode cX1_same 33 = .ok (.iload_n 3, 1) := by decide +kernel
theorem dX1_same_34 : decode cX1_same 34 = .ok (.aload_n 0, 1) := by decide +kernel
theorem dX1_same_35 : decode cX1_same 35 = .ok (.iload_n 1, 1) := by decide +kernel
theorem dX1_same_36 : decode cX1_same 36 = .ok (.invokevirtual 130, 3) := by decide +kernel
theorem dX1_same_39 : decode cX1_same 39 = .ok (.if_icmp .ge 40, 3) := by decide +kernel
theorem dX1_same_42 : decode cX1_same 42 = .ok (.aload_n 0, 1) := by decide +kernel
theorem dX1_same_43 : decode cX1_same 43 = .ok (.getfield 13, 3) := by decide +kernel
theorem dX1_same_46 : decode cX1_same 46 = .ok (.aload_n 0, 1) := by decide +kernel
theorem dX1_same_47 : decode cX1_same 47 = .ok (.getfield 20, 3) := by decide +kernel
theorem dX1_same_50 : decode cX1_same 50 = .ok (.iload_n 1, 1) := by decide +kernel
theorem dX1_same_51 : decode cX1_same 51 = .ok (.iaload, 1) := by decide +kernel
theorem dX1_same_52 : decode cX1_same 52 = .ok (.iload_n 3, 1) := by decide +kernel
theorem dX1_same_53 : decode cX1_same 53 = .ok (.iadd, 1) := by decide +kernel
theorem dX1_same_54 : decode cX1_same 54 = .ok (.baload, 1) := by decide +kernel
theorem dX1_same_55 : decode cX1_same 55 = .ok (.aload_n 0, 1) := by decide +kernel
theorem dX1_same_56 : decode cX1_same 56 = .ok (.getfield 13, 3) := by decide +kernel
theorem dX1_same_59 : decode cX1_same 59 = .ok (.aload_n 0, 1) := by decide +kernel
theorem dX1_same_60 : decode cX1_same 60 = .ok (.getfield 20, 3) := by decide +kernel
theorem dX1_same_63 : decode cX1_same 63 = .ok (.iload_n 2, 1) := by decide +kernel
theorem dX1_same_64 : decode cX1_same 64 = .ok (.iaload, 1) := by decide +kernel
theorem dX1_same_65 : decode cX1_same 65 = .ok (.iload_n 3, 1) := by decide +kernel
theorem dX1_same_66 : decode cX1_same 66 = .ok (.iadd, 1) := by decide +kernel
theorem dX1_same_67 : decode cX1_same 67 = .ok (.baload, 1) := by decide +kernel
theorem dX1_same_68 : decode cX1_same 68 = .ok (.if_icmp .eq 5, 3) := by decide +kernel
theorem dX1_same_71 : decode cX1_same 71 = .ok (.iconst 0, 1) := by decide +kernel
theorem dX1_same_72 : decode cX1_same 72 = .ok (.ireturn, 1) := by decide +kernel
theorem dX1_same_73 : decode cX1_same 73 = .ok (.iinc 3 1, 3) := by decide +kernel
theorem dX1_same_76 : decode cX1_same 76 = .ok (.goto (-43), 3) := by decide +kernel
theorem dX1_same_79 : decode cX1_same 79 = .ok (.iconst 1, 1) := by decide +kernel
theorem dX1_same_80 : decode cX1_same 80 = .ok (.ireturn, 1) := by decide +kernel
