theorem dX0_init_0 : decode cX0_init 0 = .ok (.aload_n 0, 1) := by decide +kernel
theorem dX0_init_1 : decode cX0_init 1 = .ok (.invokespecial 1, 3) := by decide +kernel
theorem dX0_init_4 : decode cX0_init 4 = .ok (.aload_n 0, 1) := by decide +kernel
theorem dX0_init_5 : decode cX0_init 5 = .ok (.sipush 16000, 3) := by decide +kernel
theorem dX0_init_8 : decode cX0_init 8 = .ok (.newarray .byte, 2) := by decide +kernel
theorem dX0_init_10 : decode cX0_init 10 = .ok (.putfield 9, 3) := by decide +kernel
theorem dX0_init_13 : decode cX0_init 13 = .ok (.aload_n 0, 1) := by decide +kernel
theorem dX0_init_14 : decode cX0_init 14 = .ok (.sipush 16000, 3) := by decide +kernel
theorem dX0_init_17 : decode cX0_init 17 = .ok (.newarray .byte, 2) := by decide +kernel
theorem dX0_init_19 : decode cX0_init 19 = .ok (.putfield 13, 3) := by decide +kernel
theorem dX0_init_22 : decode cX0_init 22 = .ok (.aload_n 0, 1) := by decide +kernel
theorem dX0_init_23 : decode cX0_init 23 = .ok (.sipush 16000, 3) := by decide +kernel
theorem dX0_init_26 : decode cX0_init 26 = .ok (.newarray .int, 2) := by decide +kernel
theorem dX0_init_28 : decode cX0_init 28 = .ok (.putfield 16, 3) := by decide +kernel
theorem dX0_init_31 : decode cX0_init 31 = .ok (.aload_n 0, 1) := by decide +kernel
theorem dX0_init_32 : decode cX0_init 32 = .ok (.sipush 16000, 3) := by decide +kernel
theorem dX0_init_35 : decode cX0_init 35 = .ok (.newarray .int, 2) := by decide +kernel
theorem dX0_init_37 : decode cX0_init 37 = .ok (.putfield 20, 3) := by decide +kernel
theorem dX0_init_40 : decode cX0_init 40 = .ok (.aload_n 0, 1) := by decide +kernel
theorem dX0_init_41 : decode cX0_init 41 = .ok (.sipush 16000, 3) := by decide +kernel
theorem dX0_init_44 : decode cX0_init 44 = .ok (.newarray .int, 2) := by decide +kernel
theorem dX0_init_46 : decode cX0_init 46 = .ok (.putfield 23, 3) := by decide +kernel
theorem dX0_init_49 : decode cX0_init 49 = .ok (.aload_n 0, 1) := by decide +kernel
theorem dX0_init_50 : decode cX0_init 50 = .ok (.sipush 16000, 3) := by decide +kernel
theorem dX0_init_53 : decode cX0_init 53 = .ok (.newarray .int, 2) := by decide +kernel
theorem dX0_init_55 : decode cX0_init 55 = .ok (.putfield 26, 3) := by decide +kernel
theorem dX0_init_58 : decode cX0_init 58 = .ok (.aload_n 0, 1) := by decide +kernel
theorem dX0_init_59 : decode cX0_init 59 = .ok (.sipush 16000, 3) := by decide +kernel
theorem dX0_init_62 : decode cX0_init 62 = .ok (.newarray .int, 2) := by decide +kernel
theorem dX0_init_64 : decode cX0_init 64 = .ok (.putfield 29, 3) := by decide +kernel
theorem dX0_init_67 : decode cX0_init 67 = .ok (.aload_n 0, 1) := by decide +kernel
theorem dX0_init_68 : decode cX0_init 68 = .ok (.iconst 0, 1) := by decide +kernel
theorem dX0_init_69 : decode cX0_init 69 = .ok (.putfield 32, 3) := by decide +kernel
theorem dX0_init_72 : decode cX0_init 72 = .ok (.aload_n 0, 1) := by decide +kernel
theorem dX0_init_73 : decode cX0_init 73 = .ok (.iconst 0, 1) := by decide +kernel
theorem dX0_init_74 : decode cX0_init 74 = .ok (.putfield 36, 3) := by decide +kernel
theorem dX0_init_77 : decode cX0_init 77 = .ok (.aload_n 0, 1) := by decide +kernel
theorem dX0_init_78 : decode cX0_init 78 = .ok (.iconst 0, 1) := by decide +kernel
theorem dX0_init_79 : decode cX0_init 79 = .ok (.putfield 39, 3) := by decide +kernel
theorem dX0_init_82 : decode cX0_init 82 = .ok (.aload_n 0, 1) := by decide +kernel
theorem dX0_init_83 : decode cX0_init 83 = .ok (.iconst 1, 1) := by decide +kernel
theorem dX0_init_84 : decode cX0_init 84 = .ok (.putfield 42, 3) := by decide +kernel
theorem dX0_init_87 : decode cX0_init 87 = .ok (.aload_n 0, 1) := by decide +kernel
theorem dX0_init_88 : decode cX0_init 88 = .ok (.iconst (-1), 1) := by decide +kernel
theorem dX0_init_89 : decode cX0_init 89 = .ok (.putfield 45, 3) := by decide +kernel
theorem dX0_init_92 : decode cX0_init 92 = .ok (.aload_n 0, 1) := by decide +kernel
theorem dX0_init_93 : decode cX0_init 93 = .ok (.iconst 0, 1) := by decide +kernel
theorem dX0_init_94 : decode cX0_init 94 = .ok (.putfield 48, 3) := by decide +kernel
theorem dX0_init_97 : decode cX0_init 97 = .ok (.return_, 1) := by decide +kernel
set_option maxRecDepth 20000 in
theorem ggX0_feed_X0_putInt : GoodIn wsX0_feed wsX0_putInt := goodIn_r _ [8, 9, 10, 11, 7, 12, 1, 13, 14, 15, 16, 17, 18, 19, 20, 21, 22, 23, 24, 25, 26] (by decide +kernel) (by decide +kernel)
set_option maxRecDepth 20000 in
theorem gX0_feed_X0_putInt : GoodIn wsX0_feed (wsV RX0 52 RX0 yX0_putInt wsX0_putInt) := goodIn_app (goodIn_of _ (by decide +kernel)) ggX0_feed_X0_putInt
theorem dX0_feed_0 : decode cX0_feed 0 = .ok (.aload_n 0, 1) := by decide +kernel
theorem dX0_feed_1 : decode cX0_feed 1 = .ok (.getfield 32, 3) := by decide +kernel
theorem dX0_feed_4 : decode cX0_feed 4 = .ok (.bipush 20, 2) := by decide +kernel
theorem dX0_feed_6 : decode cX0_feed 6 = .ok (.iadd, 1) := by decide +kernel
theorem dX0_feed_7 : decode cX0_feed 7 = .ok (.sipush 16000, 3) := by decide +kernel
theorem dX0_feed_10 : decode cX0_feed 10 = .ok (.if_icmp .gt 15, 3) := by decide +kernel
theorem dX0_feed_13 : decode cX0_feed 13 = .ok (.aload_n 0, 1) := by decide +kernel
theorem dX0_feed_14 : decode cX0_feed 14 = .ok (.getfield 36, 3) := by decide +kernel
theorem dX0_feed_17 : decode cX0_feed 17 = .ok (.bipush 20, 2) := by decide +kernel
theorem dX0_feed_19 : decode cX0_feed 19 = .ok (.iadd, 1) := by decide +kernel
theorem dX0_feed_20 : decode cX0_feed 20 = .ok (.ldc 51, 2) := by decide +kernel
theorem dX0_feed_22 : decode cX0_feed 22 = .ok (.if_icmp .le 5, 3) := by decide +kernel
theorem dX0_feed_25 : decode cX0_feed 25 = .ok (.iconst (-1), 1) := by decide +kernel
theorem dX0_feed_26 : decode cX0_feed 26 = .ok (.ireturn, 1) := by decide +kernel
theorem dX0_feed_27 : decode cX0_feed 27 = .ok (.aload_n 0, 1) := by decide +kernel
theorem dX0_feed_28 : decode cX0_feed 28 = .ok (.iload_n 1, 1) := by decide +kernel
theorem dX0_feed_29 : decode cX0_feed 29 = .ok (.invokevirtual 52, 3) := by decide +kernel
theorem dX0_feed_32 : decode cX0_feed 32 = .ok (.aload_n 0, 1) := by decide +kernel
theorem dX0_feed_33 : decode cX0_feed 33 = .ok (.iload_n 2, 1) := by decide +kernel
theorem dX0_feed_34 : decode cX0_feed 34 = .ok (.invokevirtual 52, 3) := by decide +kernel
theorem dX0_feed_37 : decode cX0_feed 37 = .ok (.aload_n 0, 1) := by decide +kernel
theorem dX0_feed_38 : decode cX0_feed 38 = .ok (.iload_n 3, 1) := by decide +kernel
theorem dX0_feed_39 : decode cX0_feed 39 = .ok (.invokevirtual 52, 3) := by decide +kernel
theorem dX0_feed_42 : decode cX0_feed 42 = .ok (.aload_n 0, 1) := by decide +kernel
theorem dX0_feed_43 : decode cX0_feed 43 = .ok (.iload 4, 2) := by decide +kernel
theorem dX0_feed_45 : decode cX0_feed 45 = .ok (.invokevirtual 52, 3) := by decide +kernel
theorem dX0_feed_48 : decode cX0_feed 48 = .ok (.aload_n 0, 1) := by decide +kernel
theorem dX0_feed_49 : decode cX0_feed 49 = .ok (.iload 5, 2) := by decide +kernel
theorem dX0_feed_51 : decode cX0_feed 51 = .ok (.invokevirtual 52, 3) := by decide +kernel
theorem dX0_feed_54 : decode cX0_feed 54 = .ok (.aload_n 0, 1) := by decide +kernel
theorem dX0_feed_55 : decode cX0_feed 55 = .ok (.dup, 1) := by decide +kernel
theorem dX0_feed_56 : decode cX0_feed 56 = .ok (.getfield 36, 3) := by decide +kernel
theorem dX0_feed_59 : decode cX0_feed 59 = .ok (.bipush 20, 2) := by decide +kernel
theorem dX0_feed_61 : decode cX0_feed 61 = .ok (.iadd, 1) := by decide +kernel
theorem dX0_feed_62 : decode cX0_feed 62 = .ok (.putfield 36, 3) := by decide +kernel
theorem dX0_feed_65 : decode cX0_feed 65 = .ok (.aload_n 0, 1) := by decide +kernel
theorem dX0_feed_66 : decode cX0_feed 66 = .ok (.getfield 32, 3) := by decide +kernel
theorem dX0_feed_69 : decode cX0_feed 69 = .ok (.ireturn, 1) := by decide +kernel
theorem dX0_end_0 : decode cX0_end 0 = .ok (.iload_n 1, 1) := by decide +kernel
theorem dX0_end_1 : decode cX0_end 1 = .ok (.ifCond .lt 11, 3) := by decide +kernel
theorem dX0_end_4 : decode cX0_end 4 = .ok (.iload_n 1, 1) := by decide +kernel
theorem dX0_end_5 : decode cX0_end 5 = .ok (.aload_n 0, 1) := by decide +kernel
theorem dX0_end_6 : decode cX0_end 6 = .ok (.getfield 32, 3) := by decide +kernel
theorem dX0_end_9 : decode cX0_end 9 = .ok (.if_icmp .le 5, 3) := by decide +kernel
theorem dX0_end_12 : decode cX0_end 12 = .ok (.iconst (-1), 1) := by decide +kernel
theorem dX0_end_13 : decode cX0_end 13 = .ok (.ireturn, 1) := by decide +kernel
theorem dX0_end_14 : decode cX0_end 14 = .ok (.aload_n 0, 1) := by decide +kernel
theorem dX0_end_15 : decode cX0_end 15 = .ok (.iload_n 1, 1) := by decide +kernel
theorem dX0_end_16 : decode cX0_end 16 = .ok (.putfield 32, 3) := by decide +kernel
theorem dX0_end_19 : decode cX0_end 19 = .ok (.iload_n 1, 1) := by decide +kernel
theorem dX0_end_20 : decode cX0_end 20 = .ok (.ireturn, 1) := by decide +kernel
set_option maxRecDepth 20000 in
theorem ggX0_cut_X0_takeTray : GoodIn wsX0_cut wsX0_takeTray := goodIn_r _ [8, 9, 10, 11, 1, 12, 2, 3, 130, 131, 132, 133, 134, 135, 136, 137, 138, 139, 140, 141, 142] (by decide +kernel) (by decide +kernel)
set_option maxRecDepth 20000 in
theorem gX0_cut_X0_takeTray : GoodIn wsX0_cut (wsV RX0 56 RX0 yX0_takeTray wsX0_takeTray) := goodIn_app (goodIn_of _ (by decide +kernel)) ggX0_cut_X0_takeTray
set_option maxRecDepth 20000 in
theorem ggX0_cut_X0_pastBlankOrToken : GoodIn wsX0_cut wsX0_pastBlankOrToken := goodIn_r _ [16, 17, 18, 19, 7, 20, 1, 9, 21, 22, 23, 24, 25, 26, 27, 12, 28, 29, 30, 31, 32, 33, 34, 35, 36, 37, 38, 2, 39, 40, 41, 42, 43, 44, 45, 46, 47, 48, 49, 50, 51, 52, 53, 54, 55, 56, 57, 58, 59, 60, 61, 62, 63, 64, 3, 65, 66, 67, 68, 69, 70, 71, 72, 73, 74, 75, 76, 77, 78, 79, 80, 81, 82, 83, 84, 85, 86, 87, 88, 89, 90, 91, 92, 93, 94, 95, 96, 97, 98, 99, 100, 101, 102, 103, 104, 105, 106, 107, 108, 109, 110, 111, 112, 113, 114, 115, 116, 117, 118, 119, 120, 121, 122, 123, 124, 125, 126, 127, 128, 129, 130, 131, 132, 133, 134, 135, 136, 137, 138, 139, 140, 141, 142] (by decide +kernel) (by decide +kernel)
set_option maxRecDepth 20000 in
theorem gX0_cut_X0_pastBlankOrToken : GoodIn wsX0_cut (wsV RX0 59 RX0 yX0_pastBlankOrToken wsX0_pastBlankOrToken) := goodIn_app (goodIn_of _ (by decide +kernel)) ggX0_cut_X0_pastBlankOrToken
theorem dX0_cut_0 : decode cX0_cut 0 = .ok (.aload_n 0, 1) := by decide +kernel
theorem dX0_cut_1 : decode cX0_cut 1 = .ok (.invokevirtual 56, 3) := by decide +kernel
theorem dX0_cut_4 : decode cX0_cut 4 = .ok (.iconst 0, 1) := by decide +kernel
theorem dX0_cut_5 : decode cX0_cut 5 = .ok (.istore_n 1, 1) := by decide +kernel
theorem dX0_cut_6 : decode cX0_cut 6 = .ok (.iconst 0, 1) := by decide +kernel
theorem dX0_cut_7 : decode cX0_cut 7 = .ok (.istore_n 2, 1) := by decide +kernel
theorem dX0_cut_8 : decode cX0_cut 8 = .ok (.iload_n 2, 1) := by decide +kernel
theorem dX0_cut_9 : decode cX0_cut 9 = .ok (.aload_n 0, 1) := by decide +kernel
theorem dX0_cut_10 : decode cX0_cut 10 = .ok (.getfield 39, 3) := by decide +kernel
theorem dX0_cut_13 : decode cX0_cut 13 = .ok (.if_icmp .ge 30, 3) := by decide +kernel
theorem dX0_cut_16 : decode cX0_cut 16 = .ok (.iload_n 1, 1) := by decide +kernel
theorem dX0_cut_17 : decode cX0_cut 17 = .ok (.aload_n 0, 1) := by decide +kernel
theorem dX0_cut_18 : decode cX0_cut 18 = .ok (.getfield 39, 3) := by decide +kernel
theorem dX0_cut_21 : decode cX0_cut 21 = .ok (.if_icmp .ge 22, 3) := by decide +kernel
theorem dX0_cut_24 : decode cX0_cut 24 = .ok (.aload_n 0, 1) := by decide +kernel
theorem dX0_cut_25 : decode cX0_cut 25 = .ok (.getfield 45, 3) := by decide +kernel
theorem dX0_cut_28 : decode cX0_cut 28 = .ok (.ifCond .ge 15, 3) := by decide +kernel
theorem dX0_cut_31 : decode cX0_cut 31 = .ok (.aload_n 0, 1) := by decide +kernel
theorem dX0_cut_32 : decode cX0_cut 32 = .ok (.iload_n 1, 1) := by decide +kernel
theorem dX0_cut_33 : decode cX0_cut 33 = .ok (.invokevirtual 59, 3) := by decide +kernel
theorem dX0_cut_36 : decode cX0_cut 36 = .ok (.istore_n 1, 1) := by decide +kernel
theorem dX0_cut_37 : decode cX0_cut 37 = .ok (.iinc 2 1, 3) := by decide +kernel
theorem dX0_cut_40 : decode cX0_cut 40 = .ok (.goto (-32), 3) := by decide +kernel
theorem dX0_cut_43 : decode cX0_cut 43 = .ok (.aload_n 0, 1) := by decide +kernel
theorem dX0_cut_44 : decode cX0_cut 44 = .ok (.getfield 45, 3) := by decide +kernel
theorem dX0_cut_47 : decode cX0_cut 47 = .ok (.ifCond .ge 10, 3) := by decide +kernel
theorem dX0_cut_50 : decode cX0_cut 50 = .ok (.aload_n 0, 1) := by decide +kernel
theorem dX0_cut_51 : decode cX0_cut 51 = .ok (.getfield 48, 3) := by decide +kernel
theorem dX0_cut_54 : decode cX0_cut 54 = .ok (.goto 4, 3) := by decide +kernel
theorem dX0_cut_57 : decode cX0_cut 57 = .ok (.iconst (-1), 1) := by decide +kernel
theorem dX0_cut_58 : decode cX0_cut 58 = .ok (.ireturn, 1) := by decide +kernel
theorem dX0_place_0 : decode cX0_place 0 = .ok (.aload_n 0, 1) := by decide +kernel
theorem dX0_place_1 : decode cX0_place 1 = .ok (.getfield 45, 3) := by decide +kernel
theorem dX0_place_4 : decode cX0_place 4 = .ok (.ireturn, 1) := by decide +kernel
theorem dX0_tokens_0 : decode cX0_tokens 0 = .ok (.aload_n 0, 1) := by decide +kernel
theorem dX0_tokens_1 : decode cX0_tokens 1 = .ok (.getfield 48, 3) := by decide +kernel
theorem dX0_tokens_4 : decode cX0_tokens 4 = .ok (.ireturn, 1) := by decide +kernel
set_option maxRecDepth 20000 in
theorem ggX0_kind_X0_isToken : GoodIn wsX0_kind wsX0_isToken := goodIn_r _ [6, 7, 1, 8, 9, 10, 11, 12, 13, 14, 15, 16, 17, 18, 19, 20] (by decide +kernel) (by decide +kernel)
set_option maxRecDepth 20000 in
theorem gX0_kind_X0_isToken : GoodIn wsX0_kind (wsV RX0 63 RX0 yX0_isToken wsX0_isToken) := goodIn_app (goodIn_of _ (by decide +kernel)) ggX0_kind_X0_isToken
theorem dX0_kind_0 : decode cX0_kind 0 = .ok (.aload_n 0, 1) := by decide +kernel
theorem dX0_kind_1 : decode cX0_kind 1 = .ok (.iload_n 1, 1) := by decide +kernel
theorem dX0_kind_2 : decode cX0_kind 2 = .ok (.invokevirtual 63, 3) := by decide +kernel
theorem dX0_kind_5 : decode cX0_kind 5 = .ok (.ifCond .eq 12, 3) := by decide +kernel
theorem dX0_kind_8 : decode cX0_kind 8 = .ok (.aload_n 0, 1) := by decide +kernel
theorem dX0_kind_9 : decode cX0_kind 9 = .ok (.getfield 16, 3) := by decide +kernel
theorem dX0_kind_12 : decode cX0_kind 12 = .ok (.iload_n 1, 1) := by decide +kernel
theorem dX0_kind_13 : decode cX0_kind 13 = .ok (.iaload, 1) := by decide +kernel
theorem dX0_kind_14 : decode cX0_kind 14 = .ok (.goto 4, 3) := by decide +kernel
theorem dX0_kind_17 : decode cX0_kind 17 = .ok (.iconst 0, 1) := by decide +kernel
theorem dX0_kind_18 : decode cX0_kind 18 = .ok (.ireturn, 1) := by decide +kernel
set_option maxRecDepth 20000 in
theorem ggX0_which_X0_isOfKind : GoodIn wsX0_which wsX0_isOfKind := goodIn_r _ [6, 7, 8, 9, 10, 5, 11, 12, 13, 14, 15, 16, 17, 18, 19, 20, 21, 22, 23, 24, 25] (by decide +kernel) (by decide +kernel)
set_option maxRecDepth 20000 in
theorem gX0_which_X0_isOfKind : GoodIn wsX0_which (wsV RX0 67 RX0 yX0_isOfKind wsX0_isOfKind) := goodIn_app (goodIn_of _ (by decide +kernel)) ggX0_which_X0_isOfKind
theorem dX0_which_0 : decode cX0_which 0 = .ok (.aload_n 0, 1) := by decide +kernel
theorem dX0_which_1 : decode cX0_which 1 = .ok (.iload_n 1, 1) := by decide +kernel
theorem dX0_which_2 : decode cX0_which 2 = .ok (.iconst 4, 1) := by decide +kernel
theorem dX0_which_3 : decode cX0_which 3 = .ok (.invokevirtual 67, 3) := by decide +kernel
theorem dX0_which_6 : decode cX0_which 6 = .ok (.ifCond .ne 12, 3) := by decide +kernel
theorem dX0_which_9 : decode cX0_which 9 = .ok (.aload_n 0, 1) := by decide +kernel
theorem dX0_which_10 : decode cX0_which 10 = .ok (.iload_n 1, 1) := by decide +kernel
theorem dX0_which_11 : decode cX0_which 11 = .ok (.iconst 5, 1) := by decide +kernel
theorem dX0_which_12 : decode cX0_which 12 = .ok (.invokevirtual 67, 3) := by decide +kernel
theorem dX0_which_15 : decode cX0_which 15 = .ok (.ifCond .eq 12, 3) := by decide +kernel
theorem dX0_which_18 : decode cX0_which 18 = .ok (.aload_n 0, 1) := by decide +kernel
theorem dX0_which_19 : decode cX0_which 19 = .ok (.getfield 29, 3) := by decide +kernel
theorem dX0_which_22 : decode cX0_which 22 = .ok (.iload_n 1, 1) := by decide +kernel
theorem dX0_which_23 : decode cX0_which 23 = .ok (.iaload, 1) := by decide +kernel
theorem dX0_which_24 : decode cX0_which 24 = .ok (.goto 4, 3) := by decide +kernel
theorem dX0_which_27 : decode cX0_which 27 = .ok (.iconst (-1), 1) := by decide +kernel
theorem dX0_which_28 : decode cX0_which 28 = .ok (.ireturn, 1) := by decide +kernel
set_option maxRecDepth 20000 in
theorem ggX0_from_X0_isToken : GoodIn wsX0_from wsX0_isToken := goodIn_r _ [6, 7, 8, 9, 10, 11, 12, 13, 14, 15, 16, 17, 18, 19, 20, 21] (by decide +kernel) (by decide +kernel)
set_option maxRecDepth 20000 in
theorem gX0_from_X0_isToken : GoodIn wsX0_from (wsV RX0 63 RX0 yX0_isToken wsX0_isToken) := goodIn_app (goodIn_of _ (by decide +kernel)) ggX0_from_X0_isToken
theorem dX0_from_0 : decode cX0_from 0 = .ok (.aload_n 0, 1) := by decide +kernel
theorem dX0_from_1 : decode cX0_from 1 = .ok (.iload_n 1, 1) := by decide +kernel
theorem dX0_from_2 : decode cX0_from 2 = .ok (.invokevirtual 63, 3) := by decide +kernel
theorem dX0_from_5 : decode cX0_from 5 = .ok (.ifCond .eq 12, 3) := by decide +kernel
theorem dX0_from_8 : decode cX0_from 8 = .ok (.aload_n 0, 1) := by decide +kernel
theorem dX0_from_9 : decode cX0_from 9 = .ok (.getfield 20, 3) := by decide +kernel
theorem dX0_from_12 : decode cX0_from 12 = .ok (.iload_n 1, 1) := by decide +kernel
theorem dX0_from_13 : decode cX0_from 13 = .ok (.iaload, 1) := by decide +kernel
theorem dX0_from_14 : decode cX0_from 14 = .ok (.goto 4, 3) := by decide +kernel
theorem dX0_from_17 : decode cX0_from 17 = .ok (.iconst (-1), 1) := by decide +kernel
theorem dX0_from_18 : decode cX0_from 18 = .ok (.ireturn, 1) := by decide +kernel
set_option maxRecDepth 20000 in
theorem ggX0_length_X0_isToken : GoodIn wsX0_length wsX0_isToken := goodIn_r _ [6, 7, 8, 9, 10, 11, 12, 13, 14, 15, 16, 17, 18, 19, 20, 21] (by decide +kernel) (by decide +kernel)
set_option maxRecDepth 20000 in
theorem gX0_length_X0_isToken : GoodIn wsX0_length (wsV RX0 63 RX0 yX0_isToken wsX0_isToken) := goodIn_app (goodIn_of _ (by decide +kernel)) ggX0_length_X0_isToken
theorem dX0_length_0 : decode cX0_length 0 = .ok (.aload_n 0, 1) := by decide +kernel
theorem dX0_length_1 : decode cX0_length 1 = .ok (.iload_n 1, 1) := by decide +kernel
theorem dX0_length_2 : decode cX0_length 2 = .ok (.invokevirtual 63, 3) := by decide +kernel
theorem dX0_length_5 : decode cX0_length 5 = .ok (.ifCond .eq 12, 3) := by decide +kernel
theorem dX0_length_8 : decode cX0_length 8 = .ok (.aload_n 0, 1) := by decide +kernel
theorem dX0_length_9 : decode cX0_length 9 = .ok (.getfield 23, 3) := by decide +kernel
theorem dX0_length_12 : decode cX0_length 12 = .ok (.iload_n 1, 1) := by decide +kernel
theorem dX0_length_13 : decode cX0_length 13 = .ok (.iaload, 1) := by decide +kernel
theorem dX0_length_14 : decode cX0_length 14 = .ok (.goto 4, 3) := by decide +kernel
theorem dX0_length_17 : decode cX0_length 17 = .ok (.iconst 0, 1) := by decide +kernel
theorem dX0_length_18 : decode cX0_length 18 = .ok (.ireturn, 1) := by decide +kernel
set_option maxRecDepth 20000 in
theorem ggX0_line_X0_isToken : GoodIn wsX0_line wsX0_isToken := goodIn_r _ [6, 7, 8, 9, 10, 11, 12, 13, 14, 15, 16, 17, 18, 19, 20, 21] (by decide +kernel) (by decide +kernel)
set_option maxRecDepth 20000 in
theorem gX0_line_X0_isToken : GoodIn wsX0_line (wsV RX0 63 RX0 yX0_isToken wsX0_isToken) := goodIn_app (goodIn_of _ (by decide +kernel)) ggX0_line_X0_isToken
theorem dX0_line_0 : decode cX0_line 0 = .ok (.aload_n 0, 1) := by decide +kernel
theorem dX0_line_1 : decode cX0_line 1 = .ok (.iload_n 1, 1) := by decide +kernel
theorem dX0_line_2 : decode cX0_line 2 = .ok (.invokevirtual 63, 3) := by decide +kernel
theorem dX0_line_5 : decode cX0_line 5 = .ok (.ifCond .eq 12, 3) := by decide +kernel
theorem dX0_line_8 : decode cX0_line 8 = .ok (.aload_n 0, 1) := by decide +kernel
theorem dX0_line_9 : decode cX0_line 9 = .ok (.getfield 26, 3) := by decide +kernel
theorem dX0_line_12 : decode cX0_line 12 = .ok (.iload_n 1, 1) := by decide +kernel
theorem dX0_line_13 : decode cX0_line 13 = .ok (.iaload, 1) := by decide +kernel
theorem dX0_line_14 : decode cX0_line 14 = .ok (.goto 4, 3) := by decide +kernel
theorem dX0_line_17 : decode cX0_line 17 = .ok (.iconst 0, 1) := by decide +kernel
theorem dX0_line_18 : decode cX0_line 18 = .ok (.ireturn, 1) := by decide +kernel
set_option maxRecDepth 20000 in
theorem ggX0_worth_X0_isOfKind : GoodIn wsX0_worth wsX0_isOfKind := goodIn_r _ [6, 7, 8, 9, 10, 5, 11, 12, 13, 14, 15, 16, 17, 18, 19, 20, 21, 22, 23, 24, 25] (by decide +kernel) (by decide +kernel)
set_option maxRecDepth 20000 in
theorem gX0_worth_X0_isOfKind : GoodIn wsX0_worth (wsV RX0 67 RX0 yX0_isOfKind wsX0_isOfKind) := goodIn_app (goodIn_of _ (by decide +kernel)) ggX0_worth_X0_isOfKind
theorem dX0_worth_0 : decode cX0_worth 0 = .ok (.aload_n 0, 1) := by decide +kernel
theorem dX0_worth_1 : decode cX0_worth 1 = .ok (.iload_n 1, 1) := by decide +kernel
theorem dX0_worth_2 : decode cX0_worth 2 = .ok (.iconst 2, 1) := by decide +kernel
theorem dX0_worth_3 : decode cX0_worth 3 = .ok (.invokevirtual 67, 3) := by decide +kernel
theorem dX0_worth_6 : decode cX0_worth 6 = .ok (.ifCond .eq 12, 3) := by decide +kernel
theorem dX0_worth_9 : decode cX0_worth 9 = .ok (.aload_n 0, 1) := by decide +kernel
theorem dX0_worth_10 : decode cX0_worth 10 = .ok (.getfield 29, 3) := by decide +kernel
theorem dX0_worth_13 : decode cX0_worth 13 = .ok (.iload_n 1, 1) := by decide +kernel
theorem dX0_worth_14 : decode cX0_worth 14 = .ok (.iaload, 1) := by decide +kernel
theorem dX0_worth_15 : decode cX0_worth 15 = .ok (.goto 4, 3) := by decide +kernel
theorem dX0_worth_18 : decode cX0_worth 18 = .ok (.iconst 0, 1) := by decide +kernel
theorem dX0_worth_19 : decode cX0_worth 19 = .ok (.ireturn, 1) := by decide +kernel
set_option maxRecDepth 20000 in
theorem ggX0_codes_X0_isOfKind : GoodIn wsX0_codes wsX0_isOfKind := goodIn_r _ [6, 7, 8, 9, 10, 5, 11, 12, 13, 14, 15, 16, 17, 18, 19, 20, 21, 22, 23, 24, 25] (by decide +kernel) (by decide +kernel)
set_option maxRecDepth 20000 in
theorem gX0_codes_X0_isOfKind : GoodIn wsX0_codes (wsV RX0 67 RX0 yX0_isOfKind wsX0_isOfKind) := goodIn_app (goodIn_of _ (by decide +kernel)) ggX0_codes_X0_isOfKind
theorem dX0_codes_0 : decode cX0_codes 0 = .ok (.aload_n 0, 1) := by decide +kernel
theorem dX0_codes_1 : decode cX0_codes 1 = .ok (.iload_n 1, 1) := by decide +kernel
theorem dX0_codes_2 : decode cX0_codes 2 = .ok (.iconst 3, 1) := by decide +kernel
theorem dX0_codes_3 : decode cX0_codes 3 = .ok (.invokevirtual 67, 3) := by decide +kernel
theorem dX0_codes_6 : decode cX0_codes 6 = .ok (.ifCond .eq 12, 3) := by decide +kernel
theorem dX0_codes_9 : decode cX0_codes 9 = .ok (.aload_n 0, 1) := by decide +kernel
theorem dX0_codes_10 : decode cX0_codes 10 = .ok (.getfield 29, 3) := by decide +kernel
theorem dX0_codes_13 : decode cX0_codes 13 = .ok (.iload_n 1, 1) := by decide +kernel
theorem dX0_codes_14 : decode cX0_codes 14 = .ok (.iaload, 1) := by decide +kernel
theorem dX0_codes_15 : decode cX0_codes 15 = .ok (.goto 4, 3) := by decide +kernel
theorem dX0_codes_18 : decode cX0_codes 18 = .ok (.iconst (-1), 1) := by decide +kernel
theorem dX0_codes_19 : decode cX0_codes 19 = .ok (.ireturn, 1) := by decide +kernel
set_option maxRecDepth 20000 in
theorem ggX0_code_X0_isOfKind : GoodIn wsX0_code wsX0_isOfKind := goodIn_r _ [7, 8, 9, 10, 11, 6, 12, 13, 31, 32, 33, 34, 35, 36, 37, 38, 39, 40, 41, 42, 43] (by decide +kernel) (by decide +kernel)
set_option maxRecDepth 20000 in
theorem gX0_code_X0_isOfKind : GoodIn wsX0_code (wsV RX0 67 RX0 yX0_isOfKind wsX0_isOfKind) := goodIn_app (goodIn_of _ (by decide +kernel)) ggX0_code_X0_isOfKind
set_option maxRecDepth 20000 in
theorem ggX0_code_X0_codeWidth : GoodIn wsX0_code wsX0_codeWidth := goodIn_r _ [17, 18, 19, 20, 6, 21, 22, 23, 24, 25, 26, 31, 32, 33, 34, 35, 36, 37, 38, 39, 40, 41, 42, 43] (by decide +kernel) (by decide +kernel)
set_option maxRecDepth 20000 in
theorem gX0_code_X0_codeWidth : GoodIn wsX0_code (wsV RX0 71 RX0 yX0_codeWidth wsX0_codeWidth) := goodIn_app (goodIn_of _ (by decide +kernel)) ggX0_code_X0_codeWidth
set_option maxRecDepth 20000 in
theorem ggX0_code_X0_codeAt : GoodIn wsX0_code wsX0_codeAt := goodIn_r _ [30, 18, 19, 20, 6, 21, 22, 23, 24, 25, 26, 31, 32, 33, 34, 35, 36, 37, 38, 39, 40, 41, 42, 43] (by decide +kernel) (by decide +kernel)
set_option maxRecDepth 20000 in
theorem gX0_code_X0_codeAt : GoodIn wsX0_code (wsV RX0 75 RX0 yX0_codeAt wsX0_codeAt) := goodIn_app (goodIn_of _ (by decide +kernel)) ggX0_code_X0_codeAt
theorem dX0_code_0 : decode cX0_code 0 = .ok (.aload_n 0, 1) := by decide +kernel
theorem dX0_code_1 : decode cX0_code 1 = .ok (.iload_n 1, 1) := by decide +kernel
theorem dX0_code_2 : decode cX0_code 2 = .ok (.iconst 3, 1) := by decide +kernel
theorem dX0_code_3 : decode cX0_code 3 = .ok (.invokevirtual 67, 3) := by decide +kernel
theorem dX0_code_6 : decode cX0_code 6 = .ok (.ifCond .eq 17, 3) := by decide +kernel
theorem dX0_code_9 : decode cX0_code 9 = .ok (.iload_n 2, 1) := by decide +kernel
theorem dX0_code_10 : decode cX0_code 10 = .ok (.ifCond .lt 13, 3) := by decide +kernel
theorem dX0_code_13 : decode cX0_code 13 = .ok (.iload_n 2, 1) := by decide +kernel
theorem dX0_code_14 : decode cX0_code 14 = .ok (.aload_n 0, 1) := by decide +kernel
theorem dX0_code_15 : decode cX0_code 15 = .ok (.getfield 29, 3) := by decide +kernel
theorem dX0_code_18 : decode cX0_code 18 = .ok (.iload_n 1, 1) := by decide +kernel
theorem dX0_code_19 : decode cX0_code 19 = .ok (.iaload, 1) := by decide +kernel
theorem dX0_code_20 : decode cX0_code 20 = .ok (.if_icmp .lt 5, 3) := by decide +kernel
theorem dX0_code_23 : decode cX0_code 23 = .ok (.iconst (-1), 1) := by decide +kernel
theorem dX0_code_24 : decode cX0_code 24 = .ok (.ireturn, 1) := by decide +kernel
theorem dX0_code_25 : decode cX0_code 25 = .ok (.aload_n 0, 1) := by decide +kernel
theorem dX0_code_26 : decode cX0_code 26 = .ok (.getfield 20, 3) := by decide +kernel
theorem dX0_code_29 : decode cX0_code 29 = .ok (.iload_n 1, 1) := by decide +kernel
theorem dX0_code_30 : decode cX0_code 30 = .ok (.iaload, 1) := by decide +kernel
theorem dX0_code_31 : decode cX0_code 31 = .ok (.iconst 1, 1) := by decide +kernel
theorem dX0_code_32 : decode cX0_code 32 = .ok (.iadd, 1) := by decide +kernel
theorem dX0_code_33 : decode cX0_code 33 = .ok (.istore_n 3, 1) := by decide +kernel
theorem dX0_code_34 : decode cX0_code 34 = .ok (.iconst 0, 1) := by decide +kernel
theorem dX0_code_35 : decode cX0_code 35 = .ok (.istore 4, 2) := by decide +kernel
theorem dX0_code_37 : decode cX0_code 37 = .ok (.iload 4, 2) := by decide +kernel
theorem dX0_code_39 : decode cX0_code 39 = .ok (.iload_n 2, 1) := by decide +kernel
theorem dX0_code_40 : decode cX0_code 40 = .ok (.if_icmp .ge 19, 3) := by decide +kernel
theorem dX0_code_43 : decode cX0_code 43 = .ok (.iload_n 3, 1) := by decide +kernel
theorem dX0_code_44 : decode cX0_code 44 = .ok (.aload_n 0, 1) := by decide +kernel
theorem dX0_code_45 : decode cX0_code 45 = .ok (.iload_n 3, 1) := by decide +kernel
theorem dX0_code_46 : decode cX0_code 46 = .ok (.bipush 34, 2) := by decide +kernel
theorem dX0_code_48 : decode cX0_code 48 = .ok (.invokevirtual 71, 3) := by decide +kernel
theorem dX0_code_51 : decode cX0_code 51 = .ok (.iadd, 1) := by decide +kernel
theorem dX0_code_52 : decode cX0_code 52 = .ok (.istore_n 3, 1) := by decide +kernel
theorem dX0_code_53 : decode cX0_code 53 = .ok (.iinc 4 1, 3) := by decide +kernel
theorem dX0_code_56 : decode cX0_code 56 = .ok (.goto (-19), 3) := by decide +kernel
theorem dX0_code_59 : decode cX0_code 59 = .ok (.aload_n 0, 1) := by decide +kernel
theorem dX0_code_60 : decode cX0_code 60 = .ok (.iload_n 3, 1) := by decide +kernel
theorem dX0_code_61 : decode cX0_code 61 = .ok (.invokevirtual 75, 3) := by decide +kernel
theorem dX0_code_64 : decode cX0_code 64 = .ok (.ireturn, 1) := by decide +kernel
set_option maxRecDepth 20000 in
theorem ggX0_same_X0_isToken : GoodIn wsX0_same wsX0_isToken := goodIn_r _ [7, 8, 9, 16, 17, 18, 19, 20, 21, 22, 23, 24, 25, 26, 27, 28] (by decide +kernel) (by decide +kernel)
set_option maxRecDepth 20000 in
theorem gX0_same_X0_isToken : GoodIn wsX0_same (wsV RX0 63 RX0 yX0_isToken wsX0_isToken) := goodIn_app (goodIn_of _ (by decide +kernel)) ggX0_same_X0_isToken
set_option maxRecDepth 20000 in
theorem ggX0_same_X0_byteAt : GoodIn wsX0_same wsX0_byteAt := goodIn_r _ [13, 14, 15, 16, 17, 18, 19, 20, 21, 22, 23, 24, 25, 26, 27, 28] (by decide +kernel) (by decide +kernel)
set_option maxRecDepth 20000 in
theorem gX0_same_X0_byteAt : GoodIn wsX0_same (wsV RX0 78 RX0 yX0_byteAt wsX0_byteAt) := goodIn_app (goodIn_of _ (by decide +kernel)) ggX0_same_X0_byteAt
theorem dX0_same_0 : decode cX0_same 0 = .ok (.aload_n 0, 1) := by decide +kernel
theorem dX0_same_1 : decode cX0_same 1 = .ok (.iload_n 1, 1) := by decide +kernel
theorem dX0_same_2 : decode cX0_same 2 = .ok (.invokevirtual 63, 3) := by decide +kernel
theorem dX0_same_5 : decode cX0_same 5 = .ok (.ifCond .eq 26, 3) := by decide +kernel
theorem dX0_same_8 : decode cX0_same 8 = .ok (.aload_n 0, 1) := by decide +kernel
theorem dX0_same_9 : decode cX0_same 9 = .ok (.iload_n 2, 1) := by decide +kernel
theorem dX0_same_10 : decode cX0_same 10 = .ok (.invokevirtual 63, 3) := by decide +kernel
theorem dX0_same_13 : decode cX0_same 13 = .ok (.ifCond .eq 18, 3) := by decide +kernel
theorem dX0_same_16 : decode cX0_same 16 = .ok (.aload_n 0, 1) := by decide +kernel
theorem dX0_same_17 : decode cX0_same 17 = .ok (.getfield 23, 3) := by decide +kernel
theorem dX0_same_20 : decode cX0_same 20 = .ok (.iload_n 1, 1) := by decide +kernel
theorem dX0_same_21 : decode cX0_same 21 = .ok (.iaload, 1) := by decide +kernel
theorem dX0_same_22 : decode cX0_same 22 = .ok (.aload_n 0, 1) := by decide +kernel
theorem dX0_same_23 : decode cX0_same 23 = .ok (.getfield 23, 3) := by decide +kernel
theorem dX0_same_26 : decode cX0_same 26 = .ok (.iload_n 2, 1) := by decide +kernel
theorem dX0_same_27 : decode cX0_same 27 = .ok (.iaload, 1) := by decide +kernel
theorem dX0_same_28 : decode cX0_same 28 = .ok (.if_icmp .eq 5, 3) := by decide +kernel
theorem dX0_same_31 : decode cX0_same 31 = .ok (.iconst 0, 1) := by decide +kernel
theorem dX0_same_32 : decode cX0_same 32 = .ok (.ireturn, 1) := by decide +kernel
theorem dX0_same_33 : decode cX0_same 33 = .ok (.iconst 0, 1) := by decide +kernel
theorem dX0_same_34 : decode cX0_same 34 = .ok (.istore_n 3, 1) := by decide +kernel
theorem dX0_same_35 : decode cX0_same 35 = .ok (.iload_n 3, 1) := by decide +kernel
theorem dX0_same_36 : decode cX0_same 36 = .ok (.aload_n 0, 1) := by decide +kernel
theorem dX0_same_37 : decode cX0_same 37 = .ok (.getfield 23, 3) := by decide +kernel
theorem dX0_same_40 : decode cX0_same 40 = .ok (.iload_n 1, 1) := by decide +kernel
theorem dX0_same_41 : decode cX0_same 41 = .ok (.iaload, 1) := by decide +kernel
theorem dX0_same_42 : decode cX0_same 42 = .ok (.if_icmp .ge 38, 3) := by decide +kernel
theorem dX0_same_45 : decode cX0_same 45 = .ok (.aload_n 0, 1) := by decide +kernel
theorem dX0_same_46 : decode cX0_same 46 = .ok (.aload_n 0, 1) := by decide +kernel
theorem dX0_same_47 : decode cX0_same 47 = .ok (.getfield 20, 3) := by decide +kernel
theorem dX0_same_50 : decode cX0_same 50 = .ok (.iload_n 1, 1) := by decide +kernel
theorem dX0_same_51 : decode cX0_same 51 = .ok (.iaload, 1) := by decide +kernel
theorem dX0_same_52 : decode cX0_same 52 = .ok (.iload_n 3, 1) := by decide +kernel
theorem dX0_same_53 : decode cX0_same 53 = .ok (.iadd, 1) := by decide +kernel
theorem dX0_same_54 : decode cX0_same 54 = .ok (.invokevirtual 78, 3) := by decide +kernel
theorem dX0_same_57 : decode cX0_same 57 = .ok (.aload_n 0, 1) := by decide +kernel
theorem dX0_same_58 : decode cX0_same 58 = .ok (.aload_n 0, 1) := by decide +kernel
theorem dX0_same_59 : decode cX0_same 59 = .ok (.getfield 20, 3) := by decide +kernel
theorem dX0_same_62 : decode cX0_same 62 = .ok (.iload_n 2, 1) := by decide +kernel
theorem dX0_same_63 : decode cX0_same 63 = .ok (.iaload, 1) := by decide +kernel
theorem dX0_same_64 : decode cX0_same 64 = .ok (.iload_n 3, 1) := by decide +kernel
theorem dX0_same_65 : decode cX0_same 65 = .ok (.iadd, 1) := by decide +kernel
theorem dX0_same_66 : decode cX0_same 66 = .ok (.invokevirtual 78, 3) := by decide +kernel
theorem dX0_same_69 : decode cX0_same 69 = .ok (.if_icmp .eq 5, 3) := by decide +kernel
theorem dX0_same_72 : decode cX0_same 72 = .ok (.iconst 0, 1) := by decide +kernel
theorem dX0_same_73 : decode cX0_same 73 = .ok (.ireturn, 1) := by decide +kernel
theorem dX0_same_74 : decode cX0_same 74 = .ok (.iinc 3 1, 3) := by decide +kernel
theorem dX0_same_77 : decode cX0_same 77 = .ok (.goto (-42), 3) := by decide +kernel
theorem dX0_same_80 : decode cX0_same 80 = .ok (.iconst 1, 1) := by decide +kernel
theorem dX0_same_81 : decode cX0_same 81 = .ok (.ireturn, 1) := by decide +kernel
set_option maxRecDepth 20000 in
theorem ggX0_putInt_X0_putByte : GoodIn wsX0_putInt wsX0_putByte := goodIn_r _ [5, 6, 7, 8, 9, 10, 11, 12, 13, 14, 15, 16, 17, 18, 19, 20] (by decide +kernel) (by decide +kernel)
set_option maxRecDepth 20000 in
theorem gX0_putInt_X0_putByte : GoodIn wsX0_putInt (wsV RX0 81 RX0 yX0_putByte wsX0_putByte) := goodIn_app (goodIn_of _ (by decide +kernel)) ggX0_putInt_X0_putByte
theorem dX0_putInt_0 : decode cX0_putInt 0 = .ok (.aload_n 0, 1) := by decide +kernel
theorem dX0_putInt_1 : decode cX0_putInt 1 = .ok (.iload_n 1, 1) := by decide +kernel
theorem dX0_putInt_2 : decode cX0_putInt 2 = .ok (.bipush 24, 2) := by decide +kernel
theorem dX0_putInt_4 : decode cX0_putInt 4 = .ok (.iushr, 1) := by decide +kernel
theorem dX0_putInt_5 : decode cX0_putInt 5 = .ok (.invokevirtual 81, 3) := by decide +kernel
theorem dX0_putInt_8 : decode cX0_putInt 8 = .ok (.aload_n 0, 1) := by decide +kernel
theorem dX0_putInt_9 : decode cX0_putInt 9 = .ok (.iload_n 1, 1) := by decide +kernel
theorem dX0_putInt_10 : decode cX0_putInt 10 = .ok (.bipush 16, 2) := by decide +kernel
theorem dX0_putInt_12 : decode cX0_putInt 12 = .ok (.iushr, 1) := by decide +kernel
theorem dX0_putInt_13 : decode cX0_putInt 13 = .ok (.invokevirtual 81, 3) := by decide +kernel
theorem dX0_putInt_16 : decode cX0_putInt 16 = .ok (.aload_n 0, 1) := by decide +kernel
theorem dX0_putInt_17 : decode cX0_putInt 17 = .ok (.iload_n 1, 1) := by decide +kernel
theorem dX0_putInt_18 : decode cX0_putInt 18 = .ok (.bipush 8, 2) := by decide +kernel
theorem dX0_putInt_20 : decode cX0_putInt 20 = .ok (.iushr, 1) := by decide +kernel
theorem dX0_putInt_21 : decode cX0_putInt 21 = .ok (.invokevirtual 81, 3) := by decide +kernel
theorem dX0_putInt_24 : decode cX0_putInt 24 = .ok (.aload_n 0, 1) := by decide +kernel
theorem dX0_putInt_25 : decode cX0_putInt 25 = .ok (.iload_n 1, 1) := by decide +kernel
theorem dX0_putInt_26 : decode cX0_putInt 26 = .ok (.invokevirtual 81, 3) := by decide +kernel
theorem dX0_putInt_29 : decode cX0_putInt 29 = .ok (.return_, 1) := by decide +kernel
theorem dX0_putByte_0 : decode cX0_putByte 0 = .ok (.aload_n 0, 1) := by decide +kernel
theorem dX0_putByte_1 : decode cX0_putByte 1 = .ok (.getfield 32, 3) := by decide +kernel
theorem dX0_putByte_4 : decode cX0_putByte 4 = .ok (.ifCond .lt 36, 3) := by decide +kernel
theorem dX0_putByte_7 : decode cX0_putByte 7 = .ok (.aload_n 0, 1) := by decide +kernel
theorem dX0_putByte_8 : decode cX0_putByte 8 = .ok (.getfield 32, 3) := by decide +kernel
theorem dX0_putByte_11 : decode cX0_putByte 11 = .ok (.aload_n 0, 1) := by decide +kernel
theorem dX0_putByte_12 : decode cX0_putByte 12 = .ok (.getfield 9, 3) := by decide +kernel
theorem dX0_putByte_15 : decode cX0_putByte 15 = .ok (.arraylength, 1) := by decide +kernel
theorem dX0_putByte_16 : decode cX0_putByte 16 = .ok (.if_icmp .ge 24, 3) := by decide +kernel
theorem dX0_putByte_19 : decode cX0_putByte 19 = .ok (.aload_n 0, 1) := by decide +kernel
theorem dX0_putByte_20 : decode cX0_putByte 20 = .ok (.getfield 9, 3) := by decide +kernel
theorem dX0_putByte_23 : decode cX0_putByte 23 = .ok (.aload_n 0, 1) := by decide +kernel
theorem dX0_putByte_24 : decode cX0_putByte 24 = .ok (.getfield 32, 3) := by decide +kernel
theorem dX0_putByte_27 : decode cX0_putByte 27 = .ok (.iload_n 1, 1) := by decide +kernel
theorem dX0_putByte_28 : decode cX0_putByte 28 = .ok (.i2b, 1) := by decide +kernel
theorem dX0_putByte_29 : decode cX0_putByte 29 = .ok (.bastore, 1) := by decide +kernel
theorem dX0_putByte_30 : decode cX0_putByte 30 = .ok (.aload_n 0, 1) := by decide +kernel
theorem dX0_putByte_31 : decode cX0_putByte 31 = .ok (.dup, 1) := by decide +kernel
theorem dX0_putByte_32 : decode cX0_putByte 32 = .ok (.getfield 32, 3) := by decide +kernel
theorem dX0_putByte_35 : decode cX0_putByte 35 = .ok (.iconst 1, 1) := by decide +kernel
theorem dX0_putByte_36 : decode cX0_putByte 36 = .ok (.iadd, 1) := by decide +kernel
theorem dX0_putByte_37 : decode cX0_putByte 37 = .ok (.putfield 32, 3) := by decide +kernel
theorem dX0_putByte_40 : decode cX0_putByte 40 = .ok (.return_, 1) := by decide +kernel
theorem dX0_takeTray_0 : decode cX0_takeTray 0 = .ok (.aload_n 0, 1) := by decide +kernel
theorem dX0_takeTray_1 : decode cX0_takeTray 1 = .ok (.getfield 13, 3) := by decide +kernel
theorem dX0_takeTray_4 : decode cX0_takeTray 4 = .ok (.astore_n 1, 1) := by decide +kernel
theorem dX0_takeTray_5 : decode cX0_takeTray 5 = .ok (.aload_n 0, 1) := by decide +kernel
theorem dX0_takeTray_6 : decode cX0_takeTray 6 = .ok (.aload_n 0, 1) := by decide +kernel
theorem dX0_takeTray_7 : decode cX0_takeTray 7 = .ok (.getfield 9, 3) := by decide +kernel
theorem dX0_takeTray_10 : decode cX0_takeTray 10 = .ok (.putfield 13, 3) := by decide +kernel
theorem dX0_takeTray_13 : decode cX0_takeTray 13 = .ok (.aload_n 0, 1) := by decide +kernel
theorem dX0_takeTray_14 : decode cX0_takeTray 14 = .ok (.aload_n 0, 1) := by decide +kernel
theorem dX0_takeTray_15 : decode cX0_takeTray 15 = .ok (.getfield 32, 3) := by decide +kernel
theorem dX0_takeTray_18 : decode cX0_takeTray 18 = .ok (.putfield 39, 3) := by decide +kernel
theorem dX0_takeTray_21 : decode cX0_takeTray 21 = .ok (.aload_n 0, 1) := by decide +kernel
theorem dX0_takeTray_22 : decode cX0_takeTray 22 = .ok (.aload_n 1, 1) := by decide +kernel
theorem dX0_takeTray_23 : decode cX0_takeTray 23 = .ok (.putfield 9, 3) := by decide +kernel
theorem dX0_takeTray_26 : decode cX0_takeTray 26 = .ok (.aload_n 0, 1) := by decide +kernel
theorem dX0_takeTray_27 : decode cX0_takeTray 27 = .ok (.iconst 0, 1) := by decide +kernel
theorem dX0_takeTray_28 : decode cX0_takeTray 28 = .ok (.putfield 32, 3) := by decide +kernel
theorem dX0_takeTray_31 : decode cX0_takeTray 31 = .ok (.aload_n 0, 1) := by decide +kernel
theorem dX0_takeTray_32 : decode cX0_takeTray 32 = .ok (.iconst 1, 1) := by decide +kernel
theorem dX0_takeTray_33 : decode cX0_takeTray 33 = .ok (.putfield 42, 3) := by decide +kernel
theorem dX0_takeTray_36 : decode cX0_takeTray 36 = .ok (.aload_n 0, 1) := by decide +kernel
theorem dX0_takeTray_37 : decode cX0_takeTray 37 = .ok (.iconst (-1), 1) := by decide +kernel
theorem dX0_takeTray_38 : decode cX0_takeTray 38 = .ok (.putfield 45, 3) := by decide +kernel
theorem dX0_takeTray_41 : decode cX0_takeTray 41 = .ok (.aload_n 0, 1) := by decide +kernel
theorem dX0_takeTray_42 : decode cX0_takeTray 42 = .ok (.iconst 0, 1) := by decide +kernel
theorem dX0_takeTray_43 : decode cX0_takeTray 43 = .ok (.putfield 48, 3) := by decide +kernel
theorem dX0_takeTray_46 : decode cX0_takeTray 46 = .ok (.return_, 1) := by decide +kernel
set_option maxRecDepth 20000 in
theorem ggX0_pastBlankOrToken_X0_byteAt : GoodIn wsX0_pastBlankOrToken wsX0_byteAt := goodIn_r _ [5, 6, 7, 120, 121, 122, 123, 124, 125, 126, 127, 128, 129, 130, 131, 132] (by decide +kernel) (by decide +kernel)
set_option maxRecDepth 20000 in
theorem gX0_pastBlankOrToken_X0_byteAt : GoodIn wsX0_pastBlankOrToken (wsV RX0 78 RX0 yX0_byteAt wsX0_byteAt) := goodIn_app (goodIn_of _ (by decide +kernel)) ggX0_pastBlankOrToken_X0_byteAt
set_option maxRecDepth 20000 in
theorem ggX0_pastBlankOrToken_X0_isBlankByte : GoodIn wsX0_pastBlankOrToken wsX0_isBlankByte := goodIn_r _ [10] (by decide +kernel) (by decide +kernel)
set_option maxRecDepth 20000 in
theorem gX0_pastBlankOrToken_X0_isBlankByte : GoodIn wsX0_pastBlankOrToken (va_wsS RX0 84 yX0_isBlankByte wsX0_isBlankByte) := goodIn_app (goodIn_of _ (by decide +kernel)) ggX0_pastBlankOrToken_X0_isBlankByte
set_option maxRecDepth 20000 in
theorem ggX0_pastBlankOrToken_X0_countLine : GoodIn wsX0_pastBlankOrToken wsX0_countLine := goodIn_r _ [14, 15, 120, 121, 122, 123, 124, 125, 126, 127, 128, 129, 130, 131, 132] (by decide +kernel) (by decide +kernel)
set_option maxRecDepth 20000 in
theorem gX0_pastBlankOrToken_X0_countLine : GoodIn wsX0_pastBlankOrToken (wsV RX0 87 RX0 yX0_countLine wsX0_countLine) := goodIn_app (goodIn_of _ (by decide +kernel)) ggX0_pastBlankOrToken_X0_countLine
set_option maxRecDepth 20000 in
theorem ggX0_pastBlankOrToken_X0_pastLineComment : GoodIn wsX0_pastBlankOrToken wsX0_pastLineComment := goodIn_r _ [19, 6, 1, 2, 3, 4, 5, 7, 20, 21, 22, 8, 9, 10, 23, 24, 25, 26, 27, 120, 121, 122, 123, 124, 125, 126, 127, 128, 129, 130, 131, 132] (by decide +kernel) (by decide +kernel)
set_option maxRecDepth 20000 in
theorem gX0_pastBlankOrToken_X0_pastLineComment : GoodIn wsX0_pastBlankOrToken (wsV RX0 90 RX0 yX0_pastLineComment wsX0_pastLineComment) := goodIn_app (goodIn_of _ (by decide +kernel)) ggX0_pastBlankOrToken_X0_pastLineComment
set_option maxRecDepth 20000 in
theorem ggX0_pastBlankOrToken_X0_pastStarComment : GoodIn wsX0_pastBlankOrToken wsX0_pastStarComment := goodIn_r _ [31, 6, 1, 2, 3, 4, 5, 7, 20, 21, 22, 8, 9, 10, 23, 24, 25, 26, 27, 11, 12, 13, 14, 15, 120, 121, 122, 123, 124, 125, 126, 127, 128, 129, 130, 131, 132] (by decide +kernel) (by decide +kernel)
set_option maxRecDepth 20000 in
theorem gX0_pastBlankOrToken_X0_pastStarComment : GoodIn wsX0_pastBlankOrToken (wsV RX0 93 RX0 yX0_pastStarComment wsX0_pastStarComment) := goodIn_app (goodIn_of _ (by decide +kernel)) ggX0_pastBlankOrToken_X0_pastStarComment
set_option maxRecDepth 20000 in
theorem ggX0_pastBlankOrToken_X0_isLetter : GoodIn wsX0_pastBlankOrToken wsX0_isLetter := goodIn_r _ [34] (by decide +kernel) (by decide +kernel)
set_option maxRecDepth 20000 in
theorem gX0_pastBlankOrToken_X0_isLetter : GoodIn wsX0_pastBlankOrToken (va_wsS RX0 96 yX0_isLetter wsX0_isLetter) := goodIn_app (goodIn_of _ (by decide +kernel)) ggX0_pastBlankOrToken_X0_isLetter
set_option maxRecDepth 20000 in
theorem ggX0_pastBlankOrToken_X0_pastName : GoodIn wsX0_pastBlankOrToken wsX0_pastName := goodIn_r _ [38, 6, 1, 2, 3, 4, 5, 7, 39, 40, 41, 32, 33, 34, 42, 43, 44, 23, 24, 25, 26, 27, 45, 46, 47, 48, 49, 50, 51, 52, 53, 54, 55, 56, 57, 58, 59, 15, 120, 121, 122, 123, 124, 125, 126, 127, 128, 129, 130, 131, 132] (by decide +kernel) (by decide +kernel)
set_option maxRecDepth 20000 in
theorem gX0_pastBlankOrToken_X0_pastName : GoodIn wsX0_pastBlankOrToken (wsV RX0 99 RX0 yX0_pastName wsX0_pastName) := goodIn_app (goodIn_of _ (by decide +kernel)) ggX0_pastBlankOrToken_X0_pastName
set_option maxRecDepth 20000 in
theorem ggX0_pastBlankOrToken_X0_isDigit : GoodIn wsX0_pastBlankOrToken wsX0_isDigit := goodIn_r _ [44] (by decide +kernel) (by decide +kernel)
set_option maxRecDepth 20000 in
theorem gX0_pastBlankOrToken_X0_isDigit : GoodIn wsX0_pastBlankOrToken (va_wsS RX0 102 yX0_isDigit wsX0_isDigit) := goodIn_app (goodIn_of _ (by decide +kernel)) ggX0_pastBlankOrToken_X0_isDigit
set_option maxRecDepth 20000 in
theorem ggX0_pastBlankOrToken_X0_isHexNumber : GoodIn wsX0_pastBlankOrToken wsX0_isHexNumber := goodIn_r _ [63, 1, 2, 3, 4, 5, 6, 7, 64, 65, 66, 42, 43, 44, 120, 121, 122, 123, 124, 125, 126, 127, 128, 129, 130, 131, 132] (by decide +kernel) (by decide +kernel)
set_option maxRecDepth 20000 in
theorem gX0_pastBlankOrToken_X0_isHexNumber : GoodIn wsX0_pastBlankOrToken (wsV RX0 105 RX0 yX0_isHexNumber wsX0_isHexNumber) := goodIn_app (goodIn_of _ (by decide +kernel)) ggX0_pastBlankOrToken_X0_isHexNumber
set_option maxRecDepth 20000 in
theorem ggX0_pastBlankOrToken_X0_pastHexNumber : GoodIn wsX0_pastBlankOrToken wsX0_pastHexNumber := goodIn_r _ [70, 6, 1, 2, 3, 4, 5, 7, 64, 65, 66, 42, 43, 44, 23, 24, 25, 26, 27, 50, 51, 52, 53, 54, 55, 56, 57, 58, 59, 15, 120, 121, 122, 123, 124, 125, 126, 127, 128, 129, 130, 131, 132] (by decide +kernel) (by decide +kernel)
set_option maxRecDepth 20000 in
theorem gX0_pastBlankOrToken_X0_pastHexNumber : GoodIn wsX0_pastBlankOrToken (wsV RX0 108 RX0 yX0_pastHexNumber wsX0_pastHexNumber) := goodIn_app (goodIn_of _ (by decide +kernel)) ggX0_pastBlankOrToken_X0_pastHexNumber
set_option maxRecDepth 20000 in
theorem ggX0_pastBlankOrToken_X0_pastDigits : GoodIn wsX0_pastBlankOrToken wsX0_pastDigits := goodIn_r _ [74, 6, 75, 76, 77, 78, 79, 80, 81, 1, 2, 3, 4, 5, 7, 42, 43, 44, 23, 24, 25, 26, 27, 50, 51, 52, 53, 54, 55, 56, 57, 58, 59, 15, 120, 121, 122, 123, 124, 125, 126, 127, 128, 129, 130, 131, 132] (by decide +kernel) (by decide +kernel)
set_option maxRecDepth 20000 in
theorem gX0_pastBlankOrToken_X0_pastDigits : GoodIn wsX0_pastBlankOrToken (wsV RX0 111 RX0 yX0_pastDigits wsX0_pastDigits) := goodIn_app (goodIn_of _ (by decide +kernel)) ggX0_pastBlankOrToken_X0_pastDigits
set_option maxRecDepth 20000 in
theorem ggX0_pastBlankOrToken_X0_pastQuotedCode : GoodIn wsX0_pastBlankOrToken wsX0_pastQuotedCode := goodIn_r _ [85, 86, 87, 88, 4, 89, 1, 2, 3, 5, 6, 7, 90, 91, 92, 23, 24, 25, 26, 27, 93, 94, 95, 96, 50, 51, 52, 53, 54, 55, 56, 57, 58, 59, 15, 120, 121, 122, 123, 124, 125, 126, 127, 128, 129, 130, 131, 132] (by decide +kernel) (by decide +kernel)
set_option maxRecDepth 20000 in
theorem gX0_pastBlankOrToken_X0_pastQuotedCode : GoodIn wsX0_pastBlankOrToken (wsV RX0 114 RX0 yX0_pastQuotedCode wsX0_pastQuotedCode) := goodIn_app (goodIn_of _ (by decide +kernel)) ggX0_pastBlankOrToken_X0_pastQuotedCode
set_option maxRecDepth 20000 in
theorem ggX0_pastBlankOrToken_X0_pastString : GoodIn wsX0_pastBlankOrToken wsX0_pastString := goodIn_r _ [100, 1, 2, 3, 4, 5, 6, 7, 50, 51, 52, 53, 54, 55, 56, 57, 58, 59, 15, 86, 87, 88, 89, 90, 91, 92, 23, 24, 25, 26, 27, 120, 121, 122, 123, 124, 125, 126, 127, 128, 129, 130, 131, 132] (by decide +kernel) (by decide +kernel)
set_option maxRecDepth 20000 in
theorem gX0_pastBlankOrToken_X0_pastString : GoodIn wsX0_pastBlankOrToken (wsV RX0 117 RX0 yX0_pastString wsX0_pastString) := goodIn_app (goodIn_of _ (by decide +kernel)) ggX0_pastBlankOrToken_X0_pastString
set_option maxRecDepth 20000 in
theorem ggX0_pastBlankOrToken_X0_pastSign : GoodIn wsX0_pastBlankOrToken wsX0_pastSign := goodIn_r _ [104, 1, 2, 3, 4, 5, 6, 7, 105, 106, 107, 50, 51, 52, 53, 54, 55, 56, 57, 58, 59, 15, 108, 109, 110, 111, 112, 113, 114, 115, 116, 117, 118, 119, 23, 24, 25, 26, 27, 120, 121, 122, 123, 124, 125, 126, 127, 128, 129, 130, 131, 132] (by decide +kernel) (by decide +kernel)
set_option maxRecDepth 20000 in
theorem gX0_pastBlankOrToken_X0_pastSign : GoodIn wsX0_pastBlankOrToken (wsV RX0 120 RX0 yX0_pastSign wsX0_pastSign) := goodIn_app (goodIn_of _ (by decide +kernel)) ggX0_pastBlankOrToken_X0_pastSign
theorem dX0_pastBlankOrToken_0 : decode cX0_pastBlankOrToken 0 = .ok (.aload_n 0, 1) := by decide +kernel
theorem dX0_pastBlankOrToken_1 : decode cX0_pastBlankOrToken 1 = .ok (.iload_n 1, 1) := by decide +kernel
theorem dX0_pastBlankOrToken_2 : decode cX0_pastBlankOrToken 2 = .ok (.invokevirtual 78, 3) := by decide +kernel
theorem dX0_pastBlankOrToken_5 : decode cX0_pastBlankOrToken 5 = .ok (.istore_n 2, 1) := by decide +kernel
theorem dX0_pastBlankOrToken_6 : decode cX0_pastBlankOrToken 6 = .ok (.iload_n 2, 1) := by decide +kernel
theorem dX0_pastBlankOrToken_7 : decode cX0_pastBlankOrToken 7 = .ok (.invokestatic 84, 3) := by decide +kernel
theorem dX0_pastBlankOrToken_10 : decode cX0_pastBlankOrToken 10 = .ok (.ifCond .eq 12, 3) := by decide +kernel
theorem dX0_pastBlankOrToken_13 : decode cX0_pastBlankOrToken 13 = .ok (.aload_n 0, 1) := by decide +kernel
theorem dX0_pastBlankOrToken_14 : decode cX0_pastBlankOrToken 14 = .ok (.iload_n 2, 1) := by decide +kernel
theorem dX0_pastBlankOrToken_15 : decode cX0_pastBlankOrToken 15 = .ok (.invokevirtual 87, 3) := by decide +kernel
theorem dX0_pastBlankOrToken_18 : decode cX0_pastBlankOrToken 18 = .ok (.iload_n 1, 1) := by decide +kernel
theorem dX0_pastBlankOrToken_19 : decode cX0_pastBlankOrToken 19 = .ok (.iconst 1, 1) := by decide +kernel
theorem dX0_pastBlankOrToken_20 : decode cX0_pastBlankOrToken 20 = .ok (.iadd, 1) := by decide +kernel
theorem dX0_pastBlankOrToken_21 : decode cX0_pastBlankOrToken 21 = .ok (.ireturn, 1) := by decide +kernel
theorem dX0_pastBlankOrToken_22 : decode cX0_pastBlankOrToken 22 = .ok (.iload_n 2, 1) := by decide +kernel
theorem dX0_pastBlankOrToken_23 : decode cX0_pastBlankOrToken 23 = .ok (.bipush 47, 2) := by decide +kernel
theorem dX0_pastBlankOrToken_25 : decode cX0_pastBlankOrToken 25 = .ok (.if_icmp .ne 21, 3) := by decide +kernel
theorem dX0_pastBlankOrToken_28 : decode cX0_pastBlankOrToken 28 = .ok (.aload_n 0, 1) := by decide +kernel
theorem dX0_pastBlankOrToken_29 : decode cX0_pastBlankOrToken 29 = .ok (.iload_n 1, 1) := by decide +kernel
theorem dX0_pastBlankOrToken_30 : decode cX0_pastBlankOrToken 30 = .ok (.iconst 1, 1) := by decide +kernel
theorem dX0_pastBlankOrToken_31 : decode cX0_pastBlankOrToken 31 = .ok (.iadd, 1) := by decide +kernel
theorem dX0_pastBlankOrToken_32 : decode cX0_pastBlankOrToken 32 = .ok (.invokevirtual 78, 3) := by decide +kernel
theorem dX0_pastBlankOrToken_35 : decode cX0_pastBlankOrToken 35 = .ok (.bipush 47, 2) := by decide +kernel
theorem dX0_pastBlankOrToken_37 : decode cX0_pastBlankOrToken 37 = .ok (.if_icmp .ne 9, 3) := by decide +kernel
theorem dX0_pastBlankOrToken_40 : decode cX0_pastBlankOrToken 40 = .ok (.aload_n 0, 1) := by decide +kernel
theorem dX0_pastBlankOrToken_41 : decode cX0_pastBlankOrToken 41 = .ok (.iload_n 1, 1) := by decide +kernel
theorem dX0_pastBlankOrToken_42 : decode cX0_pastBlankOrToken 42 = .ok (.invokevirtual 90, 3) := by decide +kernel
theorem dX0_pastBlankOrToken_45 : decode cX0_pastBlankOrToken 45 = .ok (.ireturn, 1) := by decide +kernel
theorem dX0_pastBlankOrToken_46 : decode cX0_pastBlankOrToken 46 = .ok (.iload_n 2, 1) := by decide +kernel
theorem dX0_pastBlankOrToken_47 : decode cX0_pastBlankOrToken 47 = .ok (.bipush 47, 2) := by decide +kernel
theorem dX0_pastBlankOrToken_49 : decode cX0_pastBlankOrToken 49 = .ok (.if_icmp .ne 21, 3) := by decide +kernel
theorem dX0_pastBlankOrToken_52 : decode cX0_pastBlankOrToken 52 = .ok (.aload_n 0, 1) := by decide +kernel
theorem dX0_pastBlankOrToken_53 : decode cX0_pastBlankOrToken 53 = .ok (.iload_n 1, 1) := by decide +kernel
theorem dX0_pastBlankOrToken_54 : decode cX0_pastBlankOrToken 54 = .ok (.iconst 1, 1) := by decide +kernel
theorem dX0_pastBlankOrToken_55 : decode cX0_pastBlankOrToken 55 = .ok (.iadd, 1) := by decide +kernel
theorem dX0_pastBlankOrToken_56 : decode cX0_pastBlankOrToken 56 = .ok (.invokevirtual 78, 3) := by decide +kernel
theorem dX0_pastBlankOrToken_59 : decode cX0_pastBlankOrToken 59 = .ok (.bipush 42, 2) := by decide +kernel
theorem dX0_pastBlankOrToken_61 : decode cX0_pastBlankOrToken 61 = .ok (.if_icmp .ne 9, 3) := by decide +kernel
theorem dX0_pastBlankOrToken_64 : decode cX0_pastBlankOrToken 64 = .ok (.aload_n 0, 1) := by decide +kernel
theorem dX0_pastBlankOrToken_65 : decode cX0_pastBlankOrToken 65 = .ok (.iload_n 1, 1) := by decide +kernel
theorem dX0_pastBlankOrToken_66 : decode cX0_pastBlankOrToken 66 = .ok (.invokevirtual 93, 3) := by decide +kernel
theorem dX0_pastBlankOrToken_69 : decode cX0_pastBlankOrToken 69 = .ok (.ireturn, 1) := by decide +kernel
theorem dX0_pastBlankOrToken_70 : decode cX0_pastBlankOrToken 70 = .ok (.iload_n 2, 1) := by decide +kernel
theorem dX0_pastBlankOrToken_71 : decode cX0_pastBlankOrToken 71 = .ok (.invokestatic 96, 3) := by decide +kernel
theorem dX0_pastBlankOrToken_74 : decode cX0_pastBlankOrToken 74 = .ok (.ifCond .eq 9, 3) := by decide +kernel
theorem dX0_pastBlankOrToken_77 : decode cX0_pastBlankOrToken 77 = .ok (.aload_n 0, 1) := by decide +kernel
theorem dX0_pastBlankOrToken_78 : decode cX0_pastBlankOrToken 78 = .ok (.iload_n 1, 1) := by decide +kernel
theorem dX0_pastBlankOrToken_79 : decode cX0_pastBlankOrToken 79 = .ok (.invokevirtual 99, 3) := by decide +kernel
theorem dX0_pastBlankOrToken_82 : decode cX0_pastBlankOrToken 82 = .ok (.ireturn, 1) := by decide +kernel
theorem dX0_pastBlankOrToken_83 : decode cX0_pastBlankOrToken 83 = .ok (.iload_n 2, 1) := by decide +kernel
theorem dX0_pastBlankOrToken_84 : decode cX0_pastBlankOrToken 84 = .ok (.invokestatic 102, 3) := by decide +kernel
theorem dX0_pastBlankOrToken_87 : decode cX0_pastBlankOrToken 87 = .ok (.ifCond .eq 25, 3) := by decide +kernel
theorem dX0_pastBlankOrToken_90 : decode cX0_pastBlankOrToken 90 = .ok (.aload_n 0, 1) := by decide +kernel
theorem dX0_pastBlankOrToken_91 : decode cX0_pastBlankOrToken 91 = .ok (.iload_n 1, 1) := by decide +kernel
theorem dX0_pastBlankOrToken_92 : decode cX0_pastBlankOrToken 92 = .ok (.invokevirtual 105, 3) := by decide +kernel
theorem dX0_pastBlankOrToken_95 : decode cX0_pastBlankOrToken 95 = .ok (.ifCond .eq 11, 3) := by decide +kernel
theorem dX0_pastBlankOrToken_98 : decode cX0_pastBlankOrToken 98 = .ok (.aload_n 0, 1) := by decide +kernel
theorem dX0_pastBlankOrToken_99 : decode cX0_pastBlankOrToken 99 = .ok (.iload_n 1, 1) := by decide +kernel
theorem dX0_pastBlankOrToken_100 : decode cX0_pastBlankOrToken 100 = .ok (.invokevirtual 108, 3) := by decide +kernel
theorem dX0_pastBlankOrToken_103 : decode cX0_pastBlankOrToken 103 = .ok (.goto 8, 3) := by decide +kernel
theorem dX0_pastBlankOrToken_106 : decode cX0_pastBlankOrToken 106 = .ok (.aload_n 0, 1) := by decide +kernel
theorem dX0_pastBlankOrToken_107 : decode cX0_pastBlankOrToken 107 = .ok (.iload_n 1, 1) := by decide +kernel
theorem dX0_pastBlankOrToken_108 : decode cX0_pastBlankOrToken 108 = .ok (.invokevirtual 111, 3) := by decide +kernel
theorem dX0_pastBlankOrToken_111 : decode cX0_pastBlankOrToken 111 = .ok (.ireturn, 1) := by decide +kernel
theorem dX0_pastBlankOrToken_112 : decode cX0_pastBlankOrToken 112 = .ok (.iload_n 2, 1) := by decide +kernel
theorem dX0_pastBlankOrToken_113 : decode cX0_pastBlankOrToken 113 = .ok (.bipush 39, 2) := by decide +kernel
theorem dX0_pastBlankOrToken_115 : decode cX0_pastBlankOrToken 115 = .ok (.if_icmp .ne 9, 3) := by decide +kernel
theorem dX0_pastBlankOrToken_118 : decode cX0_pastBlankOrToken 118 = .ok (.aload_n 0, 1) := by decide +kernel
theorem dX0_pastBlankOrToken_119 : decode cX0_pastBlankOrToken 119 = .ok (.iload_n 1, 1) := by decide +kernel
theorem dX0_pastBlankOrToken_120 : decode cX0_pastBlankOrToken 120 = .ok (.invokevirtual 114, 3) := by decide +kernel
theorem dX0_pastBlankOrToken_123 : decode cX0_pastBlankOrToken 123 = .ok (.ireturn, 1) := by decide +kernel
theorem dX0_pastBlankOrToken_124 : decode cX0_pastBlankOrToken 124 = .ok (.iload_n 2, 1) := by decide +kernel
theorem dX0_pastBlankOrToken_125 : decode cX0_pastBlankOrToken 125 = .ok (.bipush 34, 2) := by decide +kernel
theorem dX0_pastBlankOrToken_127 : decode cX0_pastBlankOrToken 127 = .ok (.if_icmp .ne 9, 3) := by decide +kernel
theorem dX0_pastBlankOrToken_130 : decode cX0_pastBlankOrToken 130 = .ok (.aload_n 0, 1) := by decide +kernel
theorem dX0_pastBlankOrToken_131 : decode cX0_pastBlankOrToken 131 = .ok (.iload_n 1, 1) := by decide +kernel
theorem dX0_pastBlankOrToken_132 : decode cX0_pastBlankOrToken 132 = .ok (.invokevirtual 117, 3) := by decide +kernel
theorem dX0_pastBlankOrToken_135 : decode cX0_pastBlankOrToken 135 = .ok (.ireturn, 1) := by decide +kernel
theorem dX0_pastBlankOrToken_136 : decode cX0_pastBlankOrToken 136 = .ok (.aload_n 0, 1) := by decide +kernel
theorem dX0_pastBlankOrToken_137 : decode cX0_pastBlankOrToken 137 = .ok (.iload_n 1, 1) := by decide +kernel
theorem dX0_pastBlankOrToken_138 : decode cX0_pastBlankOrToken 138 = .ok (.invokevirtual 120, 3) := by decide +kernel
theorem dX0_pastBlankOrToken_141 : decode cX0_pastBlankOrToken 141 = .ok (.ireturn, 1) := by decide +kernel
set_option maxRecDepth 20000 in
theorem ggX0_pastLineComment_X0_byteAt : GoodIn wsX0_pastLineComment wsX0_byteAt := goodIn_r _ [6, 1, 7, 19, 20, 21, 22, 23, 24, 25, 26, 27, 28, 29, 30, 31] (by decide +kernel) (by decide +kernel)
set_option maxRecDepth 20000 in
theorem gX0_pastLineComment_X0_byteAt : GoodIn wsX0_pastLineComment (wsV RX0 78 RX0 yX0_byteAt wsX0_byteAt) := goodIn_app (goodIn_of _ (by decide +kernel)) ggX0_pastLineComment_X0_byteAt
set_option maxRecDepth 20000 in
theorem ggX0_pastLineComment_X0_mayOccur : GoodIn wsX0_pastLineComment wsX0_mayOccur := goodIn_r _ [10, 11, 12, 5, 13] (by decide +kernel) (by decide +kernel)
set_option maxRecDepth 20000 in
theorem gX0_pastLineComment_X0_mayOccur : GoodIn wsX0_pastLineComment (va_wsS RX0 123 yX0_mayOccur wsX0_mayOccur) := goodIn_app (goodIn_of _ (by decide +kernel)) ggX0_pastLineComment_X0_mayOccur
set_option maxRecDepth 20000 in
theorem ggX0_pastLineComment_X0_fail : GoodIn wsX0_pastLineComment wsX0_fail := goodIn_r _ [17, 18, 19, 20, 21, 22, 23, 24, 25, 26, 27, 28, 29, 30, 31] (by decide +kernel) (by decide +kernel)
set_option maxRecDepth 20000 in
theorem gX0_pastLineComment_X0_fail : GoodIn wsX0_pastLineComment (wsV RX0 126 RX0 yX0_fail wsX0_fail) := goodIn_app (goodIn_of _ (by decide +kernel)) ggX0_pastLineComment_X0_fail
theorem dX0_pastLineComment_0 : decode cX0_pastLineComment 0 = .ok (.iload_n 1, 1) := by decide +kernel
theorem dX0_pastLineComment_1 : decode cX0_pastLineComment 1 = .ok (.iconst 2, 1) := by decide +kernel
theorem dX0_pastLineComment_2 : decode cX0_pastLineComment 2 = .ok (.iadd, 1) := by decide +kernel
theorem dX0_pastLineComment_3 : decode cX0_pastLineComment 3 = .ok (.istore_n 2, 1) := by decide +kernel
theorem dX0_pastLineComment_4 : decode cX0_pastLineComment 4 = .ok (.iload_n 2, 1) := by decide +kernel
theorem dX0_pastLineComment_5 : decode cX0_pastLineComment 5 = .ok (.aload_n 0, 1) := by decide +kernel
theorem dX0_pastLineComment_6 : decode cX0_pastLineComment 6 = .ok (.getfield 39, 3) := by decide +kernel
theorem dX0_pastLineComment_9 : decode cX0_pastLineComment 9 = .ok (.if_icmp .ge 36, 3) := by decide +kernel
theorem dX0_pastLineComment_12 : decode cX0_pastLineComment 12 = .ok (.aload_n 0, 1) := by decide +kernel
theorem dX0_pastLineComment_13 : decode cX0_pastLineComment 13 = .ok (.iload_n 2, 1) := by decide +kernel
theorem dX0_pastLineComment_14 : decode cX0_pastLineComment 14 = .ok (.invokevirtual 78, 3) := by decide +kernel
theorem dX0_pastLineComment_17 : decode cX0_pastLineComment 17 = .ok (.istore_n 3, 1) := by decide +kernel
theorem dX0_pastLineComment_18 : decode cX0_pastLineComment 18 = .ok (.iload_n 3, 1) := by decide +kernel
theorem dX0_pastLineComment_19 : decode cX0_pastLineComment 19 = .ok (.bipush 10, 2) := by decide +kernel
theorem dX0_pastLineComment_21 : decode cX0_pastLineComment 21 = .ok (.if_icmp .ne 5, 3) := by decide +kernel
theorem dX0_pastLineComment_24 : decode cX0_pastLineComment 24 = .ok (.iload_n 2, 1) := by decide +kernel
theorem dX0_pastLineComment_25 : decode cX0_pastLineComment 25 = .ok (.ireturn, 1) := by decide +kernel
theorem dX0_pastLineComment_26 : decode cX0_pastLineComment 26 = .ok (.iload_n 3, 1) := by decide +kernel
theorem dX0_pastLineComment_27 : decode cX0_pastLineComment 27 = .ok (.invokestatic 123, 3) := by decide +kernel
theorem dX0_pastLineComment_30 : decode cX0_pastLineComment 30 = .ok (.ifCond .ne 9, 3) := by decide +kernel
theorem dX0_pastLineComment_33 : decode cX0_pastLineComment 33 = .ok (.aload_n 0, 1) := by decide +kernel
theorem dX0_pastLineComment_34 : decode cX0_pastLineComment 34 = .ok (.iload_n 2, 1) := by decide +kernel
theorem dX0_pastLineComment_35 : decode cX0_pastLineComment 35 = .ok (.invokevirtual 126, 3) := by decide +kernel
theorem dX0_pastLineComment_38 : decode cX0_pastLineComment 38 = .ok (.ireturn, 1) := by decide +kernel
theorem dX0_pastLineComment_39 : decode cX0_pastLineComment 39 = .ok (.iinc 2 1, 3) := by decide +kernel
theorem dX0_pastLineComment_42 : decode cX0_pastLineComment 42 = .ok (.goto (-38), 3) := by decide +kernel
theorem dX0_pastLineComment_45 : decode cX0_pastLineComment 45 = .ok (.aload_n 0, 1) := by decide +kernel
theorem dX0_pastLineComment_46 : decode cX0_pastLineComment 46 = .ok (.getfield 39, 3) := by decide +kernel
theorem dX0_pastLineComment_49 : decode cX0_pastLineComment 49 = .ok (.ireturn, 1) := by decide +kernel
set_option maxRecDepth 20000 in
theorem ggX0_pastStarComment_X0_byteAt : GoodIn wsX0_pastStarComment wsX0_byteAt := goodIn_r _ [6, 1, 7, 24, 25, 26, 27, 28, 29, 30, 31, 32, 33, 34, 35, 36] (by decide +kernel) (by decide +kernel)
set_option maxRecDepth 20000 in
theorem gX0_pastStarComment_X0_byteAt : GoodIn wsX0_pastStarComment (wsV RX0 78 RX0 yX0_byteAt wsX0_byteAt) := goodIn_app (goodIn_of _ (by decide +kernel)) ggX0_pastStarComment_X0_byteAt
set_option maxRecDepth 20000 in
theorem ggX0_pastStarComment_X0_mayOccur : GoodIn wsX0_pastStarComment wsX0_mayOccur := goodIn_r _ [10, 11, 12, 5, 13] (by decide +kernel) (by decide +kernel)
set_option maxRecDepth 20000 in
theorem gX0_pastStarComment_X0_mayOccur : GoodIn wsX0_pastStarComment (va_wsS RX0 123 yX0_mayOccur wsX0_mayOccur) := goodIn_app (goodIn_of _ (by decide +kernel)) ggX0_pastStarComment_X0_mayOccur
set_option maxRecDepth 20000 in
theorem ggX0_pastStarComment_X0_fail : GoodIn wsX0_pastStarComment wsX0_fail := goodIn_r _ [17, 18, 24, 25, 26, 27, 28, 29, 30, 31, 32, 33, 34, 35, 36] (by decide +kernel) (by decide +kernel)
set_option maxRecDepth 20000 in
theorem gX0_pastStarComment_X0_fail : GoodIn wsX0_pastStarComment (wsV RX0 126 RX0 yX0_fail wsX0_fail) := goodIn_app (goodIn_of _ (by decide +kernel)) ggX0_pastStarComment_X0_fail
set_option maxRecDepth 20000 in
theorem ggX0_pastStarComment_X0_countLine : GoodIn wsX0_pastStarComment wsX0_countLine := goodIn_r _ [22, 23, 24, 25, 26, 27, 28, 29, 30, 31, 32, 33, 34, 35, 36] (by decide +kernel) (by decide +kernel)
set_option maxRecDepth 20000 in
theorem gX0_pastStarComment_X0_countLine : GoodIn wsX0_pastStarComment (wsV RX0 87 RX0 yX0_countLine wsX0_countLine) := goodIn_app (goodIn_of _ (by decide +kernel)) ggX0_pastStarComment_X0_countLine
theorem dX0_pastStarComment_0 : decode cX0_pastStarComment 0 = .ok (.iload_n 1, 1) := by decide +kernel
theorem dX0_pastStarComment_1 : decode cX0_pastStarComment 1 = .ok (.iconst 2, 1) := by decide +kernel
theorem dX0_pastStarComment_2 : decode cX0_pastStarComment 2 = .ok (.iadd, 1) := by decide +kernel
theorem dX0_pastStarComment_3 : decode cX0_pastStarComment 3 = .ok (.istore_n 2, 1) := by decide +kernel
theorem dX0_pastStarComment_4 : decode cX0_pastStarComment 4 = .ok (.iload_n 2, 1) := by decide +kernel
theorem dX0_pastStarComment_5 : decode cX0_pastStarComment 5 = .ok (.aload_n 0, 1) := by decide +kernel
theorem dX0_pastStarComment_6 : decode cX0_pastStarComment 6 = .ok (.getfield 39, 3) := by decide +kernel
theorem dX0_pastStarComment_9 : decode cX0_pastStarComment 9 = .ok (.if_icmp .ge 55, 3) := by decide +kernel
theorem dX0_pastStarComment_12 : decode cX0_pastStarComment 12 = .ok (.aload_n 0, 1) := by decide +kernel
theorem dX0_pastStarComment_13 : decode cX0_pastStarComment 13 = .ok (.iload_n 2, 1) := by decide +kernel
theorem dX0_pastStarComment_14 : decode cX0_pastStarComment 14 = .ok (.invokevirtual 78, 3) := by decide +kernel
theorem dX0_pastStarComment_17 : decode cX0_pastStarComment 17 = .ok (.istore_n 3, 1) := by decide +kernel
theorem dX0_pastStarComment_18 : decode cX0_pastStarComment 18 = .ok (.iload_n 3, 1) := by decide +kernel
theorem dX0_pastStarComment_19 : decode cX0_pastStarComment 19 = .ok (.bipush 42, 2) := by decide +kernel
theorem dX0_pastStarComment_21 : decode cX0_pastStarComment 21 = .ok (.if_icmp .ne 19, 3) := by decide +kernel
theorem dX0_pastStarComment_24 : decode cX0_pastStarComment 24 = .ok (.aload_n 0, 1) := by decide +kernel
theorem dX0_pastStarComment_25 : decode cX0_pastStarComment 25 = .ok (.iload_n 2, 1) := by decide +kernel
theorem dX0_pastStarComment_26 : decode cX0_pastStarComment 26 = .ok (.iconst 1, 1) := by decide +kernel
theorem dX0_pastStarComment_27 : decode cX0_pastStarComment 27 = .ok (.iadd, 1) := by decide +kernel
theorem dX0_pastStarComment_28 : decode cX0_pastStarComment 28 = .ok (.invokevirtual 78, 3) := by decide +kernel
theorem dX0_pastStarComment_31 : decode cX0_pastStarComment 31 = .ok (.bipush 47, 2) := by decide +kernel
theorem dX0_pastStarComment_33 : decode cX0_pastStarComment 33 = .ok (.if_icmp .ne 7, 3) := by decide +kernel
theorem dX0_pastStarComment_36 : decode cX0_pastStarComment 36 = .ok (.iload_n 2, 1) := by decide +kernel
theorem dX0_pastStarComment_37 : decode cX0_pastStarComment 37 = .ok (.iconst 2, 1) := by decide +kernel
theorem dX0_pastStarComment_38 : decode cX0_pastStarComment 38 = .ok (.iadd, 1) := by decide +kernel
theorem dX0_pastStarComment_39 : decode cX0_pastStarComment 39 = .ok (.ireturn, 1) := by decide +kernel
theorem dX0_pastStarComment_40 : decode cX0_pastStarComment 40 = .ok (.iload_n 3, 1) := by decide +kernel
theorem dX0_pastStarComment_41 : decode cX0_pastStarComment 41 = .ok (.invokestatic 123, 3) := by decide +kernel
theorem dX0_pastStarComment_44 : decode cX0_pastStarComment 44 = .ok (.ifCond .ne 9, 3) := by decide +kernel
theorem dX0_pastStarComment_47 : decode cX0_pastStarComment 47 = .ok (.aload_n 0, 1) := by decide +kernel
theorem dX0_pastStarComment_48 : decode cX0_pastStarComment 48 = .ok (.iload_n 2, 1) := by decide +kernel
theorem dX0_pastStarComment_49 : decode cX0_pastStarComment 49 = .ok (.invokevirtual 126, 3) := by decide +kernel
theorem dX0_pastStarComment_52 : decode cX0_pastStarComment 52 = .ok (.ireturn, 1) := by decide +kernel
theorem dX0_pastStarComment_53 : decode cX0_pastStarComment 53 = .ok (.aload_n 0, 1) := by decide +kernel
theorem dX0_pastStarComment_54 : decode cX0_pastStarComment 54 = .ok (.iload_n 3, 1) := by decide +kernel
theorem dX0_pastStarComment_55 : decode cX0_pastStarComment 55 = .ok (.invokevirtual 87, 3) := by decide +kernel
theorem dX0_pastStarComment_58 : decode cX0_pastStarComment 58 = .ok (.iinc 2 1, 3) := by decide +kernel
theorem dX0_pastStarComment_61 : decode cX0_pastStarComment 61 = .ok (.goto (-57), 3) := by decide +kernel
theorem dX0_pastStarComment_64 : decode cX0_pastStarComment 64 = .ok (.aload_n 0, 1) := by decide +kernel
theorem dX0_pastStarComment_65 : decode cX0_pastStarComment 65 = .ok (.iload_n 1, 1) := by decide +kernel
theorem dX0_pastStarComment_66 : decode cX0_pastStarComment 66 = .ok (.invokevirtual 126, 3) := by decide +kernel
theorem dX0_pastStarComment_69 : decode cX0_pastStarComment 69 = .ok (.ireturn, 1) := by decide +kernel
set_option maxRecDepth 20000 in
theorem ggX0_pastName_X0_byteAt : GoodIn wsX0_pastName wsX0_byteAt := goodIn_r _ [6, 1, 7, 38, 39, 40, 41, 42, 43, 44, 45, 46, 47, 48, 49, 50] (by decide +kernel) (by decide +kernel)
set_option maxRecDepth 20000 in
theorem gX0_pastName_X0_byteAt : GoodIn wsX0_pastName (wsV RX0 78 RX0 yX0_byteAt wsX0_byteAt) := goodIn_app (goodIn_of _ (by decide +kernel)) ggX0_pastName_X0_byteAt
set_option maxRecDepth 20000 in
theorem ggX0_pastName_X0_isNamePart : GoodIn wsX0_pastName wsX0_isNamePart := goodIn_r _ [10, 11, 12, 5, 13, 14, 15, 16] (by decide +kernel) (by decide +kernel)
set_option maxRecDepth 20000 in
theorem gX0_pastName_X0_isNamePart : GoodIn wsX0_pastName (va_wsS RX0 129 yX0_isNamePart wsX0_isNamePart) := goodIn_app (goodIn_of _ (by decide +kernel)) ggX0_pastName_X0_isNamePart
set_option maxRecDepth 20000 in
theorem ggX0_pastName_X0_fail : GoodIn wsX0_pastName wsX0_fail := goodIn_r _ [20, 21, 38, 39, 40, 41, 42, 43, 44, 45, 46, 47, 48, 49, 50] (by decide +kernel) (by decide +kernel)
set_option maxRecDepth 20000 in
theorem gX0_pastName_X0_fail : GoodIn wsX0_pastName (wsV RX0 126 RX0 yX0_fail wsX0_fail) := goodIn_app (goodIn_of _ (by decide +kernel)) ggX0_pastName_X0_fail
set_option maxRecDepth 20000 in
theorem ggX0_pastName_X0_wordNumber : GoodIn wsX0_pastName wsX0_wordNumber := goodIn_r _ [25, 26, 2, 3, 4, 5, 6, 1, 7, 38, 39, 40, 41, 42, 43, 44, 45, 46, 47, 48, 49, 50] (by decide +kernel) (by decide +kernel)
set_option maxRecDepth 20000 in
theorem gX0_pastName_X0_wordNumber : GoodIn wsX0_pastName (wsV RX0 132 RX0 yX0_wordNumber wsX0_wordNumber) := goodIn_app (goodIn_of _ (by decide +kernel)) ggX0_pastName_X0_wordNumber
set_option maxRecDepth 20000 in
theorem ggX0_pastName_X0_keep : GoodIn wsX0_pastName wsX0_keep := goodIn_r _ [30, 31, 32, 33, 34, 35, 36, 37, 38, 39, 40, 41, 42, 43, 44, 45, 46, 47, 48, 49, 50] (by decide +kernel) (by decide +kernel)
set_option maxRecDepth 20000 in
theorem gX0_pastName_X0_keep : GoodIn wsX0_pastName (wsV RX0 135 RX0 yX0_keep wsX0_keep) := goodIn_app (goodIn_of _ (by decide +kernel)) ggX0_pastName_X0_keep
theorem dX0_pastName_0 : decode cX0_pastName 0 = .ok (.iload_n 1, 1) := by decide +kernel
theorem dX0_pastName_1 : decode cX0_pastName 1 = .ok (.iconst 1, 1) := by decide +kernel
theorem dX0_pastName_2 : decode cX0_pastName 2 = .ok (.iadd, 1) := by decide +kernel
theorem dX0_pastName_3 : decode cX0_pastName 3 = .ok (.istore_n 2, 1) := by decide +kernel
theorem dX0_pastName_4 : decode cX0_pastName 4 = .ok (.iload_n 2, 1) := by decide +kernel
theorem dX0_pastName_5 : decode cX0_pastName 5 = .ok (.aload_n 0, 1) := by decide +kernel
theorem dX0_pastName_6 : decode cX0_pastName 6 = .ok (.getfield 39, 3) := by decide +kernel
theorem dX0_pastName_9 : decode cX0_pastName 9 = .ok (.if_icmp .ge 20, 3) := by decide +kernel
theorem dX0_pastName_12 : decode cX0_pastName 12 = .ok (.aload_n 0, 1) := by decide +kernel
theorem dX0_pastName_13 : decode cX0_pastName 13 = .ok (.iload_n 2, 1) := by decide +kernel
theorem dX0_pastName_14 : decode cX0_pastName 14 = .ok (.invokevirtual 78, 3) := by decide +kernel
theorem dX0_pastName_17 : decode cX0_pastName 17 = .ok (.invokestatic 129, 3) := by decide +kernel
theorem dX0_pastName_20 : decode cX0_pastName 20 = .ok (.ifCond .eq 9, 3) := by decide +kernel
theorem dX0_pastName_23 : decode cX0_pastName 23 = .ok (.iinc 2 1, 3) := by decide +kernel
theorem dX0_pastName_26 : decode cX0_pastName 26 = .ok (.goto (-22), 3) := by decide +kernel
theorem dX0_pastName_29 : decode cX0_pastName 29 = .ok (.iload_n 2, 1) := by decide +kernel
theorem dX0_pastName_30 : decode cX0_pastName 30 = .ok (.iload_n 1, 1) := by decide +kernel
theorem dX0_pastName_31 : decode cX0_pastName 31 = .ok (.isub, 1) := by decide +kernel
theorem dX0_pastName_32 : decode cX0_pastName 32 = .ok (.bipush 24, 2) := by decide +kernel
theorem dX0_pastName_34 : decode cX0_pastName 34 = .ok (.if_icmp .le 9, 3) := by decide +kernel
theorem dX0_pastName_37 : decode cX0_pastName 37 = .ok (.aload_n 0, 1) := by decide +kernel
theorem dX0_pastName_38 : decode cX0_pastName 38 = .ok (.iload_n 1, 1) := by decide +kernel
theorem dX0_pastName_39 : decode cX0_pastName 39 = .ok (.invokevirtual 126, 3) := by decide +kernel
theorem dX0_pastName_42 : decode cX0_pastName 42 = .ok (.ireturn, 1) := by decide +kernel
theorem dX0_pastName_43 : decode cX0_pastName 43 = .ok (.aload_n 0, 1) := by decide +kernel
theorem dX0_pastName_44 : decode cX0_pastName 44 = .ok (.iload_n 1, 1) := by decide +kernel
theorem dX0_pastName_45 : decode cX0_pastName 45 = .ok (.iload_n 2, 1) := by decide +kernel
theorem dX0_pastName_46 : decode cX0_pastName 46 = .ok (.iload_n 1, 1) := by decide +kernel
theorem dX0_pastName_47 : decode cX0_pastName 47 = .ok (.isub, 1) := by decide +kernel
theorem dX0_pastName_48 : decode cX0_pastName 48 = .ok (.invokevirtual 132, 3) := by decide +kernel
theorem dX0_pastName_51 : decode cX0_pastName 51 = .ok (.istore_n 3, 1) := by decide +kernel
theorem dX0_pastName_52 : decode cX0_pastName 52 = .ok (.iload_n 3, 1) := by decide +kernel
theorem dX0_pastName_53 : decode cX0_pastName 53 = .ok (.ifCond .lt 14, 3) := by decide +kernel
theorem dX0_pastName_56 : decode cX0_pastName 56 = .ok (.aload_n 0, 1) := by decide +kernel
theorem dX0_pastName_57 : decode cX0_pastName 57 = .ok (.iconst 4, 1) := by decide +kernel
theorem dX0_pastName_58 : decode cX0_pastName 58 = .ok (.iload_n 3, 1) := by decide +kernel
theorem dX0_pastName_59 : decode cX0_pastName 59 = .ok (.iload_n 1, 1) := by decide +kernel
theorem dX0_pastName_60 : decode cX0_pastName 60 = .ok (.iload_n 2, 1) := by decide +kernel
theorem dX0_pastName_61 : decode cX0_pastName 61 = .ok (.invokevirtual 135, 3) := by decide +kernel
theorem dX0_pastName_64 : decode cX0_pastName 64 = .ok (.goto 11, 3) := by decide +kernel
theorem dX0_pastName_67 : decode cX0_pastName 67 = .ok (.aload_n 0, 1) := by decide +kernel
theorem dX0_pastName_68 : decode cX0_pastName 68 = .ok (.iconst 1, 1) := by decide +kernel
theorem dX0_pastName_69 : decode cX0_pastName 69 = .ok (.iconst 0, 1) := by decide +kernel
theorem dX0_pastName_70 : decode cX0_pastName 70 = .ok (.iload_n 1, 1) := by decide +kernel
theorem dX0_pastName_71 : decode cX0_pastName 71 = .ok (.iload_n 2, 1) := by decide +kernel
theorem dX0_pastName_72 : decode cX0_pastName 72 = .ok (.invokevirtual 135, 3) := by decide +kernel
theorem dX0_pastName_75 : decode cX0_pastName 75 = .ok (.ireturn, 1) := by decide +kernel
set_option maxRecDepth 20000 in
theorem ggX0_pastDigits_X0_byteAt : GoodIn wsX0_pastDigits wsX0_byteAt := goodIn_r _ [13, 1, 14, 34, 35, 36, 37, 38, 39, 40, 41, 42, 43, 44, 45, 46] (by decide +kernel) (by decide +kernel)
set_option maxRecDepth 20000 in
theorem gX0_pastDigits_X0_byteAt : GoodIn wsX0_pastDigits (wsV RX0 78 RX0 yX0_byteAt wsX0_byteAt) := goodIn_app (goodIn_of _ (by decide +kernel)) ggX0_pastDigits_X0_byteAt
set_option maxRecDepth 20000 in
theorem ggX0_pastDigits_X0_isDigit : GoodIn wsX0_pastDigits wsX0_isDigit := goodIn_r _ [17] (by decide +kernel) (by decide +kernel)
set_option maxRecDepth 20000 in
theorem gX0_pastDigits_X0_isDigit : GoodIn wsX0_pastDigits (va_wsS RX0 102 yX0_isDigit wsX0_isDigit) := goodIn_app (goodIn_of _ (by decide +kernel)) ggX0_pastDigits_X0_isDigit
set_option maxRecDepth 20000 in
theorem ggX0_pastDigits_X0_fail : GoodIn wsX0_pastDigits wsX0_fail := goodIn_r _ [21, 22, 34, 35, 36, 37, 38, 39, 40, 41, 42, 43, 44, 45, 46] (by decide +kernel) (by decide +kernel)
set_option maxRecDepth 20000 in
theorem gX0_pastDigits_X0_fail : GoodIn wsX0_pastDigits (wsV RX0 126 RX0 yX0_fail wsX0_fail) := goodIn_app (goodIn_of _ (by decide +kernel)) ggX0_pastDigits_X0_fail
set_option maxRecDepth 20000 in
theorem ggX0_pastDigits_X0_keep : GoodIn wsX0_pastDigits wsX0_keep := goodIn_r _ [26, 27, 28, 29, 30, 31, 32, 33, 34, 35, 36, 37, 38, 39, 40, 41, 42, 43, 44, 45, 46] (by decide +kernel) (by decide +kernel)
set_option maxRecDepth 20000 in
theorem gX0_pastDigits_X0_keep : GoodIn wsX0_pastDigits (wsV RX0 135 RX0 yX0_keep wsX0_keep) := goodIn_app (goodIn_of _ (by decide +kernel)) ggX0_pastDigits_X0_keep
theorem dX0_pastDigits_0 : decode cX0_pastDigits 0 = .ok (.lconst 0, 1) := by decide +kernel
theorem dX0_pastDigits_1 : decode cX0_pastDigits 1 = .ok (.lstore_n 2, 1) := by decide +kernel
theorem dX0_pastDigits_2 : decode cX0_pastDigits 2 = .ok (.iload_n 1, 1) := by decide +kernel
theorem dX0_pastDigits_3 : decode cX0_pastDigits 3 = .ok (.istore 4, 2) := by decide +kernel
theorem dX0_pastDigits_5 : decode cX0_pastDigits 5 = .ok (.iload 4, 2) := by decide +kernel
theorem dX0_pastDigits_7 : decode cX0_pastDigits 7 = .ok (.aload_n 0, 1) := by decide +kernel
theorem dX0_pastDigits_8 : decode cX0_pastDigits 8 = .ok (.getfield 39, 3) := by decide +kernel
theorem dX0_pastDigits_11 : decode cX0_pastDigits 11 = .ok (.if_icmp .ge 44, 3) := by decide +kernel
theorem dX0_pastDigits_14 : decode cX0_pastDigits 14 = .ok (.aload_n 0, 1) := by decide +kernel
theorem dX0_pastDigits_15 : decode cX0_pastDigits 15 = .ok (.iload 4, 2) := by decide +kernel
theorem dX0_pastDigits_17 : decode cX0_pastDigits 17 = .ok (.invokevirtual 78, 3) := by decide +kernel
theorem dX0_pastDigits_20 : decode cX0_pastDigits 20 = .ok (.invokestatic 102, 3) := by decide +kernel
theorem dX0_pastDigits_23 : decode cX0_pastDigits 23 = .ok (.ifCond .eq 32, 3) := by decide +kernel
theorem dX0_pastDigits_26 : decode cX0_pastDigits 26 = .ok (.lload_n 2, 1) := by decide +kernel
theorem dX0_pastDigits_27 : decode cX0_pastDigits 27 = .ok (.ldc2_w 139, 3) := by decide +kernel
theorem dX0_pastDigits_30 : decode cX0_pastDigits 30 = .ok (.lmul, 1) := by decide +kernel
theorem dX0_pastDigits_31 : decode cX0_pastDigits 31 = .ok (.aload_n 0, 1) := by decide +kernel
theorem dX0_pastDigits_32 : decode cX0_pastDigits 32 = .ok (.iload 4, 2) := by decide +kernel
theorem dX0_pastDigits_34 : decode cX0_pastDigits 34 = .ok (.invokevirtual 78, 3) := by decide +kernel
theorem dX0_pastDigits_37 : decode cX0_pastDigits 37 = .ok (.bipush 48, 2) := by decide +kernel
theorem dX0_pastDigits_39 : decode cX0_pastDigits 39 = .ok (.isub, 1) := by decide +kernel
theorem dX0_pastDigits_40 : decode cX0_pastDigits 40 = .ok (.i2l, 1) := by decide +kernel
theorem dX0_pastDigits_41 : decode cX0_pastDigits 41 = .ok (.ladd, 1) := by decide +kernel
theorem dX0_pastDigits_42 : decode cX0_pastDigits 42 = .ok (.ldc2_w 141, 3) := by decide +kernel
theorem dX0_pastDigits_45 : decode cX0_pastDigits 45 = .ok (.invokestatic 143, 3) := by decide +kernel
theorem dX0_pastDigits_48 : decode cX0_pastDigits 48 = .ok (.lstore_n 2, 1) := by decide +kernel
theorem dX0_pastDigits_49 : decode cX0_pastDigits 49 = .ok (.iinc 4 1, 3) := by decide +kernel
theorem dX0_pastDigits_52 : decode cX0_pastDigits 52 = .ok (.goto (-47), 3) := by decide +kernel
theorem dX0_pastDigits_55 : decode cX0_pastDigits 55 = .ok (.lload_n 2, 1) := by decide +kernel
theorem dX0_pastDigits_56 : decode cX0_pastDigits 56 = .ok (.ldc2_w 149, 3) := by decide +kernel
theorem dX0_pastDigits_59 : decode cX0_pastDigits 59 = .ok (.lcmp, 1) := by decide +kernel
theorem dX0_pastDigits_60 : decode cX0_pastDigits 60 = .ok (.ifCond .le 11, 3) := by decide +kernel
theorem dX0_pastDigits_63 : decode cX0_pastDigits 63 = .ok (.aload_n 0, 1) := by decide +kernel
theorem dX0_pastDigits_64 : decode cX0_pastDigits 64 = .ok (.iload_n 1, 1) := by decide +kernel
theorem dX0_pastDigits_65 : decode cX0_pastDigits 65 = .ok (.invokevirtual 126, 3) := by decide +kernel
theorem dX0_pastDigits_68 : decode cX0_pastDigits 68 = .ok (.goto 13, 3) := by decide +kernel
theorem dX0_pastDigits_71 : decode cX0_pastDigits 71 = .ok (.aload_n 0, 1) := by decide +kernel
theorem dX0_pastDigits_72 : decode cX0_pastDigits 72 = .ok (.iconst 2, 1) := by decide +kernel
theorem dX0_pastDigits_73 : decode cX0_pastDigits 73 = .ok (.lload_n 2, 1) := by decide +kernel
theorem dX0_pastDigits_74 : decode cX0_pastDigits 74 = .ok (.l2i, 1) := by decide +kernel
theorem dX0_pastDigits_75 : decode cX0_pastDigits 75 = .ok (.iload_n 1, 1) := by decide +kernel
theorem dX0_pastDigits_76 : decode cX0_pastDigits 76 = .ok (.iload 4, 2) := by decide +kernel
theorem dX0_pastDigits_78 : decode cX0_pastDigits 78 = .ok (.invokevirtual 135, 3) := by decide +kernel
theorem dX0_pastDigits_81 : decode cX0_pastDigits 81 = .ok (.ireturn, 1) := by decide +kernel
set_option maxRecDepth 20000 in
theorem ggX0_isHexNumber_X0_byteAt : GoodIn wsX0_isHexNumber wsX0_byteAt := goodIn_r _ [5, 6, 7, 14, 15, 16, 17, 18, 19, 20, 21, 22, 23, 24, 25, 26] (by decide +kernel) (by decide +kernel)
set_option maxRecDepth 20000 in
theorem gX0_isHexNumber_X0_byteAt : GoodIn wsX0_isHexNumber (wsV RX0 78 RX0 yX0_byteAt wsX0_byteAt) := goodIn_app (goodIn_of _ (by decide +kernel)) ggX0_isHexNumber_X0_byteAt
set_option maxRecDepth 20000 in
theorem ggX0_isHexNumber_X0_hexDigit : GoodIn wsX0_isHexNumber wsX0_hexDigit := goodIn_r _ [10, 11, 12, 4, 13] (by decide +kernel) (by decide +kernel)
set_option maxRecDepth 20000 in
theorem gX0_isHexNumber_X0_hexDigit : GoodIn wsX0_isHexNumber (va_wsS RX0 151 yX0_hexDigit wsX0_hexDigit) := goodIn_app (goodIn_of _ (by decide +kernel)) ggX0_isHexNumber_X0_hexDigit
theorem dX0_isHexNumber_0 : decode cX0_isHexNumber 0 = .ok (.aload_n 0, 1) := by decide +kernel
theorem dX0_isHexNumber_1 : decode cX0_isHexNumber 1 = .ok (.iload_n 1, 1) := by decide +kernel
theorem dX0_isHexNumber_2 : decode cX0_isHexNumber 2 = .ok (.invokevirtual 78, 3) := by decide +kernel
theorem dX0_isHexNumber_5 : decode cX0_isHexNumber 5 = .ok (.bipush 48, 2) := by decide +kernel
theorem dX0_isHexNumber_7 : decode cX0_isHexNumber 7 = .ok (.if_icmp .ne 32, 3) := by decide +kernel
theorem dX0_isHexNumber_10 : decode cX0_isHexNumber 10 = .ok (.aload_n 0, 1) := by decide +kernel
theorem dX0_isHexNumber_11 : decode cX0_isHexNumber 11 = .ok (.iload_n 1, 1) := by decide +kernel
theorem dX0_isHexNumber_12 : decode cX0_isHexNumber 12 = .ok (.iconst 1, 1) := by decide +kernel
theorem dX0_isHexNumber_13 : decode cX0_isHexNumber 13 = .ok (.iadd, 1) := by decide +kernel
theorem dX0_isHexNumber_14 : decode cX0_isHexNumber 14 = .ok (.invokevirtual 78, 3) := by decide +kernel
theorem dX0_isHexNumber_17 : decode cX0_isHexNumber 17 = .ok (.bipush 120, 2) := by decide +kernel
theorem dX0_isHexNumber_19 : decode cX0_isHexNumber 19 = .ok (.if_icmp .ne 20, 3) := by decide +kernel
theorem dX0_isHexNumber_22 : decode cX0_isHexNumber 22 = .ok (.aload_n 0, 1) := by decide +kernel
theorem dX0_isHexNumber_23 : decode cX0_isHexNumber 23 = .ok (.iload_n 1, 1) := by decide +kernel
theorem dX0_isHexNumber_24 : decode cX0_isHexNumber 24 = .ok (.iconst 2, 1) := by decide +kernel
theorem dX0_isHexNumber_25 : decode cX0_isHexNumber 25 = .ok (.iadd, 1) := by decide +kernel
theorem dX0_isHexNumber_26 : decode cX0_isHexNumber 26 = .ok (.invokevirtual 78, 3) := by decide +kernel
theorem dX0_isHexNumber_29 : decode cX0_isHexNumber 29 = .ok (.invokestatic 151, 3) := by decide +kernel
theorem dX0_isHexNumber_32 : decode cX0_isHexNumber 32 = .ok (.ifCond .lt 7, 3) := by decide +kernel
theorem dX0_isHexNumber_35 : decode cX0_isHexNumber 35 = .ok (.iconst 1, 1) := by decide +kernel
theorem dX0_isHexNumber_36 : decode cX0_isHexNumber 36 = .ok (.goto 4, 3) := by decide +kernel
theorem dX0_isHexNumber_39 : decode cX0_isHexNumber 39 = .ok (.iconst 0, 1) := by decide +kernel
theorem dX0_isHexNumber_40 : decode cX0_isHexNumber 40 = .ok (.ireturn, 1) := by decide +kernel
set_option maxRecDepth 20000 in
theorem ggX0_pastHexNumber_X0_byteAt : GoodIn wsX0_pastHexNumber wsX0_byteAt := goodIn_r _ [6, 1, 7, 30, 31, 32, 33, 34, 35, 36, 37, 38, 39, 40, 41, 42] (by decide +kernel) (by decide +kernel)
set_option maxRecDepth 20000 in
theorem gX0_pastHexNumber_X0_byteAt : GoodIn wsX0_pastHexNumber (wsV RX0 78 RX0 yX0_byteAt wsX0_byteAt) := goodIn_app (goodIn_of _ (by decide +kernel)) ggX0_pastHexNumber_X0_byteAt
set_option maxRecDepth 20000 in
theorem ggX0_pastHexNumber_X0_hexDigit : GoodIn wsX0_pastHexNumber wsX0_hexDigit := goodIn_r _ [10, 11, 12, 5, 13] (by decide +kernel) (by decide +kernel)
set_option maxRecDepth 20000 in
theorem gX0_pastHexNumber_X0_hexDigit : GoodIn wsX0_pastHexNumber (va_wsS RX0 151 yX0_hexDigit wsX0_hexDigit) := goodIn_app (goodIn_of _ (by decide +kernel)) ggX0_pastHexNumber_X0_hexDigit
set_option maxRecDepth 20000 in
theorem ggX0_pastHexNumber_X0_fail : GoodIn wsX0_pastHexNumber wsX0_fail := goodIn_r _ [17, 18, 30, 31, 32, 33, 34, 35, 36, 37, 38, 39, 40, 41, 42] (by decide +kernel) (by decide +kernel)
set_option maxRecDepth 20000 in
theorem gX0_pastHexNumber_X0_fail : GoodIn wsX0_pastHexNumber (wsV RX0 126 RX0 yX0_fail wsX0_fail) := goodIn_app (goodIn_of _ (by decide +kernel)) ggX0_pastHexNumber_X0_fail
set_option maxRecDepth 20000 in
theorem ggX0_pastHexNumber_X0_keep : GoodIn wsX0_pastHexNumber wsX0_keep := goodIn_r _ [22, 23, 24, 25, 26, 27, 28, 29, 30, 31, 32, 33, 34, 35, 36, 37, 38, 39, 40, 41, 42] (by decide +kernel) (by decide +kernel)
set_option maxRecDepth 20000 in
theorem gX0_pastHexNumber_X0_keep : GoodIn wsX0_pastHexNumber (wsV RX0 135 RX0 yX0_keep wsX0_keep) := goodIn_app (goodIn_of _ (by decide +kernel)) ggX0_pastHexNumber_X0_keep
theorem dX0_pastHexNumber_0 : decode cX0_pastHexNumber 0 = .ok (.iconst 0, 1) := by decide +kernel
theorem dX0_pastHexNumber_1 : decode cX0_pastHexNumber 1 = .ok (.istore_n 2, 1) := by decide +kernel
theorem dX0_pastHexNumber_2 : decode cX0_pastHexNumber 2 = .ok (.iload_n 1, 1) := by decide +kernel
theorem dX0_pastHexNumber_3 : decode cX0_pastHexNumber 3 = .ok (.iconst 2, 1) := by decide +kernel
theorem dX0_pastHexNumber_4 : decode cX0_pastHexNumber 4 = .ok (.iadd, 1) := by decide +kernel
theorem dX0_pastHexNumber_5 : decode cX0_pastHexNumber 5 = .ok (.istore_n 3, 1) := by decide +kernel
theorem dX0_pastHexNumber_6 : decode cX0_pastHexNumber 6 = .ok (.iload_n 3, 1) := by decide +kernel
theorem dX0_pastHexNumber_7 : decode cX0_pastHexNumber 7 = .ok (.aload_n 0, 1) := by decide +kernel
theorem dX0_pastHexNumber_8 : decode cX0_pastHexNumber 8 = .ok (.getfield 39, 3) := by decide +kernel
theorem dX0_pastHexNumber_11 : decode cX0_pastHexNumber 11 = .ok (.if_icmp .ge 33, 3) := by decide +kernel
theorem dX0_pastHexNumber_14 : decode cX0_pastHexNumber 14 = .ok (.aload_n 0, 1) := by decide +kernel
theorem dX0_pastHexNumber_15 : decode cX0_pastHexNumber 15 = .ok (.iload_n 3, 1) := by decide +kernel
theorem dX0_pastHexNumber_16 : decode cX0_pastHexNumber 16 = .ok (.invokevirtual 78, 3) := by decide +kernel
theorem dX0_pastHexNumber_19 : decode cX0_pastHexNumber 19 = .ok (.invokestatic 151, 3) := by decide +kernel
theorem dX0_pastHexNumber_22 : decode cX0_pastHexNumber 22 = .ok (.ifCond .lt 22, 3) := by decide +kernel
theorem dX0_pastHexNumber_25 : decode cX0_pastHexNumber 25 = .ok (.iload_n 2, 1) := by decide +kernel
theorem dX0_pastHexNumber_26 : decode cX0_pastHexNumber 26 = .ok (.iconst 4, 1) := by decide +kernel
theorem dX0_pastHexNumber_27 : decode cX0_pastHexNumber 27 = .ok (.ishl, 1) := by decide +kernel
theorem dX0_pastHexNumber_28 : decode cX0_pastHexNumber 28 = .ok (.aload_n 0, 1) := by decide +kernel
theorem dX0_pastHexNumber_29 : decode cX0_pastHexNumber 29 = .ok (.iload_n 3, 1) := by decide +kernel
theorem dX0_pastHexNumber_30 : decode cX0_pastHexNumber 30 = .ok (.invokevirtual 78, 3) := by decide +kernel
theorem dX0_pastHexNumber_33 : decode cX0_pastHexNumber 33 = .ok (.invokestatic 151, 3) := by decide +kernel
theorem dX0_pastHexNumber_36 : decode cX0_pastHexNumber 36 = .ok (.ior, 1) := by decide +kernel
theorem dX0_pastHexNumber_37 : decode cX0_pastHexNumber 37 = .ok (.istore_n 2, 1) := by decide +kernel
theorem dX0_pastHexNumber_38 : decode cX0_pastHexNumber 38 = .ok (.iinc 3 1, 3) := by decide +kernel
theorem dX0_pastHexNumber_41 : decode cX0_pastHexNumber 41 = .ok (.goto (-35), 3) := by decide +kernel
theorem dX0_pastHexNumber_44 : decode cX0_pastHexNumber 44 = .ok (.iload_n 3, 1) := by decide +kernel
theorem dX0_pastHexNumber_45 : decode cX0_pastHexNumber 45 = .ok (.iload_n 1, 1) := by decide +kernel
theorem dX0_pastHexNumber_46 : decode cX0_pastHexNumber 46 = .ok (.isub, 1) := by decide +kernel
theorem dX0_pastHexNumber_47 : decode cX0_pastHexNumber 47 = .ok (.iconst 2, 1) := by decide +kernel
theorem dX0_pastHexNumber_48 : decode cX0_pastHexNumber 48 = .ok (.isub, 1) := by decide +kernel
theorem dX0_pastHexNumber_49 : decode cX0_pastHexNumber 49 = .ok (.bipush 8, 2) := by decide +kernel
theorem dX0_pastHexNumber_51 : decode cX0_pastHexNumber 51 = .ok (.if_icmp .le 11, 3) := by decide +kernel
theorem dX0_pastHexNumber_54 : decode cX0_pastHexNumber 54 = .ok (.aload_n 0, 1) := by decide +kernel
theorem dX0_pastHexNumber_55 : decode cX0_pastHexNumber 55 = .ok (.iload_n 1, 1) := by decide +kernel
theorem dX0_pastHexNumber_56 : decode cX0_pastHexNumber 56 = .ok (.invokevirtual 126, 3) := by decide +kernel
theorem dX0_pastHexNumber_59 : decode cX0_pastHexNumber 59 = .ok (.goto 11, 3) := by decide +kernel
theorem dX0_pastHexNumber_62 : decode cX0_pastHexNumber 62 = .ok (.aload_n 0, 1) := by decide +kernel
theorem dX0_pastHexNumber_63 : decode cX0_pastHexNumber 63 = .ok (.iconst 2, 1) := by decide +kernel
theorem dX0_pastHexNumber_64 : decode cX0_pastHexNumber 64 = .ok (.iload_n 2, 1) := by decide +kernel
theorem dX0_pastHexNumber_65 : decode cX0_pastHexNumber 65 = .ok (.iload_n 1, 1) := by decide +kernel
theorem dX0_pastHexNumber_66 : decode cX0_pastHexNumber 66 = .ok (.iload_n 3, 1) := by decide +kernel
theorem dX0_pastHexNumber_67 : decode cX0_pastHexNumber 67 = .ok (.invokevirtual 135, 3) := by decide +kernel
theorem dX0_pastHexNumber_70 : decode cX0_pastHexNumber 70 = .ok (.ireturn, 1) := by decide +kernel
set_option maxRecDepth 20000 in
theorem ggX0_pastQuotedCode_X0_codeWidth : GoodIn wsX0_pastQuotedCode wsX0_codeWidth := goodIn_r _ [5, 6, 7, 8, 4, 9, 10, 11, 12, 13, 14, 35, 36, 37, 38, 39, 40, 41, 42, 43, 44, 45, 46, 47] (by decide +kernel) (by decide +kernel)
set_option maxRecDepth 20000 in
theorem gX0_pastQuotedCode_X0_codeWidth : GoodIn wsX0_pastQuotedCode (wsV RX0 71 RX0 yX0_codeWidth wsX0_codeWidth) := goodIn_app (goodIn_of _ (by decide +kernel)) ggX0_pastQuotedCode_X0_codeWidth
set_option maxRecDepth 20000 in
theorem ggX0_pastQuotedCode_X0_byteAt : GoodIn wsX0_pastQuotedCode wsX0_byteAt := goodIn_r _ [9, 10, 11, 35, 36, 37, 38, 39, 40, 41, 42, 43, 44, 45, 46, 47] (by decide +kernel) (by decide +kernel)
set_option maxRecDepth 20000 in
theorem gX0_pastQuotedCode_X0_byteAt : GoodIn wsX0_pastQuotedCode (wsV RX0 78 RX0 yX0_byteAt wsX0_byteAt) := goodIn_app (goodIn_of _ (by decide +kernel)) ggX0_pastQuotedCode_X0_byteAt
set_option maxRecDepth 20000 in
theorem ggX0_pastQuotedCode_X0_fail : GoodIn wsX0_pastQuotedCode wsX0_fail := goodIn_r _ [18, 19, 35, 36, 37, 38, 39, 40, 41, 42, 43, 44, 45, 46, 47] (by decide +kernel) (by decide +kernel)
set_option maxRecDepth 20000 in
theorem gX0_pastQuotedCode_X0_fail : GoodIn wsX0_pastQuotedCode (wsV RX0 126 RX0 yX0_fail wsX0_fail) := goodIn_app (goodIn_of _ (by decide +kernel)) ggX0_pastQuotedCode_X0_fail
set_option maxRecDepth 20000 in
theorem ggX0_pastQuotedCode_X0_codeAt : GoodIn wsX0_pastQuotedCode wsX0_codeAt := goodIn_r _ [23, 6, 7, 8, 4, 9, 10, 11, 12, 13, 14, 35, 36, 37, 38, 39, 40, 41, 42, 43, 44, 45, 46, 47] (by decide +kernel) (by decide +kernel)
set_option maxRecDepth 20000 in
theorem gX0_pastQuotedCode_X0_codeAt : GoodIn wsX0_pastQuotedCode (wsV RX0 75 RX0 yX0_codeAt wsX0_codeAt) := goodIn_app (goodIn_of _ (by decide +kernel)) ggX0_pastQuotedCode_X0_codeAt
set_option maxRecDepth 20000 in
theorem ggX0_pastQuotedCode_X0_keep : GoodIn wsX0_pastQuotedCode wsX0_keep := goodIn_r _ [27, 28, 29, 30, 31, 32, 33, 34, 35, 36, 37, 38, 39, 40, 41, 42, 43, 44, 45, 46, 47] (by decide +kernel) (by decide +kernel)
set_option maxRecDepth 20000 in
theorem gX0_pastQuotedCode_X0_keep : GoodIn wsX0_pastQuotedCode (wsV RX0 135 RX0 yX0_keep wsX0_keep) := goodIn_app (goodIn_of _ (by decide +kernel)) ggX0_pastQuotedCode_X0_keep
theorem dX0_pastQuotedCode_0 : decode cX0_pastQuotedCode 0 = .ok (.aload_n 0, 1) := by decide +kernel
theorem dX0_pastQuotedCode_1 : decode cX0_pastQuotedCode 1 = .ok (.iload_n 1, 1) := by decide +kernel
theorem dX0_pastQuotedCode_2 : decode cX0_pastQuotedCode 2 = .ok (.iconst 1, 1) := by decide +kernel
theorem dX0_pastQuotedCode_3 : decode cX0_pastQuotedCode 3 = .ok (.iadd, 1) := by decide +kernel
theorem dX0_pastQuotedCode_4 : decode cX0_pastQuotedCode 4 = .ok (.bipush 39, 2) := by decide +kernel
theorem dX0_pastQuotedCode_6 : decode cX0_pastQuotedCode 6 = .ok (.invokevirtual 71, 3) := by decide +kernel
theorem dX0_pastQuotedCode_9 : decode cX0_pastQuotedCode 9 = .ok (.istore_n 2, 1) := by decide +kernel
theorem dX0_pastQuotedCode_10 : decode cX0_pastQuotedCode 10 = .ok (.iload_n 1, 1) := by decide +kernel
theorem dX0_pastQuotedCode_11 : decode cX0_pastQuotedCode 11 = .ok (.iconst 1, 1) := by decide +kernel
theorem dX0_pastQuotedCode_12 : decode cX0_pastQuotedCode 12 = .ok (.iadd, 1) := by decide +kernel
theorem dX0_pastQuotedCode_13 : decode cX0_pastQuotedCode 13 = .ok (.iload_n 2, 1) := by decide +kernel
theorem dX0_pastQuotedCode_14 : decode cX0_pastQuotedCode 14 = .ok (.iadd, 1) := by decide +kernel
theorem dX0_pastQuotedCode_15 : decode cX0_pastQuotedCode 15 = .ok (.istore_n 3, 1) := by decide +kernel
theorem dX0_pastQuotedCode_16 : decode cX0_pastQuotedCode 16 = .ok (.iload_n 2, 1) := by decide +kernel
theorem dX0_pastQuotedCode_17 : decode cX0_pastQuotedCode 17 = .ok (.ifCond .eq 13, 3) := by decide +kernel
theorem dX0_pastQuotedCode_20 : decode cX0_pastQuotedCode 20 = .ok (.aload_n 0, 1) := by decide +kernel
theorem dX0_pastQuotedCode_21 : decode cX0_pastQuotedCode 21 = .ok (.iload_n 3, 1) := by decide +kernel
theorem dX0_pastQuotedCode_22 : decode cX0_pastQuotedCode 22 = .ok (.invokevirtual 78, 3) := by decide +kernel
theorem dX0_pastQuotedCode_25 : decode cX0_pastQuotedCode 25 = .ok (.bipush 39, 2) := by decide +kernel
theorem dX0_pastQuotedCode_27 : decode cX0_pastQuotedCode 27 = .ok (.if_icmp .eq 9, 3) := by decide +kernel
theorem dX0_pastQuotedCode_30 : decode cX0_pastQuotedCode 30 = .ok (.aload_n 0, 1) := by decide +kernel
theorem dX0_pastQuotedCode_31 : decode cX0_pastQuotedCode 31 = .ok (.iload_n 1, 1) := by decide +kernel
theorem dX0_pastQuotedCode_32 : decode cX0_pastQuotedCode 32 = .ok (.invokevirtual 126, 3) := by decide +kernel
theorem dX0_pastQuotedCode_35 : decode cX0_pastQuotedCode 35 = .ok (.ireturn, 1) := by decide +kernel
theorem dX0_pastQuotedCode_36 : decode cX0_pastQuotedCode 36 = .ok (.aload_n 0, 1) := by decide +kernel
theorem dX0_pastQuotedCode_37 : decode cX0_pastQuotedCode 37 = .ok (.iconst 2, 1) := by decide +kernel
theorem dX0_pastQuotedCode_38 : decode cX0_pastQuotedCode 38 = .ok (.aload_n 0, 1) := by decide +kernel
theorem dX0_pastQuotedCode_39 : decode cX0_pastQuotedCode 39 = .ok (.iload_n 1, 1) := by decide +kernel
theorem dX0_pastQuotedCode_40 : decode cX0_pastQuotedCode 40 = .ok (.iconst 1, 1) := by decide +kernel
theorem dX0_pastQuotedCode_41 : decode cX0_pastQuotedCode 41 = .ok (.iadd, 1) := by decide +kernel
theorem dX0_pastQuotedCode_42 : decode cX0_pastQuotedCode 42 = .ok (.invokevirtual 75, 3) := by decide +kernel
theorem dX0_pastQuotedCode_45 : decode cX0_pastQuotedCode 45 = .ok (.iload_n 1, 1) := by decide +kernel
theorem dX0_pastQuotedCode_46 : decode cX0_pastQuotedCode 46 = .ok (.iload_n 3, 1) := by decide +kernel
theorem dX0_pastQuotedCode_47 : decode cX0_pastQuotedCode 47 = .ok (.iconst 1, 1) := by decide +kernel
theorem dX0_pastQuotedCode_48 : decode cX0_pastQuotedCode 48 = .ok (.iadd, 1) := by decide +kernel
theorem dX0_pastQuotedCode_49 : decode cX0_pastQuotedCode 49 = .ok (.invokevirtual 135, 3) := by decide +kernel
theorem dX0_pastQuotedCode_52 : decode cX0_pastQuotedCode 52 = .ok (.ireturn, 1) := by decide +kernel
set_option maxRecDepth 20000 in
theorem ggX0_pastString_X0_byteAt : GoodIn wsX0_pastString wsX0_byteAt := goodIn_r _ [5, 6, 7, 31, 32, 33, 34, 35, 36, 37, 38, 39, 40, 41, 42, 43] (by decide +kernel) (by decide +kernel)
set_option maxRecDepth 20000 in
theorem gX0_pastString_X0_byteAt : GoodIn wsX0_pastString (wsV RX0 78 RX0 yX0_byteAt wsX0_byteAt) := goodIn_app (goodIn_of _ (by decide +kernel)) ggX0_pastString_X0_byteAt
set_option maxRecDepth 20000 in
theorem ggX0_pastString_X0_keep : GoodIn wsX0_pastString wsX0_keep := goodIn_r _ [11, 12, 13, 14, 15, 16, 17, 18, 31, 32, 33, 34, 35, 36, 37, 38, 39, 40, 41, 42, 43] (by decide +kernel) (by decide +kernel)
set_option maxRecDepth 20000 in
theorem gX0_pastString_X0_keep : GoodIn wsX0_pastString (wsV RX0 135 RX0 yX0_keep wsX0_keep) := goodIn_app (goodIn_of _ (by decide +kernel)) ggX0_pastString_X0_keep
set_option maxRecDepth 20000 in
theorem ggX0_pastString_X0_codeWidth : GoodIn wsX0_pastString wsX0_codeWidth := goodIn_r _ [22, 1, 2, 3, 4, 5, 6, 7, 23, 24, 25, 31, 32, 33, 34, 35, 36, 37, 38, 39, 40, 41, 42, 43] (by decide +kernel) (by decide +kernel)
set_option maxRecDepth 20000 in
theorem gX0_pastString_X0_codeWidth : GoodIn wsX0_pastString (wsV RX0 71 RX0 yX0_codeWidth wsX0_codeWidth) := goodIn_app (goodIn_of _ (by decide +kernel)) ggX0_pastString_X0_codeWidth
set_option maxRecDepth 20000 in
theorem ggX0_pastString_X0_fail : GoodIn wsX0_pastString wsX0_fail := goodIn_r _ [29, 30, 31, 32, 33, 34, 35, 36, 37, 38, 39, 40, 41, 42, 43] (by decide +kernel) (by decide +kernel)
set_option maxRecDepth 20000 in
theorem gX0_pastString_X0_fail : GoodIn wsX0_pastString (wsV RX0 126 RX0 yX0_fail wsX0_fail) := goodIn_app (goodIn_of _ (by decide +kernel)) ggX0_pastString_X0_fail
theorem dX0_pastString_0 : decode cX0_pastString 0 = .ok (.iload_n 1, 1) := by decide +kernel
theorem dX0_pastString_1 : decode cX0_pastString 1 = .ok (.iconst 1, 1) := by decide +kernel
theorem dX0_pastString_2 : decode cX0_pastString 2 = .ok (.iadd, 1) := by decide +kernel
theorem dX0_pastString_3 : decode cX0_pastString 3 = .ok (.istore_n 2, 1) := by decide +kernel
theorem dX0_pastString_4 : decode cX0_pastString 4 = .ok (.iconst 0, 1) := by decide +kernel
theorem dX0_pastString_5 : decode cX0_pastString 5 = .ok (.istore_n 3, 1) := by decide +kernel
theorem dX0_pastString_6 : decode cX0_pastString 6 = .ok (.iload_n 3, 1) := by decide +kernel
theorem dX0_pastString_7 : decode cX0_pastString 7 = .ok (.sipush 200, 3) := by decide +kernel
theorem dX0_pastString_10 : decode cX0_pastString 10 = .ok (.if_icmp .gt 55, 3) := by decide +kernel
theorem dX0_pastString_13 : decode cX0_pastString 13 = .ok (.aload_n 0, 1) := by decide +kernel
theorem dX0_pastString_14 : decode cX0_pastString 14 = .ok (.iload_n 2, 1) := by decide +kernel
theorem dX0_pastString_15 : decode cX0_pastString 15 = .ok (.invokevirtual 78, 3) := by decide +kernel
theorem dX0_pastString_18 : decode cX0_pastString 18 = .ok (.bipush 34, 2) := by decide +kernel
theorem dX0_pastString_20 : decode cX0_pastString 20 = .ok (.if_icmp .ne 14, 3) := by decide +kernel
theorem dX0_pastString_23 : decode cX0_pastString 23 = .ok (.aload_n 0, 1) := by decide +kernel
theorem dX0_pastString_24 : decode cX0_pastString 24 = .ok (.iconst 3, 1) := by decide +kernel
theorem dX0_pastString_25 : decode cX0_pastString 25 = .ok (.iload_n 3, 1) := by decide +kernel
theorem dX0_pastString_26 : decode cX0_pastString 26 = .ok (.iload_n 1, 1) := by decide +kernel
theorem dX0_pastString_27 : decode cX0_pastString 27 = .ok (.iload_n 2, 1) := by decide +kernel
theorem dX0_pastString_28 : decode cX0_pastString 28 = .ok (.iconst 1, 1) := by decide +kernel
theorem dX0_pastString_29 : decode cX0_pastString 29 = .ok (.iadd, 1) := by decide +kernel
theorem dX0_pastString_30 : decode cX0_pastString 30 = .ok (.invokevirtual 135, 3) := by decide +kernel
theorem dX0_pastString_33 : decode cX0_pastString 33 = .ok (.ireturn, 1) := by decide +kernel
theorem dX0_pastString_34 : decode cX0_pastString 34 = .ok (.aload_n 0, 1) := by decide +kernel
theorem dX0_pastString_35 : decode cX0_pastString 35 = .ok (.iload_n 2, 1) := by decide +kernel
theorem dX0_pastString_36 : decode cX0_pastString 36 = .ok (.bipush 34, 2) := by decide +kernel
theorem dX0_pastString_38 : decode cX0_pastString 38 = .ok (.invokevirtual 71, 3) := by decide +kernel
theorem dX0_pastString_41 : decode cX0_pastString 41 = .ok (.istore 4, 2) := by decide +kernel
theorem dX0_pastString_43 : decode cX0_pastString 43 = .ok (.iload 4, 2) := by decide +kernel
theorem dX0_pastString_45 : decode cX0_pastString 45 = .ok (.ifCond .ne 9, 3) := by decide +kernel
theorem dX0_pastString_48 : decode cX0_pastString 48 = .ok (.aload_n 0, 1) := by decide +kernel
theorem dX0_pastString_49 : decode cX0_pastString 49 = .ok (.iload_n 1, 1) := by decide +kernel
theorem dX0_pastString_50 : decode cX0_pastString 50 = .ok (.invokevirtual 126, 3) := by decide +kernel
theorem dX0_pastString_53 : decode cX0_pastString 53 = .ok (.ireturn, 1) := by decide +kernel
theorem dX0_pastString_54 : decode cX0_pastString 54 = .ok (.iload_n 2, 1) := by decide +kernel
theorem dX0_pastString_55 : decode cX0_pastString 55 = .ok (.iload 4, 2) := by decide +kernel
theorem dX0_pastString_57 : decode cX0_pastString 57 = .ok (.iadd, 1) := by decide +kernel
theorem dX0_pastString_58 : decode cX0_pastString 58 = .ok (.istore_n 2, 1) := by decide +kernel
theorem dX0_pastString_59 : decode cX0_pastString 59 = .ok (.iinc 3 1, 3) := by decide +kernel
theorem dX0_pastString_62 : decode cX0_pastString 62 = .ok (.goto (-56), 3) := by decide +kernel
theorem dX0_pastString_65 : decode cX0_pastString 65 = .ok (.aload_n 0, 1) := by decide +kernel
theorem dX0_pastString_66 : decode cX0_pastString 66 = .ok (.iload_n 1, 1) := by decide +kernel
theorem dX0_pastString_67 : decode cX0_pastString 67 = .ok (.invokevirtual 126, 3) := by decide +kernel
theorem dX0_pastString_70 : decode cX0_pastString 70 = .ok (.ireturn, 1) := by decide +kernel
set_option maxRecDepth 20000 in
theorem ggX0_pastSign_X0_byteAt : GoodIn wsX0_pastSign wsX0_byteAt := goodIn_r _ [5, 6, 7, 39, 40, 41, 42, 43, 44, 45, 46, 47, 48, 49, 50, 51] (by decide +kernel) (by decide +kernel)
set_option maxRecDepth 20000 in
theorem gX0_pastSign_X0_byteAt : GoodIn wsX0_pastSign (wsV RX0 78 RX0 yX0_byteAt wsX0_byteAt) := goodIn_app (goodIn_of _ (by decide +kernel)) ggX0_pastSign_X0_byteAt
set_option maxRecDepth 20000 in
theorem ggX0_pastSign_X0_signOfThree : GoodIn wsX0_pastSign wsX0_signOfThree := goodIn_r _ [10] (by decide +kernel) (by decide +kernel)
set_option maxRecDepth 20000 in
theorem gX0_pastSign_X0_signOfThree : GoodIn wsX0_pastSign (va_wsS RX0 154 yX0_signOfThree wsX0_signOfThree) := goodIn_app (goodIn_of _ (by decide +kernel)) ggX0_pastSign_X0_signOfThree
set_option maxRecDepth 20000 in
theorem ggX0_pastSign_X0_keep : GoodIn wsX0_pastSign wsX0_keep := goodIn_r _ [14, 15, 16, 17, 18, 19, 20, 21, 39, 40, 41, 42, 43, 44, 45, 46, 47, 48, 49, 50, 51] (by decide +kernel) (by decide +kernel)
set_option maxRecDepth 20000 in
theorem gX0_pastSign_X0_keep : GoodIn wsX0_pastSign (wsV RX0 135 RX0 yX0_keep wsX0_keep) := goodIn_app (goodIn_of _ (by decide +kernel)) ggX0_pastSign_X0_keep
set_option maxRecDepth 20000 in
theorem ggX0_pastSign_X0_signOfTwo : GoodIn wsX0_pastSign wsX0_signOfTwo := goodIn_r _ [24, 25, 26, 4, 27, 28, 29, 30] (by decide +kernel) (by decide +kernel)
set_option maxRecDepth 20000 in
theorem gX0_pastSign_X0_signOfTwo : GoodIn wsX0_pastSign (va_wsS RX0 158 yX0_signOfTwo wsX0_signOfTwo) := goodIn_app (goodIn_of _ (by decide +kernel)) ggX0_pastSign_X0_signOfTwo
set_option maxRecDepth 20000 in
theorem ggX0_pastSign_X0_signOfOne : GoodIn wsX0_pastSign wsX0_signOfOne := goodIn_r _ [33] (by decide +kernel) (by decide +kernel)
set_option maxRecDepth 20000 in
theorem gX0_pastSign_X0_signOfOne : GoodIn wsX0_pastSign (va_wsS RX0 161 yX0_signOfOne wsX0_signOfOne) := goodIn_app (goodIn_of _ (by decide +kernel)) ggX0_pastSign_X0_signOfOne
set_option maxRecDepth 20000 in
theorem ggX0_pastSign_X0_fail : GoodIn wsX0_pastSign wsX0_fail := goodIn_r _ [37, 38, 39, 40, 41, 42, 43, 44, 45, 46, 47, 48, 49, 50, 51] (by decide +kernel) (by decide +kernel)
set_option maxRecDepth 20000 in
theorem gX0_pastSign_X0_fail : GoodIn wsX0_pastSign (wsV RX0 126 RX0 yX0_fail wsX0_fail) := goodIn_app (goodIn_of _ (by decide +kernel)) ggX0_pastSign_X0_fail
theorem dX0_pastSign_0 : decode cX0_pastSign 0 = .ok (.aload_n 0, 1) := by decide +kernel
theorem dX0_pastSign_1 : decode cX0_pastSign 1 = .ok (.iload_n 1, 1) := by decide +kernel
theorem dX0_pastSign_2 : decode cX0_pastSign 2 = .ok (.invokevirtual 78, 3) := by decide +kernel
theorem dX0_pastSign_5 : decode cX0_pastSign 5 = .ok (.istore_n 2, 1) := by decide +kernel
theorem dX0_pastSign_6 : decode cX0_pastSign 6 = .ok (.aload_n 0, 1) := by decide +kernel
theorem dX0_pastSign_7 : decode cX0_pastSign 7 = .ok (.iload_n 1, 1) := by decide +kernel
theorem dX0_pastSign_8 : decode cX0_pastSign 8 = .ok (.iconst 1, 1) := by decide +kernel
theorem dX0_pastSign_9 : decode cX0_pastSign 9 = .ok (.iadd, 1) := by decide +kernel
theorem dX0_pastSign_10 : decode cX0_pastSign 10 = .ok (.invokevirtual 78, 3) := by decide +kernel
theorem dX0_pastSign_13 : decode cX0_pastSign 13 = .ok (.istore_n 3, 1) := by decide +kernel
theorem dX0_pastSign_14 : decode cX0_pastSign 14 = .ok (.iload_n 2, 1) := by decide +kernel
theorem dX0_pastSign_15 : decode cX0_pastSign 15 = .ok (.iload_n 3, 1) := by decide +kernel
theorem dX0_pastSign_16 : decode cX0_pastSign 16 = .ok (.aload_n 0, 1) := by decide +kernel
theorem dX0_pastSign_17 : decode cX0_pastSign 17 = .ok (.iload_n 1, 1) := by decide +kernel
theorem dX0_pastSign_18 : decode cX0_pastSign 18 = .ok (.iconst 2, 1) := by decide +kernel
theorem dX0_pastSign_19 : decode cX0_pastSign 19 = .ok (.iadd, 1) := by decide +kernel
theorem dX0_pastSign_20 : decode cX0_pastSign 20 = .ok (.invokevirtual 78, 3) := by decide +kernel
theorem dX0_pastSign_23 : decode cX0_pastSign 23 = .ok (.invokestatic 154, 3) := by decide +kernel
theorem dX0_pastSign_26 : decode cX0_pastSign 26 = .ok (.istore 4, 2) := by decide +kernel
theorem dX0_pastSign_28 : decode cX0_pastSign 28 = .ok (.iload 4, 2) := by decide +kernel
theorem dX0_pastSign_30 : decode cX0_pastSign 30 = .ok (.ifCond .lt 15, 3) := by decide +kernel
theorem dX0_pastSign_33 : decode cX0_pastSign 33 = .ok (.aload_n 0, 1) := by decide +kernel
theorem dX0_pastSign_34 : decode cX0_pastSign 34 = .ok (.iconst 5, 1) := by decide +kernel
theorem dX0_pastSign_35 : decode cX0_pastSign 35 = .ok (.iload 4, 2) := by decide +kernel
theorem dX0_pastSign_37 : decode cX0_pastSign 37 = .ok (.iload_n 1, 1) := by decide +kernel
theorem dX0_pastSign_38 : decode cX0_pastSign 38 = .ok (.iload_n 1, 1) := by decide +kernel
theorem dX0_pastSign_39 : decode cX0_pastSign 39 = .ok (.iconst 3, 1) := by decide +kernel
theorem dX0_pastSign_40 : decode cX0_pastSign 40 = .ok (.iadd, 1) := by decide +kernel
theorem dX0_pastSign_41 : decode cX0_pastSign 41 = .ok (.invokevirtual 135, 3) := by decide +kernel
theorem dX0_pastSign_44 : decode cX0_pastSign 44 = .ok (.ireturn, 1) := by decide +kernel
theorem dX0_pastSign_45 : decode cX0_pastSign 45 = .ok (.iload_n 2, 1) := by decide +kernel
theorem dX0_pastSign_46 : decode cX0_pastSign 46 = .ok (.iload_n 3, 1) := by decide +kernel
theorem dX0_pastSign_47 : decode cX0_pastSign 47 = .ok (.invokestatic 158, 3) := by decide +kernel
theorem dX0_pastSign_50 : decode cX0_pastSign 50 = .ok (.istore 5, 2) := by decide +kernel
theorem dX0_pastSign_52 : decode cX0_pastSign 52 = .ok (.iload 5, 2) := by decide +kernel
theorem dX0_pastSign_54 : decode cX0_pastSign 54 = .ok (.ifCond .lt 15, 3) := by decide +kernel
theorem dX0_pastSign_57 : decode cX0_pastSign 57 = .ok (.aload_n 0, 1) := by decide +kernel
theorem dX0_pastSign_58 : decode cX0_pastSign 58 = .ok (.iconst 5, 1) := by decide +kernel
theorem dX0_pastSign_59 : decode cX0_pastSign 59 = .ok (.iload 5, 2) := by decide +kernel
theorem dX0_pastSign_61 : decode cX0_pastSign 61 = .ok (.iload_n 1, 1) := by decide +kernel
theorem dX0_pastSign_62 : decode cX0_pastSign 62 = .ok (.iload_n 1, 1) := by decide +kernel
theorem dX0_pastSign_63 : decode cX0_pastSign 63 = .ok (.iconst 2, 1) := by decide +kernel
theorem dX0_pastSign_64 : decode cX0_pastSign 64 = .ok (.iadd, 1) := by decide +kernel
theorem dX0_pastSign_65 : decode cX0_pastSign 65 = .ok (.invokevirtual 135, 3) := by decide +kernel
theorem dX0_pastSign_68 : decode cX0_pastSign 68 = .ok (.ireturn, 1) := by decide +kernel
theorem dX0_pastSign_69 : decode cX0_pastSign 69 = .ok (.iload_n 2, 1) := by decide +kernel
theorem dX0_pastSign_70 : decode cX0_pastSign 70 = .ok (.invokestatic 161, 3) := by decide +kernel
theorem dX0_pastSign_73 : decode cX0_pastSign 73 = .ok (.istore 6, 2) := by decide +kernel
theorem dX0_pastSign_75 : decode cX0_pastSign 75 = .ok (.iload 6, 2) := by decide +kernel
theorem dX0_pastSign_77 : decode cX0_pastSign 77 = .ok (.ifCond .lt 17, 3) := by decide +kernel
theorem dX0_pastSign_80 : decode cX0_pastSign 80 = .ok (.aload_n 0, 1) := by decide +kernel
theorem dX0_pastSign_81 : decode cX0_pastSign 81 = .ok (.iconst 5, 1) := by decide +kernel
theorem dX0_pastSign_82 : decode cX0_pastSign 82 = .ok (.iload 6, 2) := by decide +kernel
theorem dX0_pastSign_84 : decode cX0_pastSign 84 = .ok (.iload_n 1, 1) := by decide +kernel
theorem dX0_pastSign_85 : decode cX0_pastSign 85 = .ok (.iload_n 1, 1) := by decide +kernel
theorem dX0_pastSign_86 : decode cX0_pastSign 86 = .ok (.iconst 1, 1) := by decide +kernel
theorem dX0_pastSign_87 : decode cX0_pastSign 87 = .ok (.iadd, 1) := by decide +kernel
theorem dX0_pastSign_88 : decode cX0_pastSign 88 = .ok (.invokevirtual 135, 3) := by decide +kernel
theorem dX0_pastSign_91 : decode cX0_pastSign 91 = .ok (.goto 8, 3) := by decide +kernel
theorem dX0_pastSign_94 : decode cX0_pastSign 94 = .ok (.aload_n 0, 1) := by decide +kernel
theorem dX0_pastSign_95 : decode cX0_pastSign 95 = .ok (.iload_n 1, 1) := by decide +kernel
theorem dX0_pastSign_96 : decode cX0_pastSign 96 = .ok (.invokevirtual 126, 3) := by decide +kernel
theorem dX0_pastSign_99 : decode cX0_pastSign 99 = .ok (.ireturn, 1) := by decide +kernel
theorem dX0_keep_0 : decode cX0_keep 0 = .ok (.aload_n 0, 1) := by decide +kernel
theorem dX0_keep_1 : decode cX0_keep 1 = .ok (.getfield 48, 3) := by decide +kernel
theorem dX0_keep_4 : decode cX0_keep 4 = .ok (.ifCond .lt 81, 3) := by decide +kernel
theorem dX0_keep_7 : decode cX0_keep 7 = .ok (.aload_n 0, 1) := by decide +kernel
theorem dX0_keep_8 : decode cX0_keep 8 = .ok (.getfield 48, 3) := by decide +kernel
theorem dX0_keep_11 : decode cX0_keep 11 = .ok (.aload_n 0, 1) := by decide +kernel
theorem dX0_keep_12 : decode cX0_keep 12 = .ok (.getfield 16, 3) := by decide +kernel
theorem dX0_keep_15 : decode cX0_keep 15 = .ok (.arraylength, 1) := by decide +kernel
theorem dX0_keep_16 : decode cX0_keep 16 = .ok (.if_icmp .ge 69, 3) := by decide +kernel
theorem dX0_keep_19 : decode cX0_keep 19 = .ok (.aload_n 0, 1) := by decide +kernel
theorem dX0_keep_20 : decode cX0_keep 20 = .ok (.getfield 16, 3) := by decide +kernel
theorem dX0_keep_23 : decode cX0_keep 23 = .ok (.aload_n 0, 1) := by decide +kernel
theorem dX0_keep_24 : decode cX0_keep 24 = .ok (.getfield 48, 3) := by decide +kernel
theorem dX0_keep_27 : decode cX0_keep 27 = .ok (.iload_n 1, 1) := by decide +kernel
theorem dX0_keep_28 : decode cX0_keep 28 = .ok (.iastore, 1) := by decide +kernel
theorem dX0_keep_29 : decode cX0_keep 29 = .ok (.aload_n 0, 1) := by decide +kernel
theorem dX0_keep_30 : decode cX0_keep 30 = .ok (.getfield 29, 3) := by decide +kernel
theorem dX0_keep_33 : decode cX0_keep 33 = .ok (.aload_n 0, 1) := by decide +kernel
theorem dX0_keep_34 : decode cX0_keep 34 = .ok (.getfield 48, 3) := by decide +kernel
theorem dX0_keep_37 : decode cX0_keep 37 = .ok (.iload_n 2, 1) := by decide +kernel
theorem dX0_keep_38 : decode cX0_keep 38 = .ok (.iastore, 1) := by decide +kernel
theorem dX0_keep_39 : decode cX0_keep 39 = .ok (.aload_n 0, 1) := by decide +kernel
theorem dX0_keep_40 : decode cX0_keep 40 = .ok (.getfield 20, 3) := by decide +kernel
theorem dX0_keep_43 : decode cX0_keep 43 = .ok (.aload_n 0, 1) := by decide +kernel
theorem dX0_keep_44 : decode cX0_keep 44 = .ok (.getfield 48, 3) := by decide +kernel
theorem dX0_keep_47 : decode cX0_keep 47 = .ok (.iload_n 3, 1) := by decide +kernel
theorem dX0_keep_48 : decode cX0_keep 48 = .ok (.iastore, 1) := by decide +kernel
theorem dX0_keep_49 : decode cX0_keep 49 = .ok (.aload_n 0, 1) := by decide +kernel
theorem dX0_keep_50 : decode cX0_keep 50 = .ok (.getfield 23, 3) := by decide +kernel
theorem dX0_keep_53 : decode cX0_keep 53 = .ok (.aload_n 0, 1) := by decide +kernel
theorem dX0_keep_54 : decode cX0_keep 54 = .ok (.getfield 48, 3) := by decide +kernel
theorem dX0_keep_57 : decode cX0_keep 57 = .ok (.iload 4, 2) := by decide +kernel
theorem dX0_keep_59 : decode cX0_keep 59 = .ok (.iload_n 3, 1) := by decide +kernel
theorem dX0_keep_60 : decode cX0_keep 60 = .ok (.isub, 1) := by decide +kernel
theorem dX0_keep_61 : decode cX0_keep 61 = .ok (.iastore, 1) := by decide +kernel
theorem dX0_keep_62 : decode cX0_keep 62 = .ok (.aload_n 0, 1) := by decide +kernel
theorem dX0_keep_63 : decode cX0_keep 63 = .ok (.getfield 26, 3) := by decide +kernel
theorem dX0_keep_66 : decode cX0_keep 66 = .ok (.aload_n 0, 1) := by decide +kernel
theorem dX0_keep_67 : decode cX0_keep 67 = .ok (.getfield 48, 3) := by decide +kernel
theorem dX0_keep_70 : decode cX0_keep 70 = .ok (.aload_n 0, 1) := by decide +kernel
theorem dX0_keep_71 : decode cX0_keep 71 = .ok (.getfield 42, 3) := by decide +kernel
theorem dX0_keep_74 : decode cX0_keep 74 = .ok (.iastore, 1) := by decide +kernel
theorem dX0_keep_75 : decode cX0_keep 75 = .ok (.aload_n 0, 1) := by decide +kernel
theorem dX0_keep_76 : decode cX0_keep 76 = .ok (.dup, 1) := by decide +kernel
theorem dX0_keep_77 : decode cX0_keep 77 = .ok (.getfield 48, 3) := by decide +kernel
theorem dX0_keep_80 : decode cX0_keep 80 = .ok (.iconst 1, 1) := by decide +kernel
theorem dX0_keep_81 : decode cX0_keep 81 = .ok (.iadd, 1) := by decide +kernel
theorem dX0_keep_82 : decode cX0_keep 82 = .ok (.putfield 48, 3) := by decide +kernel
theorem dX0_keep_85 : decode cX0_keep 85 = .ok (.iload 4, 2) := by decide +kernel
theorem dX0_keep_87 : decode cX0_keep 87 = .ok (.ireturn, 1) := by decide +kernel
theorem dX0_fail_0 : decode cX0_fail 0 = .ok (.aload_n 0, 1) := by decide +kernel
theorem dX0_fail_1 : decode cX0_fail 1 = .ok (.iload_n 1, 1) := by decide +kernel
theorem dX0_fail_2 : decode cX0_fail 2 = .ok (.putfield 45, 3) := by decide +kernel
theorem dX0_fail_5 : decode cX0_fail 5 = .ok (.iload_n 1, 1) := by decide +kernel
theorem dX0_fail_6 : decode cX0_fail 6 = .ok (.ireturn, 1) := by decide +kernel
theorem dX0_countLine_0 : decode cX0_countLine 0 = .ok (.iload_n 1, 1) := by decide +kernel
theorem dX0_countLine_1 : decode cX0_countLine 1 = .ok (.bipush 10, 2) := by decide +kernel
theorem dX0_countLine_3 : decode cX0_countLine 3 = .ok (.if_icmp .ne 13, 3) := by decide +kernel
theorem dX0_countLine_6 : decode cX0_countLine 6 = .ok (.aload_n 0, 1) := by decide +kernel
theorem dX0_countLine_7 : decode cX0_countLine 7 = .ok (.dup, 1) := by decide +kernel
theorem dX0_countLine_8 : decode cX0_countLine 8 = .ok (.getfield 42, 3) := by decide +kernel
theorem dX0_countLine_11 : decode cX0_countLine 11 = .ok (.iconst 1, 1) := by decide +kernel
theorem dX0_countLine_12 : decode cX0_countLine 12 = .ok (.iadd, 1) := by decide +kernel
theorem dX0_countLine_13 : decode cX0_countLine 13 = .ok (.putfield 42, 3) := by decide +kernel
theorem dX0_countLine_16 : decode cX0_countLine 16 = .ok (.return_, 1) := by decide +kernel
theorem dX0_isToken_0 : decode cX0_isToken 0 = .ok (.iload_n 1, 1) := by decide +kernel
theorem dX0_isToken_1 : decode cX0_isToken 1 = .ok (.ifCond .lt 24, 3) := by decide +kernel
theorem dX0_isToken_4 : decode cX0_isToken 4 = .ok (.iload_n 1, 1) := by decide +kernel
theorem dX0_isToken_5 : decode cX0_isToken 5 = .ok (.aload_n 0, 1) := by decide +kernel
theorem dX0_isToken_6 : decode cX0_isToken 6 = .ok (.getfield 48, 3) := by decide +kernel
theorem dX0_isToken_9 : decode cX0_isToken 9 = .ok (.if_icmp .ge 16, 3) := by decide +kernel
theorem dX0_isToken_12 : decode cX0_isToken 12 = .ok (.iload_n 1, 1) := by decide +kernel
theorem dX0_isToken_13 : decode cX0_isToken 13 = .ok (.aload_n 0, 1) := by decide +kernel
theorem dX0_isToken_14 : decode cX0_isToken 14 = .ok (.getfield 16, 3) := by decide +kernel
theorem dX0_isToken_17 : decode cX0_isToken 17 = .ok (.arraylength, 1) := by decide +kernel
theorem dX0_isToken_18 : decode cX0_isToken 18 = .ok (.if_icmp .ge 7, 3) := by decide +kernel
theorem dX0_isToken_21 : decode cX0_isToken 21 = .ok (.iconst 1, 1) := by decide +kernel
theorem dX0_isToken_22 : decode cX0_isToken 22 = .ok (.goto 4, 3) := by decide +kernel
theorem dX0_isToken_25 : decode cX0_isToken 25 = .ok (.iconst 0, 1) := by decide +kernel
theorem dX0_isToken_26 : decode cX0_isToken 26 = .ok (.ireturn, 1) := by decide +kernel
set_option maxRecDepth 20000 in
theorem ggX0_isOfKind_X0_isToken : GoodIn wsX0_isOfKind wsX0_isToken := goodIn_r _ [6, 7, 1, 8, 9, 10, 11, 12, 13, 14, 15, 16, 17, 18, 19, 20] (by decide +kernel) (by decide +kernel)
set_option maxRecDepth 20000 in
theorem gX0_isOfKind_X0_isToken : GoodIn wsX0_isOfKind (wsV RX0 63 RX0 yX0_isToken wsX0_isToken) := goodIn_app (goodIn_of _ (by decide +kernel)) ggX0_isOfKind_X0_isToken
theorem dX0_isOfKind_0 : decode cX0_isOfKind 0 = .ok (.aload_n 0, 1) := by decide +kernel
theorem dX0_isOfKind_1 : decode cX0_isOfKind 1 = .ok (.iload_n 1, 1) := by decide +kernel
theorem dX0_isOfKind_2 : decode cX0_isOfKind 2 = .ok (.invokevirtual 63, 3) := by decide +kernel
theorem dX0_isOfKind_5 : decode cX0_isOfKind 5 = .ok (.ifCond .eq 17, 3) := by decide +kernel
theorem dX0_isOfKind_8 : decode cX0_isOfKind 8 = .ok (.aload_n 0, 1) := by decide +kernel
theorem dX0_isOfKind_9 : decode cX0_isOfKind 9 = .ok (.getfield 16, 3) := by decide +kernel
theorem dX0_isOfKind_12 : decode cX0_isOfKind 12 = .ok (.iload_n 1, 1) := by decide +kernel
theorem dX0_isOfKind_13 : decode cX0_isOfKind 13 = .ok (.iaload, 1) := by decide +kernel
theorem dX0_isOfKind_14 : decode cX0_isOfKind 14 = .ok (.iload_n 2, 1) := by decide +kernel
theorem dX0_isOfKind_15 : decode cX0_isOfKind 15 = .ok (.if_icmp .ne 7, 3) := by decide +kernel
theorem dX0_isOfKind_18 : decode cX0_isOfKind 18 = .ok (.iconst 1, 1) := by decide +kernel
theorem dX0_isOfKind_19 : decode cX0_isOfKind 19 = .ok (.goto 4, 3) := by decide +kernel
theorem dX0_isOfKind_22 : decode cX0_isOfKind 22 = .ok (.iconst 0, 1) := by decide +kernel
theorem dX0_isOfKind_23 : decode cX0_isOfKind 23 = .ok (.ireturn, 1) := by decide +kernel
theorem dX0_byteAt_0 : decode cX0_byteAt 0 = .ok (.iload_n 1, 1) := by decide +kernel
theorem dX0_byteAt_1 : decode cX0_byteAt 1 = .ok (.ifCond .lt 20, 3) := by decide +kernel
theorem dX0_byteAt_4 : decode cX0_byteAt 4 = .ok (.iload_n 1, 1) := by decide +kernel
theorem dX0_byteAt_5 : decode cX0_byteAt 5 = .ok (.aload_n 0, 1) := by decide +kernel
theorem dX0_byteAt_6 : decode cX0_byteAt 6 = .ok (.getfield 39, 3) := by decide +kernel
theorem dX0_byteAt_9 : decode cX0_byteAt 9 = .ok (.if_icmp .ge 12, 3) := by decide +kernel
theorem dX0_byteAt_12 : decode cX0_byteAt 12 = .ok (.iload_n 1, 1) := by decide +kernel
theorem dX0_byteAt_13 : decode cX0_byteAt 13 = .ok (.aload_n 0, 1) := by decide +kernel
theorem dX0_byteAt_14 : decode cX0_byteAt 14 = .ok (.getfield 13, 3) := by decide +kernel
theorem dX0_byteAt_17 : decode cX0_byteAt 17 = .ok (.arraylength, 1) := by decide +kernel
theorem dX0_byteAt_18 : decode cX0_byteAt 18 = .ok (.if_icmp .lt 5, 3) := by decide +kernel
theorem dX0_byteAt_21 : decode cX0_byteAt 21 = .ok (.iconst (-1), 1) := by decide +kernel
theorem dX0_byteAt_22 : decode cX0_byteAt 22 = .ok (.ireturn, 1) := by decide +kernel
theorem dX0_byteAt_23 : decode cX0_byteAt 23 = .ok (.aload_n 0, 1) := by decide +kernel
theorem dX0_byteAt_24 : decode cX0_byteAt 24 = .ok (.getfield 13, 3) := by decide +kernel
theorem dX0_byteAt_27 : decode cX0_byteAt 27 = .ok (.iload_n 1, 1) := by decide +kernel
theorem dX0_byteAt_28 : decode cX0_byteAt 28 = .ok (.baload, 1) := by decide +kernel
theorem dX0_byteAt_29 : decode cX0_byteAt 29 = .ok (.sipush 255, 3) := by decide +kernel
theorem dX0_byteAt_32 : decode cX0_byteAt 32 = .ok (.iand, 1) := by decide +kernel
theorem dX0_byteAt_33 : decode cX0_byteAt 33 = .ok (.ireturn, 1) := by decide +kernel
set_option maxRecDepth 20000 in
theorem ggX0_codeWidth_X0_byteAt : GoodIn wsX0_codeWidth wsX0_byteAt := goodIn_r _ [5, 6, 7, 11, 12, 13, 14, 15, 16, 17, 18, 19, 20, 21, 22, 23] (by decide +kernel) (by decide +kernel)
set_option maxRecDepth 20000 in
theorem gX0_codeWidth_X0_byteAt : GoodIn wsX0_codeWidth (wsV RX0 78 RX0 yX0_byteAt wsX0_byteAt) := goodIn_app (goodIn_of _ (by decide +kernel)) ggX0_codeWidth_X0_byteAt
set_option maxRecDepth 20000 in
theorem ggX0_codeWidth_X0_escapedCode : GoodIn wsX0_codeWidth wsX0_escapedCode := goodIn_r _ [10] (by decide +kernel) (by decide +kernel)
set_option maxRecDepth 20000 in
theorem gX0_codeWidth_X0_escapedCode : GoodIn wsX0_codeWidth (va_wsS RX0 164 yX0_escapedCode wsX0_escapedCode) := goodIn_app (goodIn_of _ (by decide +kernel)) ggX0_codeWidth_X0_escapedCode
theorem dX0_codeWidth_0 : decode cX0_codeWidth 0 = .ok (.aload_n 0, 1) := by decide +kernel
theorem dX0_codeWidth_1 : decode cX0_codeWidth 1 = .ok (.iload_n 1, 1) := by decide +kernel
theorem dX0_codeWidth_2 : decode cX0_codeWidth 2 = .ok (.invokevirtual 78, 3) := by decide +kernel
theorem dX0_codeWidth_5 : decode cX0_codeWidth 5 = .ok (.istore_n 3, 1) := by decide +kernel
theorem dX0_codeWidth_6 : decode cX0_codeWidth 6 = .ok (.iload_n 3, 1) := by decide +kernel
theorem dX0_codeWidth_7 : decode cX0_codeWidth 7 = .ok (.bipush 92, 2) := by decide +kernel
theorem dX0_codeWidth_9 : decode cX0_codeWidth 9 = .ok (.if_icmp .ne 22, 3) := by decide +kernel
theorem dX0_codeWidth_12 : decode cX0_codeWidth 12 = .ok (.aload_n 0, 1) := by decide +kernel
theorem dX0_codeWidth_13 : decode cX0_codeWidth 13 = .ok (.iload_n 1, 1) := by decide +kernel
theorem dX0_codeWidth_14 : decode cX0_codeWidth 14 = .ok (.iconst 1, 1) := by decide +kernel
theorem dX0_codeWidth_15 : decode cX0_codeWidth 15 = .ok (.iadd, 1) := by decide +kernel
theorem dX0_codeWidth_16 : decode cX0_codeWidth 16 = .ok (.invokevirtual 78, 3) := by decide +kernel
theorem dX0_codeWidth_19 : decode cX0_codeWidth 19 = .ok (.invokestatic 164, 3) := by decide +kernel
theorem dX0_codeWidth_22 : decode cX0_codeWidth 22 = .ok (.ifCond .lt 7, 3) := by decide +kernel
theorem dX0_codeWidth_25 : decode cX0_codeWidth 25 = .ok (.iconst 2, 1) := by decide +kernel
theorem dX0_codeWidth_26 : decode cX0_codeWidth 26 = .ok (.goto 4, 3) := by decide +kernel
theorem dX0_codeWidth_29 : decode cX0_codeWidth 29 = .ok (.iconst 0, 1) := by decide +kernel
theorem dX0_codeWidth_30 : decode cX0_codeWidth 30 = .ok (.ireturn, 1) := by decide +kernel
theorem dX0_codeWidth_31 : decode cX0_codeWidth 31 = .ok (.iload_n 3, 1) := by decide +kernel
theorem dX0_codeWidth_32 : decode cX0_codeWidth 32 = .ok (.bipush 32, 2) := by decide +kernel
theorem dX0_codeWidth_34 : decode cX0_codeWidth 34 = .ok (.if_icmp .lt 18, 3) := by decide +kernel
theorem dX0_codeWidth_37 : decode cX0_codeWidth 37 = .ok (.iload_n 3, 1) := by decide +kernel
theorem dX0_codeWidth_38 : decode cX0_codeWidth 38 = .ok (.bipush 126, 2) := by decide +kernel
theorem dX0_codeWidth_40 : decode cX0_codeWidth 40 = .ok (.if_icmp .gt 12, 3) := by decide +kernel
theorem dX0_codeWidth_43 : decode cX0_codeWidth 43 = .ok (.iload_n 3, 1) := by decide +kernel
theorem dX0_codeWidth_44 : decode cX0_codeWidth 44 = .ok (.iload_n 2, 1) := by decide +kernel
theorem dX0_codeWidth_45 : decode cX0_codeWidth 45 = .ok (.if_icmp .eq 7, 3) := by decide +kernel
theorem dX0_codeWidth_48 : decode cX0_codeWidth 48 = .ok (.iconst 1, 1) := by decide +kernel
theorem dX0_codeWidth_49 : decode cX0_codeWidth 49 = .ok (.goto 4, 3) := by decide +kernel
theorem dX0_codeWidth_52 : decode cX0_codeWidth 52 = .ok (.iconst 0, 1) := by decide +kernel
theorem dX0_codeWidth_53 : decode cX0_codeWidth 53 = .ok (.ireturn, 1) := by decide +kernel
set_option maxRecDepth 20000 in
theorem ggX0_codeAt_X0_byteAt : GoodIn wsX0_codeAt wsX0_byteAt := goodIn_r _ [5, 6, 7, 11, 12, 13, 14, 15, 16, 17, 18, 19, 20, 21, 22, 23] (by decide +kernel) (by decide +kernel)
set_option maxRecDepth 20000 in
theorem gX0_codeAt_X0_byteAt : GoodIn wsX0_codeAt (wsV RX0 78 RX0 yX0_byteAt wsX0_byteAt) := goodIn_app (goodIn_of _ (by decide +kernel)) ggX0_codeAt_X0_byteAt
set_option maxRecDepth 20000 in
theorem ggX0_codeAt_X0_escapedCode : GoodIn wsX0_codeAt wsX0_escapedCode := goodIn_r _ [10] (by decide +kernel) (by decide +kernel)
set_option maxRecDepth 20000 in
theorem gX0_codeAt_X0_escapedCode : GoodIn wsX0_codeAt (va_wsS RX0 164 yX0_escapedCode wsX0_escapedCode) := goodIn_app (goodIn_of _ (by decide +kernel)) ggX0_codeAt_X0_escapedCode
theorem dX0_codeAt_0 : decode cX0_codeAt 0 = .ok (.aload_n 0, 1) := by decide +kernel
theorem dX0_codeAt_1 : decode cX0_codeAt 1 = .ok (.iload_n 1, 1) := by decide +kernel
theorem dX0_codeAt_2 : decode cX0_codeAt 2 = .ok (.invokevirtual 78, 3) := by decide +kernel
theorem dX0_codeAt_5 : decode cX0_codeAt 5 = .ok (.istore_n 2, 1) := by decide +kernel
theorem dX0_codeAt_6 : decode cX0_codeAt 6 = .ok (.iload_n 2, 1) := by decide +kernel
theorem dX0_codeAt_7 : decode cX0_codeAt 7 = .ok (.bipush 92, 2) := by decide +kernel
theorem dX0_codeAt_9 : decode cX0_codeAt 9 = .ok (.if_icmp .ne 16, 3) := by decide +kernel
theorem dX0_codeAt_12 : decode cX0_codeAt 12 = .ok (.aload_n 0, 1) := by decide +kernel
theorem dX0_codeAt_13 : decode cX0_codeAt 13 = .ok (.iload_n 1, 1) := by decide +kernel
theorem dX0_codeAt_14 : decode cX0_codeAt 14 = .ok (.iconst 1, 1) := by decide +kernel
theorem dX0_codeAt_15 : decode cX0_codeAt 15 = .ok (.iadd, 1) := by decide +kernel
theorem dX0_codeAt_16 : decode cX0_codeAt 16 = .ok (.invokevirtual 78, 3) := by decide +kernel
theorem dX0_codeAt_19 : decode cX0_codeAt 19 = .ok (.invokestatic 164, 3) := by decide +kernel
theorem dX0_codeAt_22 : decode cX0_codeAt 22 = .ok (.goto 4, 3) := by decide +kernel
theorem dX0_codeAt_25 : decode cX0_codeAt 25 = .ok (.iload_n 2, 1) := by decide +kernel
theorem dX0_codeAt_26 : decode cX0_codeAt 26 = .ok (.ireturn, 1) := by decide +kernel
set_option maxRecDepth 20000 in
theorem ggX0_wordNumber_X0_byteAt : GoodIn wsX0_wordNumber wsX0_byteAt := goodIn_r _ [6, 7, 8, 9, 10, 11, 12, 13, 14, 15, 16, 17, 18, 19, 20, 21] (by decide +kernel) (by decide +kernel)
set_option maxRecDepth 20000 in
theorem gX0_wordNumber_X0_byteAt : GoodIn wsX0_wordNumber (wsV RX0 78 RX0 yX0_byteAt wsX0_byteAt) := goodIn_app (goodIn_of _ (by decide +kernel)) ggX0_wordNumber_X0_byteAt
theorem dX0_wordNumber_0 : decode cX0_wordNumber 0 = .ok (.iconst 0, 1) := by decide +kernel
theorem dX0_wordNumber_1 : decode cX0_wordNumber 1 = .ok (.istore_n 3, 1) := by decide +kernel
theorem dX0_wordNumber_2 : decode cX0_wordNumber 2 = .ok (.iconst 0, 1) := by decide +kernel
theorem dX0_wordNumber_3 : decode cX0_wordNumber 3 = .ok (.istore 4, 2) := by decide +kernel
theorem dX0_wordNumber_5 : decode cX0_wordNumber 5 = .ok (.iconst 0, 1) := by decide +kernel
theorem dX0_wordNumber_6 : decode cX0_wordNumber 6 = .ok (.istore 5, 2) := by decide +kernel
theorem dX0_wordNumber_8 : decode cX0_wordNumber 8 = .ok (.iload 5, 2) := by decide +kernel
theorem dX0_wordNumber_10 : decode cX0_wordNumber 10 = .ok (.getstatic 167, 3) := by decide +kernel
theorem dX0_wordNumber_13 : decode cX0_wordNumber 13 = .ok (.arraylength, 1) := by decide +kernel
theorem dX0_wordNumber_14 : decode cX0_wordNumber 14 = .ok (.if_icmp .ge 74, 3) := by decide +kernel
theorem dX0_wordNumber_17 : decode cX0_wordNumber 17 = .ok (.getstatic 167, 3) := by decide +kernel
theorem dX0_wordNumber_20 : decode cX0_wordNumber 20 = .ok (.iload 5, 2) := by decide +kernel
theorem dX0_wordNumber_22 : decode cX0_wordNumber 22 = .ok (.caload, 1) := by decide +kernel
theorem dX0_wordNumber_23 : decode cX0_wordNumber 23 = .ok (.bipush 32, 2) := by decide +kernel
theorem dX0_wordNumber_25 : decode cX0_wordNumber 25 = .ok (.if_icmp .ne 20, 3) := by decide +kernel
theorem dX0_wordNumber_28 : decode cX0_wordNumber 28 = .ok (.iload 4, 2) := by decide +kernel
theorem dX0_wordNumber_30 : decode cX0_wordNumber 30 = .ok (.iload_n 2, 1) := by decide +kernel
theorem dX0_wordNumber_31 : decode cX0_wordNumber 31 = .ok (.if_icmp .ne 5, 3) := by decide +kernel
theorem dX0_wordNumber_34 : decode cX0_wordNumber 34 = .ok (.iload_n 3, 1) := by decide +kernel
theorem dX0_wordNumber_35 : decode cX0_wordNumber 35 = .ok (.ireturn, 1) := by decide +kernel
theorem dX0_wordNumber_36 : decode cX0_wordNumber 36 = .ok (.iinc 3 1, 3) := by decide +kernel
theorem dX0_wordNumber_39 : decode cX0_wordNumber 39 = .ok (.iconst 0, 1) := by decide +kernel
theorem dX0_wordNumber_40 : decode cX0_wordNumber 40 = .ok (.istore 4, 2) := by decide +kernel
theorem dX0_wordNumber_42 : decode cX0_wordNumber 42 = .ok (.goto 40, 3) := by decide +kernel
theorem dX0_wordNumber_45 : decode cX0_wordNumber 45 = .ok (.iload 4, 2) := by decide +kernel
theorem dX0_wordNumber_47 : decode cX0_wordNumber 47 = .ok (.ifCond .lt 32, 3) := by decide +kernel
theorem dX0_wordNumber_50 : decode cX0_wordNumber 50 = .ok (.iload 4, 2) := by decide +kernel
theorem dX0_wordNumber_52 : decode cX0_wordNumber 52 = .ok (.iload_n 2, 1) := by decide +kernel
theorem dX0_wordNumber_53 : decode cX0_wordNumber 53 = .ok (.if_icmp .ge 26, 3) := by decide +kernel
theorem dX0_wordNumber_56 : decode cX0_wordNumber 56 = .ok (.aload_n 0, 1) := by decide +kernel
theorem dX0_wordNumber_57 : decode cX0_wordNumber 57 = .ok (.iload_n 1, 1) := by decide +kernel
theorem dX0_wordNumber_58 : decode cX0_wordNumber 58 = .ok (.iload 4, 2) := by decide +kernel
theorem dX0_wordNumber_60 : decode cX0_wordNumber 60 = .ok (.iadd, 1) := by decide +kernel
theorem dX0_wordNumber_61 : decode cX0_wordNumber 61 = .ok (.invokevirtual 78, 3) := by decide +kernel
theorem dX0_wordNumber_64 : decode cX0_wordNumber 64 = .ok (.getstatic 167, 3) := by decide +kernel
theorem dX0_wordNumber_67 : decode cX0_wordNumber 67 = .ok (.iload 5, 2) := by decide +kernel
theorem dX0_wordNumber_69 : decode cX0_wordNumber 69 = .ok (.caload, 1) := by decide +kernel
theorem dX0_wordNumber_70 : decode cX0_wordNumber 70 = .ok (.if_icmp .ne 9, 3) := by decide +kernel
theorem dX0_wordNumber_73 : decode cX0_wordNumber 73 = .ok (.iinc 4 1, 3) := by decide +kernel
theorem dX0_wordNumber_76 : decode cX0_wordNumber 76 = .ok (.goto 6, 3) := by decide +kernel
theorem dX0_wordNumber_79 : decode cX0_wordNumber 79 = .ok (.iconst (-1), 1) := by decide +kernel
theorem dX0_wordNumber_80 : decode cX0_wordNumber 80 = .ok (.istore 4, 2) := by decide +kernel
theorem dX0_wordNumber_82 : decode cX0_wordNumber 82 = .ok (.iinc 5 1, 3) := by decide +kernel
theorem dX0_wordNumber_85 : decode cX0_wordNumber 85 = .ok (.goto (-77), 3) := by decide +kernel
theorem dX0_wordNumber_88 : decode cX0_wordNumber 88 = .ok (.iconst (-1), 1) := by decide +kernel
theorem dX0_wordNumber_89 : decode cX0_wordNumber 89 = .ok (.ireturn, 1) := by decide +kernel
set_option maxRecDepth 20000 in
theorem ggX0_mayOccur_X0_isBlankByte : GoodIn wsX0_mayOccur wsX0_isBlankByte := goodIn_r _ [4] (by decide +kernel) (by decide +kernel)
set_option maxRecDepth 20000 in
theorem gX0_mayOccur_X0_isBlankByte : GoodIn wsX0_mayOccur (va_wsS RX0 84 yX0_isBlankByte wsX0_isBlankByte) := goodIn_app (goodIn_of _ (by decide +kernel)) ggX0_mayOccur_X0_isBlankByte
theorem dX0_mayOccur_0 : decode cX0_mayOccur 0 = .ok (.iload_n 0, 1) := by decide +kernel
theorem dX0_mayOccur_1 : decode cX0_mayOccur 1 = .ok (.bipush 32, 2) := by decide +kernel
theorem dX0_mayOccur_3 : decode cX0_mayOccur 3 = .ok (.if_icmp .lt 9, 3) := by decide +kernel
theorem dX0_mayOccur_6 : decode cX0_mayOccur 6 = .ok (.iload_n 0, 1) := by decide +kernel
theorem dX0_mayOccur_7 : decode cX0_mayOccur 7 = .ok (.bipush 126, 2) := by decide +kernel
theorem dX0_mayOccur_9 : decode cX0_mayOccur 9 = .ok (.if_icmp .le 10, 3) := by decide +kernel
theorem dX0_mayOccur_12 : decode cX0_mayOccur 12 = .ok (.iload_n 0, 1) := by decide +kernel
theorem dX0_mayOccur_13 : decode cX0_mayOccur 13 = .ok (.invokestatic 84, 3) := by decide +kernel
theorem dX0_mayOccur_16 : decode cX0_mayOccur 16 = .ok (.ifCond .eq 7, 3) := by decide +kernel
theorem dX0_mayOccur_19 : decode cX0_mayOccur 19 = .ok (.iconst 1, 1) := by decide +kernel
theorem dX0_mayOccur_20 : decode cX0_mayOccur 20 = .ok (.goto 4, 3) := by decide +kernel
theorem dX0_mayOccur_23 : decode cX0_mayOccur 23 = .ok (.iconst 0, 1) := by decide +kernel
theorem dX0_mayOccur_24 : decode cX0_mayOccur 24 = .ok (.ireturn, 1) := by decide +kernel
theorem dX0_isBlankByte_0 : decode cX0_isBlankByte 0 = .ok (.iload_n 0, 1) := by decide +kernel
theorem dX0_isBlankByte_1 : decode cX0_isBlankByte 1 = .ok (.bipush 9, 2) := by decide +kernel
theorem dX0_isBlankByte_3 : decode cX0_isBlankByte 3 = .ok (.if_icmp .eq 21, 3) := by decide +kernel
theorem dX0_isBlankByte_6 : decode cX0_isBlankByte 6 = .ok (.iload_n 0, 1) := by decide +kernel
theorem dX0_isBlankByte_7 : decode cX0_isBlankByte 7 = .ok (.bipush 10, 2) := by decide +kernel
theorem dX0_isBlankByte_9 : decode cX0_isBlankByte 9 = .ok (.if_icmp .eq 15, 3) := by decide +kernel
theorem dX0_isBlankByte_12 : decode cX0_isBlankByte 12 = .ok (.iload_n 0, 1) := by decide +kernel
theorem dX0_isBlankByte_13 : decode cX0_isBlankByte 13 = .ok (.bipush 13, 2) := by decide +kernel
theorem dX0_isBlankByte_15 : decode cX0_isBlankByte 15 = .ok (.if_icmp .eq 9, 3) := by decide +kernel
theorem dX0_isBlankByte_18 : decode cX0_isBlankByte 18 = .ok (.iload_n 0, 1) := by decide +kernel
theorem dX0_isBlankByte_19 : decode cX0_isBlankByte 19 = .ok (.bipush 32, 2) := by decide +kernel
theorem dX0_isBlankByte_21 : decode cX0_isBlankByte 21 = .ok (.if_icmp .ne 7, 3) := by decide +kernel
theorem dX0_isBlankByte_24 : decode cX0_isBlankByte 24 = .ok (.iconst 1, 1) := by decide +kernel
theorem dX0_isBlankByte_25 : decode cX0_isBlankByte 25 = .ok (.goto 4, 3) := by decide +kernel
theorem dX0_isBlankByte_28 : decode cX0_isBlankByte 28 = .ok (.iconst 0, 1) := by decide +kernel
theorem dX0_isBlankByte_29 : decode cX0_isBlankByte 29 = .ok (.ireturn, 1) := by decide +kernel
theorem dX0_isLetter_0 : decode cX0_isLetter 0 = .ok (.iload_n 0, 1) := by decide +kernel
theorem dX0_isLetter_1 : decode cX0_isLetter 1 = .ok (.bipush 97, 2) := by decide +kernel
theorem dX0_isLetter_3 : decode cX0_isLetter 3 = .ok (.if_icmp .lt 9, 3) := by decide +kernel
theorem dX0_isLetter_6 : decode cX0_isLetter 6 = .ok (.iload_n 0, 1) := by decide +kernel
theorem dX0_isLetter_7 : decode cX0_isLetter 7 = .ok (.bipush 122, 2) := by decide +kernel
theorem dX0_isLetter_9 : decode cX0_isLetter 9 = .ok (.if_icmp .le 21, 3) := by decide +kernel
theorem dX0_isLetter_12 : decode cX0_isLetter 12 = .ok (.iload_n 0, 1) := by decide +kernel
theorem dX0_isLetter_13 : decode cX0_isLetter 13 = .ok (.bipush 65, 2) := by decide +kernel
theorem dX0_isLetter_15 : decode cX0_isLetter 15 = .ok (.if_icmp .lt 9, 3) := by decide +kernel
theorem dX0_isLetter_18 : decode cX0_isLetter 18 = .ok (.iload_n 0, 1) := by decide +kernel
theorem dX0_isLetter_19 : decode cX0_isLetter 19 = .ok (.bipush 90, 2) := by decide +kernel
theorem dX0_isLetter_21 : decode cX0_isLetter 21 = .ok (.if_icmp .le 9, 3) := by decide +kernel
theorem dX0_isLetter_24 : decode cX0_isLetter 24 = .ok (.iload_n 0, 1) := by decide +kernel
theorem dX0_isLetter_25 : decode cX0_isLetter 25 = .ok (.bipush 95, 2) := by decide +kernel
theorem dX0_isLetter_27 : decode cX0_isLetter 27 = .ok (.if_icmp .ne 7, 3) := by decide +kernel
theorem dX0_isLetter_30 : decode cX0_isLetter 30 = .ok (.iconst 1, 1) := by decide +kernel
theorem dX0_isLetter_31 : decode cX0_isLetter 31 = .ok (.goto 4, 3) := by decide +kernel
theorem dX0_isLetter_34 : decode cX0_isLetter 34 = .ok (.iconst 0, 1) := by decide +kernel
theorem dX0_isLetter_35 : decode cX0_isLetter 35 = .ok (.ireturn, 1) := by decide +kernel
theorem dX0_isDigit_0 : decode cX0_isDigit 0 = .ok (.iload_n 0, 1) := by decide +kernel
theorem dX0_isDigit_1 : decode cX0_isDigit 1 = .ok (.bipush 48, 2) := by decide +kernel
theorem dX0_isDigit_3 : decode cX0_isDigit 3 = .ok (.if_icmp .lt 13, 3) := by decide +kernel
theorem dX0_isDigit_6 : decode cX0_isDigit 6 = .ok (.iload_n 0, 1) := by decide +kernel
theorem dX0_isDigit_7 : decode cX0_isDigit 7 = .ok (.bipush 57, 2) := by decide +kernel
theorem dX0_isDigit_9 : decode cX0_isDigit 9 = .ok (.if_icmp .gt 7, 3) := by decide +kernel
theorem dX0_isDigit_12 : decode cX0_isDigit 12 = .ok (.iconst 1, 1) := by decide +kernel
theorem dX0_isDigit_13 : decode cX0_isDigit 13 = .ok (.goto 4, 3) := by decide +kernel
theorem dX0_isDigit_16 : decode cX0_isDigit 16 = .ok (.iconst 0, 1) := by decide +kernel
theorem dX0_isDigit_17 : decode cX0_isDigit 17 = .ok (.ireturn, 1) := by decide +kernel
set_option maxRecDepth 20000 in
theorem ggX0_isNamePart_X0_isLetter : GoodIn wsX0_isNamePart wsX0_isLetter := goodIn_r _ [4] (by decide +kernel) (by decide +kernel)
set_option maxRecDepth 20000 in
theorem gX0_isNamePart_X0_isLetter : GoodIn wsX0_isNamePart (va_wsS RX0 96 yX0_isLetter wsX0_isLetter) := goodIn_app (goodIn_of _ (by decide +kernel)) ggX0_isNamePart_X0_isLetter
set_option maxRecDepth 20000 in
theorem ggX0_isNamePart_X0_isDigit : GoodIn wsX0_isNamePart wsX0_isDigit := goodIn_r _ [7] (by decide +kernel) (by decide +kernel)
set_option maxRecDepth 20000 in
theorem gX0_isNamePart_X0_isDigit : GoodIn wsX0_isNamePart (va_wsS RX0 102 yX0_isDigit wsX0_isDigit) := goodIn_app (goodIn_of _ (by decide +kernel)) ggX0_isNamePart_X0_isDigit
theorem dX0_isNamePart_0 : decode cX0_isNamePart 0 = .ok (.iload_n 0, 1) := by decide +kernel
theorem dX0_isNamePart_1 : decode cX0_isNamePart 1 = .ok (.invokestatic 96, 3) := by decide +kernel
theorem dX0_isNamePart_4 : decode cX0_isNamePart 4 = .ok (.ifCond .ne 10, 3) := by decide +kernel
theorem dX0_isNamePart_7 : decode cX0_isNamePart 7 = .ok (.iload_n 0, 1) := by decide +kernel
theorem dX0_isNamePart_8 : decode cX0_isNamePart 8 = .ok (.invokestatic 102, 3) := by decide +kernel
theorem dX0_isNamePart_11 : decode cX0_isNamePart 11 = .ok (.ifCond .eq 7, 3) := by decide +kernel
theorem dX0_isNamePart_14 : decode cX0_isNamePart 14 = .ok (.iconst 1, 1) := by decide +kernel
theorem dX0_isNamePart_15 : decode cX0_isNamePart 15 = .ok (.goto 4, 3) := by decide +kernel
theorem dX0_isNamePart_18 : decode cX0_isNamePart 18 = .ok (.iconst 0, 1) := by decide +kernel
theorem dX0_isNamePart_19 : decode cX0_isNamePart 19 = .ok (.ireturn, 1) := by decide +kernel
set_option maxRecDepth 20000 in
theorem ggX0_hexDigit_X0_isDigit : GoodIn wsX0_hexDigit wsX0_isDigit := goodIn_r _ [4] (by decide +kernel) (by decide +kernel)
set_option maxRecDepth 20000 in
theorem gX0_hexDigit_X0_isDigit : GoodIn wsX0_hexDigit (va_wsS RX0 102 yX0_isDigit wsX0_isDigit) := goodIn_app (goodIn_of _ (by decide +kernel)) ggX0_hexDigit_X0_isDigit
theorem dX0_hexDigit_0 : decode cX0_hexDigit 0 = .ok (.iload_n 0, 1) := by decide +kernel
theorem dX0_hexDigit_1 : decode cX0_hexDigit 1 = .ok (.invokestatic 102, 3) := by decide +kernel
theorem dX0_hexDigit_4 : decode cX0_hexDigit 4 = .ok (.ifCond .eq 8, 3) := by decide +kernel
theorem dX0_hexDigit_7 : decode cX0_hexDigit 7 = .ok (.iload_n 0, 1) := by decide +kernel
theorem dX0_hexDigit_8 : decode cX0_hexDigit 8 = .ok (.bipush 48, 2) := by decide +kernel
theorem dX0_hexDigit_10 : decode cX0_hexDigit 10 = .ok (.isub, 1) := by decide +kernel
theorem dX0_hexDigit_11 : decode cX0_hexDigit 11 = .ok (.ireturn, 1) := by decide +kernel
theorem dX0_hexDigit_12 : decode cX0_hexDigit 12 = .ok (.iload_n 0, 1) := by decide +kernel
theorem dX0_hexDigit_13 : decode cX0_hexDigit 13 = .ok (.bipush 97, 2) := by decide +kernel
theorem dX0_hexDigit_15 : decode cX0_hexDigit 15 = .ok (.if_icmp .lt 17, 3) := by decide +kernel
theorem dX0_hexDigit_18 : decode cX0_hexDigit 18 = .ok (.iload_n 0, 1) := by decide +kernel
theorem dX0_hexDigit_19 : decode cX0_hexDigit 19 = .ok (.bipush 102, 2) := by decide +kernel
theorem dX0_hexDigit_21 : decode cX0_hexDigit 21 = .ok (.if_icmp .gt 11, 3) := by decide +kernel
theorem dX0_hexDigit_24 : decode cX0_hexDigit 24 = .ok (.iload_n 0, 1) := by decide +kernel
theorem dX0_hexDigit_25 : decode cX0_hexDigit 25 = .ok (.bipush 97, 2) := by decide +kernel
theorem dX0_hexDigit_27 : decode cX0_hexDigit 27 = .ok (.isub, 1) := by decide +kernel
theorem dX0_hexDigit_28 : decode cX0_hexDigit 28 = .ok (.bipush 10, 2) := by decide +kernel
theorem dX0_hexDigit_30 : decode cX0_hexDigit 30 = .ok (.iadd, 1) := by decide +kernel
theorem dX0_hexDigit_31 : decode cX0_hexDigit 31 = .ok (.ireturn, 1) := by decide +kernel
theorem dX0_hexDigit_32 : decode cX0_hexDigit 32 = .ok (.iload_n 0, 1) := by decide +kernel
theorem dX0_hexDigit_33 : decode cX0_hexDigit 33 = .ok (.bipush 65, 2) := by decide +kernel
theorem dX0_hexDigit_35 : decode cX0_hexDigit 35 = .ok (.if_icmp .lt 19, 3) := by decide +kernel
theorem dX0_hexDigit_38 : decode cX0_hexDigit 38 = .ok (.iload_n 0, 1) := by decide +kernel
theorem dX0_hexDigit_39 : decode cX0_hexDigit 39 = .ok (.bipush 70, 2) := by decide +kernel
theorem dX0_hexDigit_41 : decode cX0_hexDigit 41 = .ok (.if_icmp .gt 13, 3) := by decide +kernel
theorem dX0_hexDigit_44 : decode cX0_hexDigit 44 = .ok (.iload_n 0, 1) := by decide +kernel
theorem dX0_hexDigit_45 : decode cX0_hexDigit 45 = .ok (.bipush 65, 2) := by decide +kernel
theorem dX0_hexDigit_47 : decode cX0_hexDigit 47 = .ok (.isub, 1) := by decide +kernel
theorem dX0_hexDigit_48 : decode cX0_hexDigit 48 = .ok (.bipush 10, 2) := by decide +kernel
theorem dX0_hexDigit_50 : decode cX0_hexDigit 50 = .ok (.iadd, 1) := by decide +kernel
theorem dX0_hexDigit_51 : decode cX0_hexDigit 51 = .ok (.goto 4, 3) := by decide +kernel
theorem dX0_hexDigit_54 : decode cX0_hexDigit 54 = .ok (.iconst (-1), 1) := by decide +kernel
theorem dX0_hexDigit_55 : decode cX0_hexDigit 55 = .ok (.ireturn, 1) := by decide +kernel
theorem dX0_escapedCode_0 : decode cX0_escapedCode 0 = .ok (.iload_n 0, 1) := by decide +kernel
theorem dX0_escapedCode_1 : decode cX0_escapedCode 1 = .ok (.lookupswitch 65 #[(34, 62), (39, 59), (48, 54), (92, 56), (110, 51)], 51) := by decide +kernel
theorem dX0_escapedCode_52 : decode cX0_escapedCode 52 = .ok (.bipush 10, 2) := by decide +kernel
theorem dX0_escapedCode_54 : decode cX0_escapedCode 54 = .ok (.ireturn, 1) := by decide +kernel
theorem dX0_escapedCode_55 : decode cX0_escapedCode 55 = .ok (.iconst 0, 1) := by decide +kernel
theorem dX0_escapedCode_56 : decode cX0_escapedCode 56 = .ok (.ireturn, 1) := by decide +kernel
theorem dX0_escapedCode_57 : decode cX0_escapedCode 57 = .ok (.bipush 92, 2) := by decide +kernel
theorem dX0_escapedCode_59 : decode cX0_escapedCode 59 = .ok (.ireturn, 1) := by decide +kernel
theorem dX0_escapedCode_60 : decode cX0_escapedCode 60 = .ok (.bipush 39, 2) := by decide +kernel
theorem dX0_escapedCode_62 : decode cX0_escapedCode 62 = .ok (.ireturn, 1) := by decide +kernel
theorem dX0_escapedCode_63 : decode cX0_escapedCode 63 = .ok (.bipush 34, 2) := by decide +kernel
theorem dX0_escapedCode_65 : decode cX0_escapedCode 65 = .ok (.ireturn, 1) := by decide +kernel
theorem dX0_escapedCode_66 : decode cX0_escapedCode 66 = .ok (.iconst (-1), 1) := by decide +kernel
theorem dX0_escapedCode_67 : decode cX0_escapedCode 67 = .ok (.ireturn, 1) := by decide +kernel
theorem dX0_signOfThree_0 : decode cX0_signOfThree 0 = .ok (.iload_n 0, 1) := by decide +kernel
theorem dX0_signOfThree_1 : decode cX0_signOfThree 1 = .ok (.iload_n 1, 1) := by decide +kernel
theorem dX0_signOfThree_2 : decode cX0_signOfThree 2 = .ok (.if_icmp .ne 9, 3) := by decide +kernel
theorem dX0_signOfThree_5 : decode cX0_signOfThree 5 = .ok (.iload_n 2, 1) := by decide +kernel
theorem dX0_signOfThree_6 : decode cX0_signOfThree 6 = .ok (.bipush 61, 2) := by decide +kernel
theorem dX0_signOfThree_8 : decode cX0_signOfThree 8 = .ok (.if_icmp .eq 5, 3) := by decide +kernel
theorem dX0_signOfThree_11 : decode cX0_signOfThree 11 = .ok (.iconst (-1), 1) := by decide +kernel
theorem dX0_signOfThree_12 : decode cX0_signOfThree 12 = .ok (.ireturn, 1) := by decide +kernel
theorem dX0_signOfThree_13 : decode cX0_signOfThree 13 = .ok (.iload_n 0, 1) := by decide +kernel
theorem dX0_signOfThree_14 : decode cX0_signOfThree 14 = .ok (.bipush 60, 2) := by decide +kernel
theorem dX0_signOfThree_16 : decode cX0_signOfThree 16 = .ok (.if_icmp .ne 8, 3) := by decide +kernel
theorem dX0_signOfThree_19 : decode cX0_signOfThree 19 = .ok (.bipush 19, 2) := by decide +kernel
theorem dX0_signOfThree_21 : decode cX0_signOfThree 21 = .ok (.goto 15, 3) := by decide +kernel
theorem dX0_signOfThree_24 : decode cX0_signOfThree 24 = .ok (.iload_n 0, 1) := by decide +kernel
theorem dX0_signOfThree_25 : decode cX0_signOfThree 25 = .ok (.bipush 62, 2) := by decide +kernel
theorem dX0_signOfThree_27 : decode cX0_signOfThree 27 = .ok (.if_icmp .ne 8, 3) := by decide +kernel
theorem dX0_signOfThree_30 : decode cX0_signOfThree 30 = .ok (.bipush 20, 2) := by decide +kernel
theorem dX0_signOfThree_32 : decode cX0_signOfThree 32 = .ok (.goto 4, 3) := by decide +kernel
theorem dX0_signOfThree_35 : decode cX0_signOfThree 35 = .ok (.iconst (-1), 1) := by decide +kernel
theorem dX0_signOfThree_36 : decode cX0_signOfThree 36 = .ok (.ireturn, 1) := by decide +kernel
set_option maxRecDepth 20000 in
theorem ggX0_signOfTwo_X0_signWithEqual : GoodIn wsX0_signOfTwo wsX0_signWithEqual := goodIn_r _ [4] (by decide +kernel) (by decide +kernel)
set_option maxRecDepth 20000 in
theorem gX0_signOfTwo_X0_signWithEqual : GoodIn wsX0_signOfTwo (va_wsS RX0 171 yX0_signWithEqual wsX0_signWithEqual) := goodIn_app (goodIn_of _ (by decide +kernel)) ggX0_signOfTwo_X0_signWithEqual
set_option maxRecDepth 20000 in
theorem ggX0_signOfTwo_X0_signOfTwins : GoodIn wsX0_signOfTwo wsX0_signOfTwins := goodIn_r _ [7] (by decide +kernel) (by decide +kernel)
set_option maxRecDepth 20000 in
theorem gX0_signOfTwo_X0_signOfTwins : GoodIn wsX0_signOfTwo (va_wsS RX0 174 yX0_signOfTwins wsX0_signOfTwins) := goodIn_app (goodIn_of _ (by decide +kernel)) ggX0_signOfTwo_X0_signOfTwins
theorem dX0_signOfTwo_0 : decode cX0_signOfTwo 0 = .ok (.iload_n 1, 1) := by decide +kernel
theorem dX0_signOfTwo_1 : decode cX0_signOfTwo 1 = .ok (.bipush 61, 2) := by decide +kernel
theorem dX0_signOfTwo_3 : decode cX0_signOfTwo 3 = .ok (.if_icmp .ne 8, 3) := by decide +kernel
theorem dX0_signOfTwo_6 : decode cX0_signOfTwo 6 = .ok (.iload_n 0, 1) := by decide +kernel
theorem dX0_signOfTwo_7 : decode cX0_signOfTwo 7 = .ok (.invokestatic 171, 3) := by decide +kernel
theorem dX0_signOfTwo_10 : decode cX0_signOfTwo 10 = .ok (.ireturn, 1) := by decide +kernel
theorem dX0_signOfTwo_11 : decode cX0_signOfTwo 11 = .ok (.iload_n 1, 1) := by decide +kernel
theorem dX0_signOfTwo_12 : decode cX0_signOfTwo 12 = .ok (.iload_n 0, 1) := by decide +kernel
theorem dX0_signOfTwo_13 : decode cX0_signOfTwo 13 = .ok (.if_icmp .ne 10, 3) := by decide +kernel
theorem dX0_signOfTwo_16 : decode cX0_signOfTwo 16 = .ok (.iload_n 0, 1) := by decide +kernel
theorem dX0_signOfTwo_17 : decode cX0_signOfTwo 17 = .ok (.invokestatic 174, 3) := by decide +kernel
theorem dX0_signOfTwo_20 : decode cX0_signOfTwo 20 = .ok (.goto 4, 3) := by decide +kernel
theorem dX0_signOfTwo_23 : decode cX0_signOfTwo 23 = .ok (.iconst (-1), 1) := by decide +kernel
theorem dX0_signOfTwo_24 : decode cX0_signOfTwo 24 = .ok (.ireturn, 1) := by decide +kernel
theorem dX0_signWithEqual_0 : decode cX0_signWithEqual 0 = .ok (.iload_n 0, 1) := by decide +kernel
theorem dX0_signWithEqual_1 : decode cX0_signWithEqual 1 = .ok (.lookupswitch 143 #[(33, 134), (37, 119), (38, 122), (42, 113), (43, 107), (45, 110), (47, 116), (60, 137), (61, 131), (62, 140), (94, 128), (124, 125)], 107) := by decide +kernel
theorem dX0_signWithEqual_108 : decode cX0_signWithEqual 108 = .ok (.bipush 11, 2) := by decide +kernel
theorem dX0_signWithEqual_110 : decode cX0_signWithEqual 110 = .ok (.ireturn, 1) := by decide +kernel
theorem dX0_signWithEqual_111 : decode cX0_signWithEqual 111 = .ok (.bipush 12, 2) := by decide +kernel
theorem dX0_signWithEqual_113 : decode cX0_signWithEqual 113 = .ok (.ireturn, 1) := by decide +kernel
theorem dX0_signWithEqual_114 : decode cX0_signWithEqual 114 = .ok (.bipush 13, 2) := by decide +kernel
theorem dX0_signWithEqual_116 : decode cX0_signWithEqual 116 = .ok (.ireturn, 1) := by decide +kernel
theorem dX0_signWithEqual_117 : decode cX0_signWithEqual 117 = .ok (.bipush 14, 2) := by decide +kernel
theorem dX0_signWithEqual_119 : decode cX0_signWithEqual 119 = .ok (.ireturn, 1) := by decide +kernel
theorem dX0_signWithEqual_120 : decode cX0_signWithEqual 120 = .ok (.bipush 15, 2) := by decide +kernel
theorem dX0_signWithEqual_122 : decode cX0_signWithEqual 122 = .ok (.ireturn, 1) := by decide +kernel
theorem dX0_signWithEqual_123 : decode cX0_signWithEqual 123 = .ok (.bipush 16, 2) := by decide +kernel
theorem dX0_signWithEqual_125 : decode cX0_signWithEqual 125 = .ok (.ireturn, 1) := by decide +kernel
theorem dX0_signWithEqual_126 : decode cX0_signWithEqual 126 = .ok (.bipush 17, 2) := by decide +kernel
theorem dX0_signWithEqual_128 : decode cX0_signWithEqual 128 = .ok (.ireturn, 1) := by decide +kernel
theorem dX0_signWithEqual_129 : decode cX0_signWithEqual 129 = .ok (.bipush 18, 2) := by decide +kernel
theorem dX0_signWithEqual_131 : decode cX0_signWithEqual 131 = .ok (.ireturn, 1) := by decide +kernel
theorem dX0_signWithEqual_132 : decode cX0_signWithEqual 132 = .ok (.bipush 26, 2) := by decide +kernel
theorem dX0_signWithEqual_134 : decode cX0_signWithEqual 134 = .ok (.ireturn, 1) := by decide +kernel
theorem dX0_signWithEqual_135 : decode cX0_signWithEqual 135 = .ok (.bipush 27, 2) := by decide +kernel
theorem dX0_signWithEqual_137 : decode cX0_signWithEqual 137 = .ok (.ireturn, 1) := by decide +kernel
theorem dX0_signWithEqual_138 : decode cX0_signWithEqual 138 = .ok (.bipush 30, 2) := by decide +kernel
theorem dX0_signWithEqual_140 : decode cX0_signWithEqual 140 = .ok (.ireturn, 1) := by decide +kernel
theorem dX0_signWithEqual_141 : decode cX0_signWithEqual 141 = .ok (.bipush 31, 2) := by decide +kernel
theorem dX0_signWithEqual_143 : decode cX0_signWithEqual 143 = .ok (.ireturn, 1) := by decide +kernel
theorem dX0_signWithEqual_144 : decode cX0_signWithEqual 144 = .ok (.iconst (-1), 1) := by decide +kernel
theorem dX0_signWithEqual_145 : decode cX0_signWithEqual 145 = .ok (.ireturn, 1) := by decide +kernel
theorem dX0_signOfTwins_0 : decode cX0_signOfTwins 0 = .ok (.iload_n 0, 1) := by decide +kernel
theorem dX0_signOfTwins_1 : decode cX0_signOfTwins 1 = .ok (.lookupswitch 77 #[(38, 62), (43, 71), (45, 74), (60, 65), (62, 68), (124, 59)], 59) := by decide +kernel
theorem dX0_signOfTwins_60 : decode cX0_signOfTwins 60 = .ok (.bipush 21, 2) := by decide +kernel
theorem dX0_signOfTwins_62 : decode cX0_signOfTwins 62 = .ok (.ireturn, 1) := by decide +kernel
theorem dX0_signOfTwins_63 : decode cX0_signOfTwins 63 = .ok (.bipush 22, 2) := by decide +kernel
theorem dX0_signOfTwins_65 : decode cX0_signOfTwins 65 = .ok (.ireturn, 1) := by decide +kernel
theorem dX0_signOfTwins_66 : decode cX0_signOfTwins 66 = .ok (.bipush 32, 2) := by decide +kernel
theorem dX0_signOfTwins_68 : decode cX0_signOfTwins 68 = .ok (.ireturn, 1) := by decide +kernel
theorem dX0_signOfTwins_69 : decode cX0_signOfTwins 69 = .ok (.bipush 33, 2) := by decide +kernel
theorem dX0_signOfTwins_71 : decode cX0_signOfTwins 71 = .ok (.ireturn, 1) := by decide +kernel
theorem dX0_signOfTwins_72 : decode cX0_signOfTwins 72 = .ok (.bipush 41, 2) := by decide +kernel
theorem dX0_signOfTwins_74 : decode cX0_signOfTwins 74 = .ok (.ireturn, 1) := by decide +kernel
theorem dX0_signOfTwins_75 : decode cX0_signOfTwins 75 = .ok (.bipush 42, 2) := by decide +kernel
theorem dX0_signOfTwins_77 : decode cX0_signOfTwins 77 = .ok (.ireturn, 1) := by decide +kernel
theorem dX0_signOfTwins_78 : decode cX0_signOfTwins 78 = .ok (.iconst (-1), 1) := by decide +kernel
theorem dX0_signOfTwins_79 : decode cX0_signOfTwins 79 = .ok (.ireturn, 1) := by decide +kernel
theorem dX0_signOfOne_0 : decode cX0_signOfOne 0 = .ok (.iload_n 0, 1) := by decide +kernel
theorem dX0_signOfOne_1 : decode cX0_signOfOne 1 = .ok (.tableswitch 454 33 126 #[448, 454, 454, 454, 445, 424, 454, 391, 393, 439, 433, 403, 436, 454, 442, 454, 454, 454, 454, 454, 454, 454, 454, 454, 454, 412, 406, 427, 415, 430, 409, 454, 454, 454, 454, 454, 454, 454, 454, 454, 454, 454, 454, 454, 454, 454, 454, 454, 454, 454, 454, 454, 454, 454, 454, 454, 454, 454, 399, 454, 401, 421, 454, 454, 454, 454, 454, 454, 454, 454, 454, 454, 454, 454, 454, 454, 454, 454, 454, 454, 454, 454, 454, 454, 454, 454, 454, 454, 454, 454, 395, 418, 397, 451], 391) := by decide +kernel
theorem dX0_signOfOne_392 : decode cX0_signOfOne 392 = .ok (.iconst 0, 1) := by decide +kernel
theorem dX0_signOfOne_393 : decode cX0_signOfOne 393 = .ok (.ireturn, 1) := by decide +kernel
theorem dX0_signOfOne_394 : decode cX0_signOfOne 394 = .ok (.iconst 1, 1) := by decide +kernel
theorem dX0_signOfOne_395 : decode cX0_signOfOne 395 = .ok (.ireturn, 1) := by decide +kernel
theorem dX0_signOfOne_396 : decode cX0_signOfOne 396 = .ok (.iconst 2, 1) := by decide +kernel
theorem dX0_signOfOne_397 : decode cX0_signOfOne 397 = .ok (.ireturn, 1) := by decide +kernel
theorem dX0_signOfOne_398 : decode cX0_signOfOne 398 = .ok (.iconst 3, 1) := by decide +kernel
theorem dX0_signOfOne_399 : decode cX0_signOfOne 399 = .ok (.ireturn, 1) := by decide +kernel
theorem dX0_signOfOne_400 : decode cX0_signOfOne 400 = .ok (.iconst 4, 1) := by decide +kernel
theorem dX0_signOfOne_401 : decode cX0_signOfOne 401 = .ok (.ireturn, 1) := by decide +kernel
theorem dX0_signOfOne_402 : decode cX0_signOfOne 402 = .ok (.iconst 5, 1) := by decide +kernel
theorem dX0_signOfOne_403 : decode cX0_signOfOne 403 = .ok (.ireturn, 1) := by decide +kernel
theorem dX0_signOfOne_404 : decode cX0_signOfOne 404 = .ok (.bipush 6, 2) := by decide +kernel
theorem dX0_signOfOne_406 : decode cX0_signOfOne 406 = .ok (.ireturn, 1) := by decide +kernel
theorem dX0_signOfOne_407 : decode cX0_signOfOne 407 = .ok (.bipush 7, 2) := by decide +kernel
theorem dX0_signOfOne_409 : decode cX0_signOfOne 409 = .ok (.ireturn, 1) := by decide +kernel
theorem dX0_signOfOne_410 : decode cX0_signOfOne 410 = .ok (.bipush 8, 2) := by decide +kernel
theorem dX0_signOfOne_412 : decode cX0_signOfOne 412 = .ok (.ireturn, 1) := by decide +kernel
theorem dX0_signOfOne_413 : decode cX0_signOfOne 413 = .ok (.bipush 9, 2) := by decide +kernel
theorem dX0_signOfOne_415 : decode cX0_signOfOne 415 = .ok (.ireturn, 1) := by decide +kernel
theorem dX0_signOfOne_416 : decode cX0_signOfOne 416 = .ok (.bipush 10, 2) := by decide +kernel
theorem dX0_signOfOne_418 : decode cX0_signOfOne 418 = .ok (.ireturn, 1) := by decide +kernel
theorem dX0_signOfOne_419 : decode cX0_signOfOne 419 = .ok (.bipush 23, 2) := by decide +kernel
theorem dX0_signOfOne_421 : decode cX0_signOfOne 421 = .ok (.ireturn, 1) := by decide +kernel
theorem dX0_signOfOne_422 : decode cX0_signOfOne 422 = .ok (.bipush 24, 2) := by decide +kernel
theorem dX0_signOfOne_424 : decode cX0_signOfOne 424 = .ok (.ireturn, 1) := by decide +kernel
theorem dX0_signOfOne_425 : decode cX0_signOfOne 425 = .ok (.bipush 25, 2) := by decide +kernel
theorem dX0_signOfOne_427 : decode cX0_signOfOne 427 = .ok (.ireturn, 1) := by decide +kernel
theorem dX0_signOfOne_428 : decode cX0_signOfOne 428 = .ok (.bipush 28, 2) := by decide +kernel
theorem dX0_signOfOne_430 : decode cX0_signOfOne 430 = .ok (.ireturn, 1) := by decide +kernel
theorem dX0_signOfOne_431 : decode cX0_signOfOne 431 = .ok (.bipush 29, 2) := by decide +kernel
theorem dX0_signOfOne_433 : decode cX0_signOfOne 433 = .ok (.ireturn, 1) := by decide +kernel
theorem dX0_signOfOne_434 : decode cX0_signOfOne 434 = .ok (.bipush 34, 2) := by decide +kernel
theorem dX0_signOfOne_436 : decode cX0_signOfOne 436 = .ok (.ireturn, 1) := by decide +kernel
theorem dX0_signOfOne_437 : decode cX0_signOfOne 437 = .ok (.bipush 35, 2) := by decide +kernel
theorem dX0_signOfOne_439 : decode cX0_signOfOne 439 = .ok (.ireturn, 1) := by decide +kernel
theorem dX0_signOfOne_440 : decode cX0_signOfOne 440 = .ok (.bipush 36, 2) := by decide +kernel
theorem dX0_signOfOne_442 : decode cX0_signOfOne 442 = .ok (.ireturn, 1) := by decide +kernel
theorem dX0_signOfOne_443 : decode cX0_signOfOne 443 = .ok (.bipush 37, 2) := by decide +kernel
theorem dX0_signOfOne_445 : decode cX0_signOfOne 445 = .ok (.ireturn, 1) := by decide +kernel
theorem dX0_signOfOne_446 : decode cX0_signOfOne 446 = .ok (.bipush 38, 2) := by decide +kernel
theorem dX0_signOfOne_448 : decode cX0_signOfOne 448 = .ok (.ireturn, 1) := by decide +kernel
theorem dX0_signOfOne_449 : decode cX0_signOfOne 449 = .ok (.bipush 39, 2) := by decide +kernel
theorem dX0_signOfOne_451 : decode cX0_signOfOne 451 = .ok (.ireturn, 1) := by decide +kernel
theorem dX0_signOfOne_452 : decode cX0_signOfOne 452 = .ok (.bipush 40, 2) := by decide +kernel
theorem dX0_signOfOne_454 : decode cX0_signOfOne 454 = .ok (.ireturn, 1) := by decide +kernel
theorem dX0_signOfOne_455 : decode cX0_signOfOne 455 = .ok (.iconst (-1), 1) := by decide +kernel
theorem dX0_signOfOne_456 : decode cX0_signOfOne 456 = .ok (.ireturn, 1) := by decide +kernel
