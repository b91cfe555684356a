set_option maxRecDepth 20000 in
theorem ggX0_isSymbol_X0_isSign : GoodIn wsX0_isSymbol wsX0_isSign := goodIn_r _ [4] (by decide +kernel) (by decide +kernel)
set_option maxRecDepth 20000 in
theorem gX0_isSymbol_X0_isSign : GoodIn wsX0_isSymbol (va_wsS RX0 9 yX0_isSign wsX0_isSign) := goodIn_app (goodIn_of _ (by decide +kernel)) ggX0_isSymbol_X0_isSign
theorem dX0_isSymbol_0 : decode cX0_isSymbol 0 = .ok (.iload_n 0, 1) := by decide +kernel
theorem dX0_isSymbol_1 : decode cX0_isSymbol 1 = .ok (.ifCond .lt 10, 3) := by decide +kernel
theorem dX0_isSymbol_4 : decode cX0_isSymbol 4 = .ok (.iload_n 0, 1) := by decide +kernel
theorem dX0_isSymbol_5 : decode cX0_isSymbol 5 = .ok (.sipush 255, 3) := by decide +kernel
theorem dX0_isSymbol_8 : decode cX0_isSymbol 8 = .ok (.if_icmp .le 5, 3) := by decide +kernel
theorem dX0_isSymbol_11 : decode cX0_isSymbol 11 = .ok (.iconst 0, 1) := by decide +kernel
theorem dX0_isSymbol_12 : decode cX0_isSymbol 12 = .ok (.ireturn, 1) := by decide +kernel
theorem dX0_isSymbol_13 : decode cX0_isSymbol 13 = .ok (.iload_n 1, 1) := by decide +kernel
theorem dX0_isSymbol_14 : decode cX0_isSymbol 14 = .ok (.ifCond .eq 16, 3) := by decide +kernel
theorem dX0_isSymbol_17 : decode cX0_isSymbol 17 = .ok (.iload_n 0, 1) := by decide +kernel
theorem dX0_isSymbol_18 : decode cX0_isSymbol 18 = .ok (.bipush 31, 2) := by decide +kernel
theorem dX0_isSymbol_20 : decode cX0_isSymbol 20 = .ok (.iand, 1) := by decide +kernel
theorem dX0_isSymbol_21 : decode cX0_isSymbol 21 = .ok (.iload_n 0, 1) := by decide +kernel
theorem dX0_isSymbol_22 : decode cX0_isSymbol 22 = .ok (.iconst 5, 1) := by decide +kernel
theorem dX0_isSymbol_23 : decode cX0_isSymbol 23 = .ok (.ishr, 1) := by decide +kernel
theorem dX0_isSymbol_24 : decode cX0_isSymbol 24 = .ok (.invokestatic 9, 3) := by decide +kernel
theorem dX0_isSymbol_27 : decode cX0_isSymbol 27 = .ok (.ifCond .eq 7, 3) := by decide +kernel
theorem dX0_isSymbol_30 : decode cX0_isSymbol 30 = .ok (.iconst 1, 1) := by decide +kernel
theorem dX0_isSymbol_31 : decode cX0_isSymbol 31 = .ok (.goto 4, 3) := by decide +kernel
theorem dX0_isSymbol_34 : decode cX0_isSymbol 34 = .ok (.iconst 0, 1) := by decide +kernel
theorem dX0_isSymbol_35 : decode cX0_isSymbol 35 = .ok (.ireturn, 1) := by decide +kernel
theorem dX0_isSign_0 : decode cX0_isSign 0 = .ok (.iload_n 0, 1) := by decide +kernel
theorem dX0_isSign_1 : decode cX0_isSign 1 = .ok (.bipush 28, 2) := by decide +kernel
theorem dX0_isSign_3 : decode cX0_isSign 3 = .ok (.if_icmp .eq 33, 3) := by decide +kernel
theorem dX0_isSign_6 : decode cX0_isSign 6 = .ok (.iload_n 1, 1) := by decide +kernel
theorem dX0_isSign_7 : decode cX0_isSign 7 = .ok (.bipush 7, 2) := by decide +kernel
theorem dX0_isSign_9 : decode cX0_isSign 9 = .ok (.if_icmp .ne 31, 3) := by decide +kernel
theorem dX0_isSign_12 : decode cX0_isSign 12 = .ok (.iload_n 0, 1) := by decide +kernel
theorem dX0_isSign_13 : decode cX0_isSign 13 = .ok (.bipush 23, 2) := by decide +kernel
theorem dX0_isSign_15 : decode cX0_isSign 15 = .ok (.if_icmp .eq 21, 3) := by decide +kernel
theorem dX0_isSign_18 : decode cX0_isSign 18 = .ok (.iload_n 0, 1) := by decide +kernel
theorem dX0_isSign_19 : decode cX0_isSign 19 = .ok (.bipush 27, 2) := by decide +kernel
theorem dX0_isSign_21 : decode cX0_isSign 21 = .ok (.if_icmp .eq 15, 3) := by decide +kernel
theorem dX0_isSign_24 : decode cX0_isSign 24 = .ok (.iload_n 0, 1) := by decide +kernel
theorem dX0_isSign_25 : decode cX0_isSign 25 = .ok (.bipush 29, 2) := by decide +kernel
theorem dX0_isSign_27 : decode cX0_isSign 27 = .ok (.if_icmp .eq 9, 3) := by decide +kernel
theorem dX0_isSign_30 : decode cX0_isSign 30 = .ok (.iload_n 0, 1) := by decide +kernel
theorem dX0_isSign_31 : decode cX0_isSign 31 = .ok (.bipush 30, 2) := by decide +kernel
theorem dX0_isSign_33 : decode cX0_isSign 33 = .ok (.if_icmp .ne 7, 3) := by decide +kernel
theorem dX0_isSign_36 : decode cX0_isSign 36 = .ok (.iconst 1, 1) := by decide +kernel
theorem dX0_isSign_37 : decode cX0_isSign 37 = .ok (.goto 4, 3) := by decide +kernel
theorem dX0_isSign_40 : decode cX0_isSign 40 = .ok (.iconst 0, 1) := by decide +kernel
theorem dX0_isSign_41 : decode cX0_isSign 41 = .ok (.ireturn, 1) := by decide +kernel
set_option maxRecDepth 20000 in
theorem ggX0_groupOf_X0_sixOf : GoodIn wsX0_groupOf wsX0_sixOf := goodIn_r _ [4, 5, 6] (by decide +kernel) (by decide +kernel)
set_option maxRecDepth 20000 in
theorem gX0_groupOf_X0_sixOf : GoodIn wsX0_groupOf (va_wsS RX0 15 yX0_sixOf wsX0_sixOf) := goodIn_app (goodIn_of _ (by decide +kernel)) ggX0_groupOf_X0_sixOf
set_option maxRecDepth 20000 in
theorem ggX0_groupOf_X0_behindSix : GoodIn wsX0_groupOf wsX0_behindSix := goodIn_r _ [9, 10, 11, 12, 13, 14, 15, 16] (by decide +kernel) (by decide +kernel)
set_option maxRecDepth 20000 in
theorem gX0_groupOf_X0_behindSix : GoodIn wsX0_groupOf (va_wsS RX0 19 yX0_behindSix wsX0_behindSix) := goodIn_app (goodIn_of _ (by decide +kernel)) ggX0_groupOf_X0_behindSix
set_option maxRecDepth 20000 in
theorem ggX0_groupOf_X0_fourOf : GoodIn wsX0_groupOf wsX0_fourOf := goodIn_r _ [19, 20, 21, 22, 23] (by decide +kernel) (by decide +kernel)
set_option maxRecDepth 20000 in
theorem gX0_groupOf_X0_fourOf : GoodIn wsX0_groupOf (va_wsS RX0 23 yX0_fourOf wsX0_fourOf) := goodIn_app (goodIn_of _ (by decide +kernel)) ggX0_groupOf_X0_fourOf
theorem dX0_groupOf_0 : decode cX0_groupOf 0 = .ok (.iload_n 0, 1) := by decide +kernel
theorem dX0_groupOf_1 : decode cX0_groupOf 1 = .ok (.bipush 31, 2) := by decide +kernel
theorem dX0_groupOf_3 : decode cX0_groupOf 3 = .ok (.iand, 1) := by decide +kernel
theorem dX0_groupOf_4 : decode cX0_groupOf 4 = .ok (.istore_n 3, 1) := by decide +kernel
theorem dX0_groupOf_5 : decode cX0_groupOf 5 = .ok (.iload_n 3, 1) := by decide +kernel
theorem dX0_groupOf_6 : decode cX0_groupOf 6 = .ok (.iload_n 1, 1) := by decide +kernel
theorem dX0_groupOf_7 : decode cX0_groupOf 7 = .ok (.iload_n 2, 1) := by decide +kernel
theorem dX0_groupOf_8 : decode cX0_groupOf 8 = .ok (.invokestatic 15, 3) := by decide +kernel
theorem dX0_groupOf_11 : decode cX0_groupOf 11 = .ok (.istore 4, 2) := by decide +kernel
theorem dX0_groupOf_13 : decode cX0_groupOf 13 = .ok (.iload_n 3, 1) := by decide +kernel
theorem dX0_groupOf_14 : decode cX0_groupOf 14 = .ok (.iload_n 0, 1) := by decide +kernel
theorem dX0_groupOf_15 : decode cX0_groupOf 15 = .ok (.iconst 5, 1) := by decide +kernel
theorem dX0_groupOf_16 : decode cX0_groupOf 16 = .ok (.ishr, 1) := by decide +kernel
theorem dX0_groupOf_17 : decode cX0_groupOf 17 = .ok (.bipush 7, 2) := by decide +kernel
theorem dX0_groupOf_19 : decode cX0_groupOf 19 = .ok (.iand, 1) := by decide +kernel
theorem dX0_groupOf_20 : decode cX0_groupOf 20 = .ok (.iload_n 1, 1) := by decide +kernel
theorem dX0_groupOf_21 : decode cX0_groupOf 21 = .ok (.iload 4, 2) := by decide +kernel
theorem dX0_groupOf_23 : decode cX0_groupOf 23 = .ok (.iload_n 2, 1) := by decide +kernel
theorem dX0_groupOf_24 : decode cX0_groupOf 24 = .ok (.invokestatic 19, 3) := by decide +kernel
theorem dX0_groupOf_27 : decode cX0_groupOf 27 = .ok (.invokestatic 23, 3) := by decide +kernel
theorem dX0_groupOf_30 : decode cX0_groupOf 30 = .ok (.istore 5, 2) := by decide +kernel
theorem dX0_groupOf_32 : decode cX0_groupOf 32 = .ok (.iload 4, 2) := by decide +kernel
theorem dX0_groupOf_34 : decode cX0_groupOf 34 = .ok (.iconst 4, 1) := by decide +kernel
theorem dX0_groupOf_35 : decode cX0_groupOf 35 = .ok (.ishl, 1) := by decide +kernel
theorem dX0_groupOf_36 : decode cX0_groupOf 36 = .ok (.iload 5, 2) := by decide +kernel
theorem dX0_groupOf_38 : decode cX0_groupOf 38 = .ok (.ior, 1) := by decide +kernel
theorem dX0_groupOf_39 : decode cX0_groupOf 39 = .ok (.ireturn, 1) := by decide +kernel
theorem dX0_sixOf_0 : decode cX0_sixOf 0 = .ok (.iload_n 0, 1) := by decide +kernel
theorem dX0_sixOf_1 : decode cX0_sixOf 1 = .ok (.ifCond .lt 9, 3) := by decide +kernel
theorem dX0_sixOf_4 : decode cX0_sixOf 4 = .ok (.iload_n 0, 1) := by decide +kernel
theorem dX0_sixOf_5 : decode cX0_sixOf 5 = .ok (.bipush 31, 2) := by decide +kernel
theorem dX0_sixOf_7 : decode cX0_sixOf 7 = .ok (.if_icmp .le 5, 3) := by decide +kernel
theorem dX0_sixOf_10 : decode cX0_sixOf 10 = .ok (.iconst (-1), 1) := by decide +kernel
theorem dX0_sixOf_11 : decode cX0_sixOf 11 = .ok (.ireturn, 1) := by decide +kernel
theorem dX0_sixOf_12 : decode cX0_sixOf 12 = .ok (.iload_n 1, 1) := by decide +kernel
theorem dX0_sixOf_13 : decode cX0_sixOf 13 = .ok (.ifCond .eq 21, 3) := by decide +kernel
theorem dX0_sixOf_16 : decode cX0_sixOf 16 = .ok (.iload_n 0, 1) := by decide +kernel
theorem dX0_sixOf_17 : decode cX0_sixOf 17 = .ok (.bipush 28, 2) := by decide +kernel
theorem dX0_sixOf_19 : decode cX0_sixOf 19 = .ok (.if_icmp .ne 15, 3) := by decide +kernel
theorem dX0_sixOf_22 : decode cX0_sixOf 22 = .ok (.iload_n 2, 1) := by decide +kernel
theorem dX0_sixOf_23 : decode cX0_sixOf 23 = .ok (.ifCond .ge 8, 3) := by decide +kernel
theorem dX0_sixOf_26 : decode cX0_sixOf 26 = .ok (.bipush 15, 2) := by decide +kernel
theorem dX0_sixOf_28 : decode cX0_sixOf 28 = .ok (.goto 5, 3) := by decide +kernel
theorem dX0_sixOf_31 : decode cX0_sixOf 31 = .ok (.bipush 48, 2) := by decide +kernel
theorem dX0_sixOf_33 : decode cX0_sixOf 33 = .ok (.ireturn, 1) := by decide +kernel
theorem dX0_sixOf_34 : decode cX0_sixOf 34 = .ok (.iload_n 2, 1) := by decide +kernel
theorem dX0_sixOf_35 : decode cX0_sixOf 35 = .ok (.ifCond .ge 11, 3) := by decide +kernel
theorem dX0_sixOf_38 : decode cX0_sixOf 38 = .ok (.getstatic 27, 3) := by decide +kernel
theorem dX0_sixOf_41 : decode cX0_sixOf 41 = .ok (.iload_n 0, 1) := by decide +kernel
theorem dX0_sixOf_42 : decode cX0_sixOf 42 = .ok (.iaload, 1) := by decide +kernel
theorem dX0_sixOf_43 : decode cX0_sixOf 43 = .ok (.goto 8, 3) := by decide +kernel
theorem dX0_sixOf_46 : decode cX0_sixOf 46 = .ok (.getstatic 31, 3) := by decide +kernel
theorem dX0_sixOf_49 : decode cX0_sixOf 49 = .ok (.iload_n 0, 1) := by decide +kernel
theorem dX0_sixOf_50 : decode cX0_sixOf 50 = .ok (.iaload, 1) := by decide +kernel
theorem dX0_sixOf_51 : decode cX0_sixOf 51 = .ok (.ireturn, 1) := by decide +kernel
theorem dX0_fourOf_0 : decode cX0_fourOf 0 = .ok (.iload_n 1, 1) := by decide +kernel
theorem dX0_fourOf_1 : decode cX0_fourOf 1 = .ok (.ifCond .lt 9, 3) := by decide +kernel
theorem dX0_fourOf_4 : decode cX0_fourOf 4 = .ok (.iload_n 1, 1) := by decide +kernel
theorem dX0_fourOf_5 : decode cX0_fourOf 5 = .ok (.bipush 7, 2) := by decide +kernel
theorem dX0_fourOf_7 : decode cX0_fourOf 7 = .ok (.if_icmp .le 5, 3) := by decide +kernel
theorem dX0_fourOf_10 : decode cX0_fourOf 10 = .ok (.iconst (-1), 1) := by decide +kernel
theorem dX0_fourOf_11 : decode cX0_fourOf 11 = .ok (.ireturn, 1) := by decide +kernel
theorem dX0_fourOf_12 : decode cX0_fourOf 12 = .ok (.iload_n 2, 1) := by decide +kernel
theorem dX0_fourOf_13 : decode cX0_fourOf 13 = .ok (.ifCond .eq 21, 3) := by decide +kernel
theorem dX0_fourOf_16 : decode cX0_fourOf 16 = .ok (.iload_n 3, 1) := by decide +kernel
theorem dX0_fourOf_17 : decode cX0_fourOf 17 = .ok (.ifCond .ge 11, 3) := by decide +kernel
theorem dX0_fourOf_20 : decode cX0_fourOf 20 = .ok (.getstatic 34, 3) := by decide +kernel
theorem dX0_fourOf_23 : decode cX0_fourOf 23 = .ok (.iload_n 1, 1) := by decide +kernel
theorem dX0_fourOf_24 : decode cX0_fourOf 24 = .ok (.iaload, 1) := by decide +kernel
theorem dX0_fourOf_25 : decode cX0_fourOf 25 = .ok (.goto 8, 3) := by decide +kernel
theorem dX0_fourOf_28 : decode cX0_fourOf 28 = .ok (.getstatic 37, 3) := by decide +kernel
theorem dX0_fourOf_31 : decode cX0_fourOf 31 = .ok (.iload_n 1, 1) := by decide +kernel
theorem dX0_fourOf_32 : decode cX0_fourOf 32 = .ok (.iaload, 1) := by decide +kernel
theorem dX0_fourOf_33 : decode cX0_fourOf 33 = .ok (.ireturn, 1) := by decide +kernel
theorem dX0_fourOf_34 : decode cX0_fourOf 34 = .ok (.iload_n 1, 1) := by decide +kernel
theorem dX0_fourOf_35 : decode cX0_fourOf 35 = .ok (.bipush 7, 2) := by decide +kernel
theorem dX0_fourOf_37 : decode cX0_fourOf 37 = .ok (.if_icmp .ne 28, 3) := by decide +kernel
theorem dX0_fourOf_40 : decode cX0_fourOf 40 = .ok (.iload_n 3, 1) := by decide +kernel
theorem dX0_fourOf_41 : decode cX0_fourOf 41 = .ok (.ifCond .ge 24, 3) := by decide +kernel
theorem dX0_fourOf_44 : decode cX0_fourOf 44 = .ok (.iload_n 0, 1) := by decide +kernel
theorem dX0_fourOf_45 : decode cX0_fourOf 45 = .ok (.bipush 17, 2) := by decide +kernel
theorem dX0_fourOf_47 : decode cX0_fourOf 47 = .ok (.if_icmp .eq 15, 3) := by decide +kernel
theorem dX0_fourOf_50 : decode cX0_fourOf 50 = .ok (.iload_n 0, 1) := by decide +kernel
theorem dX0_fourOf_51 : decode cX0_fourOf 51 = .ok (.bipush 18, 2) := by decide +kernel
theorem dX0_fourOf_53 : decode cX0_fourOf 53 = .ok (.if_icmp .eq 9, 3) := by decide +kernel
theorem dX0_fourOf_56 : decode cX0_fourOf 56 = .ok (.iload_n 0, 1) := by decide +kernel
theorem dX0_fourOf_57 : decode cX0_fourOf 57 = .ok (.bipush 20, 2) := by decide +kernel
theorem dX0_fourOf_59 : decode cX0_fourOf 59 = .ok (.if_icmp .ne 6, 3) := by decide +kernel
theorem dX0_fourOf_62 : decode cX0_fourOf 62 = .ok (.bipush 7, 2) := by decide +kernel
theorem dX0_fourOf_64 : decode cX0_fourOf 64 = .ok (.ireturn, 1) := by decide +kernel
theorem dX0_fourOf_65 : decode cX0_fourOf 65 = .ok (.iload_n 1, 1) := by decide +kernel
theorem dX0_fourOf_66 : decode cX0_fourOf 66 = .ok (.bipush 7, 2) := by decide +kernel
theorem dX0_fourOf_68 : decode cX0_fourOf 68 = .ok (.if_icmp .ne 28, 3) := by decide +kernel
theorem dX0_fourOf_71 : decode cX0_fourOf 71 = .ok (.iload_n 3, 1) := by decide +kernel
theorem dX0_fourOf_72 : decode cX0_fourOf 72 = .ok (.ifCond .le 24, 3) := by decide +kernel
theorem dX0_fourOf_75 : decode cX0_fourOf 75 = .ok (.iload_n 0, 1) := by decide +kernel
theorem dX0_fourOf_76 : decode cX0_fourOf 76 = .ok (.bipush 11, 2) := by decide +kernel
theorem dX0_fourOf_78 : decode cX0_fourOf 78 = .ok (.if_icmp .eq 15, 3) := by decide +kernel
theorem dX0_fourOf_81 : decode cX0_fourOf 81 = .ok (.iload_n 0, 1) := by decide +kernel
theorem dX0_fourOf_82 : decode cX0_fourOf 82 = .ok (.bipush 13, 2) := by decide +kernel
theorem dX0_fourOf_84 : decode cX0_fourOf 84 = .ok (.if_icmp .eq 9, 3) := by decide +kernel
theorem dX0_fourOf_87 : decode cX0_fourOf 87 = .ok (.iload_n 0, 1) := by decide +kernel
theorem dX0_fourOf_88 : decode cX0_fourOf 88 = .ok (.bipush 14, 2) := by decide +kernel
theorem dX0_fourOf_90 : decode cX0_fourOf 90 = .ok (.if_icmp .ne 6, 3) := by decide +kernel
theorem dX0_fourOf_93 : decode cX0_fourOf 93 = .ok (.bipush 8, 2) := by decide +kernel
theorem dX0_fourOf_95 : decode cX0_fourOf 95 = .ok (.ireturn, 1) := by decide +kernel
theorem dX0_fourOf_96 : decode cX0_fourOf 96 = .ok (.iload_n 3, 1) := by decide +kernel
theorem dX0_fourOf_97 : decode cX0_fourOf 97 = .ok (.ifCond .ge 11, 3) := by decide +kernel
theorem dX0_fourOf_100 : decode cX0_fourOf 100 = .ok (.getstatic 40, 3) := by decide +kernel
theorem dX0_fourOf_103 : decode cX0_fourOf 103 = .ok (.iload_n 1, 1) := by decide +kernel
theorem dX0_fourOf_104 : decode cX0_fourOf 104 = .ok (.iaload, 1) := by decide +kernel
theorem dX0_fourOf_105 : decode cX0_fourOf 105 = .ok (.goto 8, 3) := by decide +kernel
theorem dX0_fourOf_108 : decode cX0_fourOf 108 = .ok (.getstatic 43, 3) := by decide +kernel
theorem dX0_fourOf_111 : decode cX0_fourOf 111 = .ok (.iload_n 1, 1) := by decide +kernel
theorem dX0_fourOf_112 : decode cX0_fourOf 112 = .ok (.iaload, 1) := by decide +kernel
theorem dX0_fourOf_113 : decode cX0_fourOf 113 = .ok (.ireturn, 1) := by decide +kernel
set_option maxRecDepth 20000 in
theorem ggX0_behindSix_J6_bitCount_0f7a4 : GoodIn wsX0_behindSix wsJ6_bitCount_0f7a4 := goodIn_r _ [4, 5, 6, 7] (by decide +kernel) (by decide +kernel)
set_option maxRecDepth 20000 in
theorem gX0_behindSix_J6_bitCount_0f7a4 : GoodIn wsX0_behindSix (va_wsS RX0 46 yJ6_bitCount_0f7a4 wsJ6_bitCount_0f7a4) := goodIn_app (goodIn_of _ (by decide +kernel)) ggX0_behindSix_J6_bitCount_0f7a4
theorem dX0_behindSix_0 : decode cX0_behindSix 0 = .ok (.iload_n 0, 1) := by decide +kernel
theorem dX0_behindSix_1 : decode cX0_behindSix 1 = .ok (.invokestatic 46, 3) := by decide +kernel
theorem dX0_behindSix_4 : decode cX0_behindSix 4 = .ok (.istore_n 2, 1) := by decide +kernel
theorem dX0_behindSix_5 : decode cX0_behindSix 5 = .ok (.iload_n 2, 1) := by decide +kernel
theorem dX0_behindSix_6 : decode cX0_behindSix 6 = .ok (.iconst 3, 1) := by decide +kernel
theorem dX0_behindSix_7 : decode cX0_behindSix 7 = .ok (.if_icmp .gt 9, 3) := by decide +kernel
theorem dX0_behindSix_10 : decode cX0_behindSix 10 = .ok (.iload_n 0, 1) := by decide +kernel
theorem dX0_behindSix_11 : decode cX0_behindSix 11 = .ok (.bipush 7, 2) := by decide +kernel
theorem dX0_behindSix_13 : decode cX0_behindSix 13 = .ok (.if_icmp .ne 5, 3) := by decide +kernel
theorem dX0_behindSix_16 : decode cX0_behindSix 16 = .ok (.iconst 1, 1) := by decide +kernel
theorem dX0_behindSix_17 : decode cX0_behindSix 17 = .ok (.ireturn, 1) := by decide +kernel
theorem dX0_behindSix_18 : decode cX0_behindSix 18 = .ok (.iload_n 2, 1) := by decide +kernel
theorem dX0_behindSix_19 : decode cX0_behindSix 19 = .ok (.iconst 3, 1) := by decide +kernel
theorem dX0_behindSix_20 : decode cX0_behindSix 20 = .ok (.if_icmp .lt 9, 3) := by decide +kernel
theorem dX0_behindSix_23 : decode cX0_behindSix 23 = .ok (.iload_n 0, 1) := by decide +kernel
theorem dX0_behindSix_24 : decode cX0_behindSix 24 = .ok (.bipush 56, 2) := by decide +kernel
theorem dX0_behindSix_26 : decode cX0_behindSix 26 = .ok (.if_icmp .ne 5, 3) := by decide +kernel
theorem dX0_behindSix_29 : decode cX0_behindSix 29 = .ok (.iconst (-1), 1) := by decide +kernel
theorem dX0_behindSix_30 : decode cX0_behindSix 30 = .ok (.ireturn, 1) := by decide +kernel
theorem dX0_behindSix_31 : decode cX0_behindSix 31 = .ok (.iload_n 1, 1) := by decide +kernel
theorem dX0_behindSix_32 : decode cX0_behindSix 32 = .ok (.ireturn, 1) := by decide +kernel
set_option maxRecDepth 20000 in
theorem ggX0_behindFour_J6_bitCount_0f7a4 : GoodIn wsX0_behindFour wsJ6_bitCount_0f7a4 := goodIn_r _ [4, 5, 6, 7] (by decide +kernel) (by decide +kernel)
set_option maxRecDepth 20000 in
theorem gX0_behindFour_J6_bitCount_0f7a4 : GoodIn wsX0_behindFour (va_wsS RX0 46 yJ6_bitCount_0f7a4 wsJ6_bitCount_0f7a4) := goodIn_app (goodIn_of _ (by decide +kernel)) ggX0_behindFour_J6_bitCount_0f7a4
theorem dX0_behindFour_0 : decode cX0_behindFour 0 = .ok (.iload_n 0, 1) := by decide +kernel
theorem dX0_behindFour_1 : decode cX0_behindFour 1 = .ok (.invokestatic 46, 3) := by decide +kernel
theorem dX0_behindFour_4 : decode cX0_behindFour 4 = .ok (.istore_n 2, 1) := by decide +kernel
theorem dX0_behindFour_5 : decode cX0_behindFour 5 = .ok (.iload_n 2, 1) := by decide +kernel
theorem dX0_behindFour_6 : decode cX0_behindFour 6 = .ok (.iconst 2, 1) := by decide +kernel
theorem dX0_behindFour_7 : decode cX0_behindFour 7 = .ok (.if_icmp .gt 8, 3) := by decide +kernel
theorem dX0_behindFour_10 : decode cX0_behindFour 10 = .ok (.iload_n 0, 1) := by decide +kernel
theorem dX0_behindFour_11 : decode cX0_behindFour 11 = .ok (.iconst 3, 1) := by decide +kernel
theorem dX0_behindFour_12 : decode cX0_behindFour 12 = .ok (.if_icmp .ne 5, 3) := by decide +kernel
theorem dX0_behindFour_15 : decode cX0_behindFour 15 = .ok (.iconst 1, 1) := by decide +kernel
theorem dX0_behindFour_16 : decode cX0_behindFour 16 = .ok (.ireturn, 1) := by decide +kernel
theorem dX0_behindFour_17 : decode cX0_behindFour 17 = .ok (.iload_n 2, 1) := by decide +kernel
theorem dX0_behindFour_18 : decode cX0_behindFour 18 = .ok (.iconst 2, 1) := by decide +kernel
theorem dX0_behindFour_19 : decode cX0_behindFour 19 = .ok (.if_icmp .lt 9, 3) := by decide +kernel
theorem dX0_behindFour_22 : decode cX0_behindFour 22 = .ok (.iload_n 0, 1) := by decide +kernel
theorem dX0_behindFour_23 : decode cX0_behindFour 23 = .ok (.bipush 12, 2) := by decide +kernel
theorem dX0_behindFour_25 : decode cX0_behindFour 25 = .ok (.if_icmp .ne 5, 3) := by decide +kernel
theorem dX0_behindFour_28 : decode cX0_behindFour 28 = .ok (.iconst (-1), 1) := by decide +kernel
theorem dX0_behindFour_29 : decode cX0_behindFour 29 = .ok (.ireturn, 1) := by decide +kernel
theorem dX0_behindFour_30 : decode cX0_behindFour 30 = .ok (.iload_n 1, 1) := by decide +kernel
theorem dX0_behindFour_31 : decode cX0_behindFour 31 = .ok (.ireturn, 1) := by decide +kernel
set_option maxRecDepth 20000 in
theorem ggX0_behindGroup_X0_behindSix : GoodIn wsX0_behindGroup wsX0_behindSix := goodIn_r _ [4, 5, 6, 7, 8, 9, 10, 11] (by decide +kernel) (by decide +kernel)
set_option maxRecDepth 20000 in
theorem gX0_behindGroup_X0_behindSix : GoodIn wsX0_behindGroup (va_wsS RX0 19 yX0_behindSix wsX0_behindSix) := goodIn_app (goodIn_of _ (by decide +kernel)) ggX0_behindGroup_X0_behindSix
set_option maxRecDepth 20000 in
theorem ggX0_behindGroup_X0_behindFour : GoodIn wsX0_behindGroup wsX0_behindFour := goodIn_r _ [14, 5, 6, 7, 8, 9, 10, 11] (by decide +kernel) (by decide +kernel)
set_option maxRecDepth 20000 in
theorem gX0_behindGroup_X0_behindFour : GoodIn wsX0_behindGroup (va_wsS RX0 52 yX0_behindFour wsX0_behindFour) := goodIn_app (goodIn_of _ (by decide +kernel)) ggX0_behindGroup_X0_behindFour
theorem dX0_behindGroup_0 : decode cX0_behindGroup 0 = .ok (.iload_n 0, 1) := by decide +kernel
theorem dX0_behindGroup_1 : decode cX0_behindGroup 1 = .ok (.bipush 15, 2) := by decide +kernel
theorem dX0_behindGroup_3 : decode cX0_behindGroup 3 = .ok (.iand, 1) := by decide +kernel
theorem dX0_behindGroup_4 : decode cX0_behindGroup 4 = .ok (.iload_n 0, 1) := by decide +kernel
theorem dX0_behindGroup_5 : decode cX0_behindGroup 5 = .ok (.iconst 4, 1) := by decide +kernel
theorem dX0_behindGroup_6 : decode cX0_behindGroup 6 = .ok (.ishr, 1) := by decide +kernel
theorem dX0_behindGroup_7 : decode cX0_behindGroup 7 = .ok (.iload_n 1, 1) := by decide +kernel
theorem dX0_behindGroup_8 : decode cX0_behindGroup 8 = .ok (.invokestatic 19, 3) := by decide +kernel
theorem dX0_behindGroup_11 : decode cX0_behindGroup 11 = .ok (.invokestatic 52, 3) := by decide +kernel
theorem dX0_behindGroup_14 : decode cX0_behindGroup 14 = .ok (.ireturn, 1) := by decide +kernel
theorem dX0_isComma_0 : decode cX0_isComma 0 = .ok (.iload_n 0, 1) := by decide +kernel
theorem dX0_isComma_1 : decode cX0_isComma 1 = .ok (.iconst 3, 1) := by decide +kernel
theorem dX0_isComma_2 : decode cX0_isComma 2 = .ok (.ishr, 1) := by decide +kernel
theorem dX0_isComma_3 : decode cX0_isComma 3 = .ok (.istore_n 1, 1) := by decide +kernel
theorem dX0_isComma_4 : decode cX0_isComma 4 = .ok (.iload_n 1, 1) := by decide +kernel
theorem dX0_isComma_5 : decode cX0_isComma 5 = .ok (.bipush 31, 2) := by decide +kernel
theorem dX0_isComma_7 : decode cX0_isComma 7 = .ok (.if_icmp .eq 9, 3) := by decide +kernel
theorem dX0_isComma_10 : decode cX0_isComma 10 = .ok (.iload_n 1, 1) := by decide +kernel
theorem dX0_isComma_11 : decode cX0_isComma 11 = .ok (.bipush 96, 2) := by decide +kernel
theorem dX0_isComma_13 : decode cX0_isComma 13 = .ok (.if_icmp .ne 7, 3) := by decide +kernel
theorem dX0_isComma_16 : decode cX0_isComma 16 = .ok (.iconst 1, 1) := by decide +kernel
theorem dX0_isComma_17 : decode cX0_isComma 17 = .ok (.goto 4, 3) := by decide +kernel
theorem dX0_isComma_20 : decode cX0_isComma 20 = .ok (.iconst 0, 1) := by decide +kernel
theorem dX0_isComma_21 : decode cX0_isComma 21 = .ok (.ireturn, 1) := by decide +kernel
theorem dX0_leanBeforeComma_0 : decode cX0_leanBeforeComma 0 = .ok (.iload_n 0, 1) := by decide +kernel
theorem dX0_leanBeforeComma_1 : decode cX0_leanBeforeComma 1 = .ok (.iconst 3, 1) := by decide +kernel
theorem dX0_leanBeforeComma_2 : decode cX0_leanBeforeComma 2 = .ok (.ishr, 1) := by decide +kernel
theorem dX0_leanBeforeComma_3 : decode cX0_leanBeforeComma 3 = .ok (.bipush 31, 2) := by decide +kernel
theorem dX0_leanBeforeComma_5 : decode cX0_leanBeforeComma 5 = .ok (.if_icmp .ne 7, 3) := by decide +kernel
theorem dX0_leanBeforeComma_8 : decode cX0_leanBeforeComma 8 = .ok (.iconst (-1), 1) := by decide +kernel
theorem dX0_leanBeforeComma_9 : decode cX0_leanBeforeComma 9 = .ok (.goto 4, 3) := by decide +kernel
theorem dX0_leanBeforeComma_12 : decode cX0_leanBeforeComma 12 = .ok (.iconst 1, 1) := by decide +kernel
theorem dX0_leanBeforeComma_13 : decode cX0_leanBeforeComma 13 = .ok (.ireturn, 1) := by decide +kernel
set_option maxRecDepth 20000 in
theorem ggX0_symbolOf_X0_byteOfGroup : GoodIn wsX0_symbolOf wsX0_byteOfGroup := goodIn_r _ [4, 5, 6, 3, 7, 8, 9, 10, 11, 12, 13, 14, 15, 16, 17, 18, 19, 20, 21, 22, 23, 24, 25, 26, 27, 28, 29, 30, 31, 32] (by decide +kernel) (by decide +kernel)
set_option maxRecDepth 20000 in
theorem gX0_symbolOf_X0_byteOfGroup : GoodIn wsX0_symbolOf (va_wsS RX0 55 yX0_byteOfGroup wsX0_byteOfGroup) := goodIn_app (goodIn_of _ (by decide +kernel)) ggX0_symbolOf_X0_byteOfGroup
theorem dX0_symbolOf_0 : decode cX0_symbolOf 0 = .ok (.iload_n 0, 1) := by decide +kernel
theorem dX0_symbolOf_1 : decode cX0_symbolOf 1 = .ok (.ifCond .lt 20, 3) := by decide +kernel
theorem dX0_symbolOf_4 : decode cX0_symbolOf 4 = .ok (.iload_n 0, 1) := by decide +kernel
theorem dX0_symbolOf_5 : decode cX0_symbolOf 5 = .ok (.sipush 1023, 3) := by decide +kernel
theorem dX0_symbolOf_8 : decode cX0_symbolOf 8 = .ok (.if_icmp .gt 13, 3) := by decide +kernel
theorem dX0_symbolOf_11 : decode cX0_symbolOf 11 = .ok (.iload_n 1, 1) := by decide +kernel
theorem dX0_symbolOf_12 : decode cX0_symbolOf 12 = .ok (.iconst (-1), 1) := by decide +kernel
theorem dX0_symbolOf_13 : decode cX0_symbolOf 13 = .ok (.if_icmp .eq 10, 3) := by decide +kernel
theorem dX0_symbolOf_16 : decode cX0_symbolOf 16 = .ok (.iload_n 1, 1) := by decide +kernel
theorem dX0_symbolOf_17 : decode cX0_symbolOf 17 = .ok (.iconst 1, 1) := by decide +kernel
theorem dX0_symbolOf_18 : decode cX0_symbolOf 18 = .ok (.if_icmp .eq 5, 3) := by decide +kernel
theorem dX0_symbolOf_21 : decode cX0_symbolOf 21 = .ok (.iconst (-1), 1) := by decide +kernel
theorem dX0_symbolOf_22 : decode cX0_symbolOf 22 = .ok (.ireturn, 1) := by decide +kernel
theorem dX0_symbolOf_23 : decode cX0_symbolOf 23 = .ok (.iload_n 0, 1) := by decide +kernel
theorem dX0_symbolOf_24 : decode cX0_symbolOf 24 = .ok (.iconst 0, 1) := by decide +kernel
theorem dX0_symbolOf_25 : decode cX0_symbolOf 25 = .ok (.iload_n 1, 1) := by decide +kernel
theorem dX0_symbolOf_26 : decode cX0_symbolOf 26 = .ok (.invokestatic 55, 3) := by decide +kernel
theorem dX0_symbolOf_29 : decode cX0_symbolOf 29 = .ok (.istore_n 2, 1) := by decide +kernel
theorem dX0_symbolOf_30 : decode cX0_symbolOf 30 = .ok (.iload_n 2, 1) := by decide +kernel
theorem dX0_symbolOf_31 : decode cX0_symbolOf 31 = .ok (.iconst (-1), 1) := by decide +kernel
theorem dX0_symbolOf_32 : decode cX0_symbolOf 32 = .ok (.if_icmp .eq 5, 3) := by decide +kernel
theorem dX0_symbolOf_35 : decode cX0_symbolOf 35 = .ok (.iload_n 2, 1) := by decide +kernel
theorem dX0_symbolOf_36 : decode cX0_symbolOf 36 = .ok (.ireturn, 1) := by decide +kernel
theorem dX0_symbolOf_37 : decode cX0_symbolOf 37 = .ok (.iload_n 0, 1) := by decide +kernel
theorem dX0_symbolOf_38 : decode cX0_symbolOf 38 = .ok (.iconst 1, 1) := by decide +kernel
theorem dX0_symbolOf_39 : decode cX0_symbolOf 39 = .ok (.iload_n 1, 1) := by decide +kernel
theorem dX0_symbolOf_40 : decode cX0_symbolOf 40 = .ok (.invokestatic 55, 3) := by decide +kernel
theorem dX0_symbolOf_43 : decode cX0_symbolOf 43 = .ok (.istore_n 3, 1) := by decide +kernel
theorem dX0_symbolOf_44 : decode cX0_symbolOf 44 = .ok (.iload_n 3, 1) := by decide +kernel
theorem dX0_symbolOf_45 : decode cX0_symbolOf 45 = .ok (.iconst (-1), 1) := by decide +kernel
theorem dX0_symbolOf_46 : decode cX0_symbolOf 46 = .ok (.if_icmp .ne 7, 3) := by decide +kernel
theorem dX0_symbolOf_49 : decode cX0_symbolOf 49 = .ok (.iconst (-1), 1) := by decide +kernel
theorem dX0_symbolOf_50 : decode cX0_symbolOf 50 = .ok (.goto 8, 3) := by decide +kernel
theorem dX0_symbolOf_53 : decode cX0_symbolOf 53 = .ok (.iload_n 3, 1) := by decide +kernel
theorem dX0_symbolOf_54 : decode cX0_symbolOf 54 = .ok (.sipush 256, 3) := by decide +kernel
theorem dX0_symbolOf_57 : decode cX0_symbolOf 57 = .ok (.iadd, 1) := by decide +kernel
theorem dX0_symbolOf_58 : decode cX0_symbolOf 58 = .ok (.ireturn, 1) := by decide +kernel
set_option maxRecDepth 20000 in
theorem ggX0_byteOfGroup_X0_sixOf : GoodIn wsX0_byteOfGroup wsX0_sixOf := goodIn_r _ [4, 5, 6] (by decide +kernel) (by decide +kernel)
set_option maxRecDepth 20000 in
theorem gX0_byteOfGroup_X0_sixOf : GoodIn wsX0_byteOfGroup (va_wsS RX0 15 yX0_sixOf wsX0_sixOf) := goodIn_app (goodIn_of _ (by decide +kernel)) ggX0_byteOfGroup_X0_sixOf
set_option maxRecDepth 20000 in
theorem ggX0_byteOfGroup_X0_behindSix : GoodIn wsX0_byteOfGroup wsX0_behindSix := goodIn_r _ [9, 10, 11, 12, 13, 14, 15, 16] (by decide +kernel) (by decide +kernel)
set_option maxRecDepth 20000 in
theorem gX0_byteOfGroup_X0_behindSix : GoodIn wsX0_byteOfGroup (va_wsS RX0 19 yX0_behindSix wsX0_behindSix) := goodIn_app (goodIn_of _ (by decide +kernel)) ggX0_byteOfGroup_X0_behindSix
set_option maxRecDepth 20000 in
theorem ggX0_byteOfGroup_X0_highPart : GoodIn wsX0_byteOfGroup wsX0_highPart := goodIn_r _ [19, 20, 21, 3, 22, 23, 24, 25, 26, 27, 28, 29] (by decide +kernel) (by decide +kernel)
set_option maxRecDepth 20000 in
theorem gX0_byteOfGroup_X0_highPart : GoodIn wsX0_byteOfGroup (va_wsS RX0 58 yX0_highPart wsX0_highPart) := goodIn_app (goodIn_of _ (by decide +kernel)) ggX0_byteOfGroup_X0_highPart
theorem dX0_byteOfGroup_0 : decode cX0_byteOfGroup 0 = .ok (.iload_n 0, 1) := by decide +kernel
theorem dX0_byteOfGroup_1 : decode cX0_byteOfGroup 1 = .ok (.iconst 4, 1) := by decide +kernel
theorem dX0_byteOfGroup_2 : decode cX0_byteOfGroup 2 = .ok (.ishr, 1) := by decide +kernel
theorem dX0_byteOfGroup_3 : decode cX0_byteOfGroup 3 = .ok (.istore_n 3, 1) := by decide +kernel
theorem dX0_byteOfGroup_4 : decode cX0_byteOfGroup 4 = .ok (.iconst 0, 1) := by decide +kernel
theorem dX0_byteOfGroup_5 : decode cX0_byteOfGroup 5 = .ok (.istore 4, 2) := by decide +kernel
theorem dX0_byteOfGroup_7 : decode cX0_byteOfGroup 7 = .ok (.iload 4, 2) := by decide +kernel
theorem dX0_byteOfGroup_9 : decode cX0_byteOfGroup 9 = .ok (.bipush 32, 2) := by decide +kernel
theorem dX0_byteOfGroup_11 : decode cX0_byteOfGroup 11 = .ok (.if_icmp .ge 52, 3) := by decide +kernel
theorem dX0_byteOfGroup_14 : decode cX0_byteOfGroup 14 = .ok (.iload 4, 2) := by decide +kernel
theorem dX0_byteOfGroup_16 : decode cX0_byteOfGroup 16 = .ok (.iload_n 1, 1) := by decide +kernel
theorem dX0_byteOfGroup_17 : decode cX0_byteOfGroup 17 = .ok (.iload_n 2, 1) := by decide +kernel
theorem dX0_byteOfGroup_18 : decode cX0_byteOfGroup 18 = .ok (.invokestatic 15, 3) := by decide +kernel
theorem dX0_byteOfGroup_21 : decode cX0_byteOfGroup 21 = .ok (.iload_n 3, 1) := by decide +kernel
theorem dX0_byteOfGroup_22 : decode cX0_byteOfGroup 22 = .ok (.if_icmp .ne 35, 3) := by decide +kernel
theorem dX0_byteOfGroup_25 : decode cX0_byteOfGroup 25 = .ok (.iload_n 0, 1) := by decide +kernel
theorem dX0_byteOfGroup_26 : decode cX0_byteOfGroup 26 = .ok (.bipush 15, 2) := by decide +kernel
theorem dX0_byteOfGroup_28 : decode cX0_byteOfGroup 28 = .ok (.iand, 1) := by decide +kernel
theorem dX0_byteOfGroup_29 : decode cX0_byteOfGroup 29 = .ok (.iload 4, 2) := by decide +kernel
theorem dX0_byteOfGroup_31 : decode cX0_byteOfGroup 31 = .ok (.iload_n 1, 1) := by decide +kernel
theorem dX0_byteOfGroup_32 : decode cX0_byteOfGroup 32 = .ok (.iload_n 3, 1) := by decide +kernel
theorem dX0_byteOfGroup_33 : decode cX0_byteOfGroup 33 = .ok (.iload_n 2, 1) := by decide +kernel
theorem dX0_byteOfGroup_34 : decode cX0_byteOfGroup 34 = .ok (.invokestatic 19, 3) := by decide +kernel
theorem dX0_byteOfGroup_37 : decode cX0_byteOfGroup 37 = .ok (.invokestatic 58, 3) := by decide +kernel
theorem dX0_byteOfGroup_40 : decode cX0_byteOfGroup 40 = .ok (.istore 5, 2) := by decide +kernel
theorem dX0_byteOfGroup_42 : decode cX0_byteOfGroup 42 = .ok (.iload 5, 2) := by decide +kernel
theorem dX0_byteOfGroup_44 : decode cX0_byteOfGroup 44 = .ok (.iconst (-1), 1) := by decide +kernel
theorem dX0_byteOfGroup_45 : decode cX0_byteOfGroup 45 = .ok (.if_icmp .eq 12, 3) := by decide +kernel
theorem dX0_byteOfGroup_48 : decode cX0_byteOfGroup 48 = .ok (.iload 5, 2) := by decide +kernel
theorem dX0_byteOfGroup_50 : decode cX0_byteOfGroup 50 = .ok (.bipush 32, 2) := by decide +kernel
theorem dX0_byteOfGroup_52 : decode cX0_byteOfGroup 52 = .ok (.imul, 1) := by decide +kernel
theorem dX0_byteOfGroup_53 : decode cX0_byteOfGroup 53 = .ok (.iload 4, 2) := by decide +kernel
theorem dX0_byteOfGroup_55 : decode cX0_byteOfGroup 55 = .ok (.iadd, 1) := by decide +kernel
theorem dX0_byteOfGroup_56 : decode cX0_byteOfGroup 56 = .ok (.ireturn, 1) := by decide +kernel
theorem dX0_byteOfGroup_57 : decode cX0_byteOfGroup 57 = .ok (.iinc 4 1, 3) := by decide +kernel
theorem dX0_byteOfGroup_60 : decode cX0_byteOfGroup 60 = .ok (.goto (-53), 3) := by decide +kernel
theorem dX0_byteOfGroup_63 : decode cX0_byteOfGroup 63 = .ok (.iconst (-1), 1) := by decide +kernel
theorem dX0_byteOfGroup_64 : decode cX0_byteOfGroup 64 = .ok (.ireturn, 1) := by decide +kernel
set_option maxRecDepth 20000 in
theorem ggX0_highPart_X0_fourOf : GoodIn wsX0_highPart wsX0_fourOf := goodIn_r _ [4, 5, 6, 7, 8] (by decide +kernel) (by decide +kernel)
set_option maxRecDepth 20000 in
theorem gX0_highPart_X0_fourOf : GoodIn wsX0_highPart (va_wsS RX0 23 yX0_fourOf wsX0_fourOf) := goodIn_app (goodIn_of _ (by decide +kernel)) ggX0_highPart_X0_fourOf
set_option maxRecDepth 20000 in
theorem ggX0_highPart_X0_isSign : GoodIn wsX0_highPart wsX0_isSign := goodIn_r _ [11] (by decide +kernel) (by decide +kernel)
set_option maxRecDepth 20000 in
theorem gX0_highPart_X0_isSign : GoodIn wsX0_highPart (va_wsS RX0 9 yX0_isSign wsX0_isSign) := goodIn_app (goodIn_of _ (by decide +kernel)) ggX0_highPart_X0_isSign
theorem dX0_highPart_0 : decode cX0_highPart 0 = .ok (.iconst 0, 1) := by decide +kernel
theorem dX0_highPart_1 : decode cX0_highPart 1 = .ok (.istore 4, 2) := by decide +kernel
theorem dX0_highPart_3 : decode cX0_highPart 3 = .ok (.iload 4, 2) := by decide +kernel
theorem dX0_highPart_5 : decode cX0_highPart 5 = .ok (.bipush 8, 2) := by decide +kernel
theorem dX0_highPart_7 : decode cX0_highPart 7 = .ok (.if_icmp .ge 37, 3) := by decide +kernel
theorem dX0_highPart_10 : decode cX0_highPart 10 = .ok (.iload_n 1, 1) := by decide +kernel
theorem dX0_highPart_11 : decode cX0_highPart 11 = .ok (.iload 4, 2) := by decide +kernel
theorem dX0_highPart_13 : decode cX0_highPart 13 = .ok (.iload_n 2, 1) := by decide +kernel
theorem dX0_highPart_14 : decode cX0_highPart 14 = .ok (.iload_n 3, 1) := by decide +kernel
theorem dX0_highPart_15 : decode cX0_highPart 15 = .ok (.invokestatic 23, 3) := by decide +kernel
theorem dX0_highPart_18 : decode cX0_highPart 18 = .ok (.iload_n 0, 1) := by decide +kernel
theorem dX0_highPart_19 : decode cX0_highPart 19 = .ok (.if_icmp .ne 19, 3) := by decide +kernel
theorem dX0_highPart_22 : decode cX0_highPart 22 = .ok (.iload_n 2, 1) := by decide +kernel
theorem dX0_highPart_23 : decode cX0_highPart 23 = .ok (.ifCond .eq 12, 3) := by decide +kernel
theorem dX0_highPart_26 : decode cX0_highPart 26 = .ok (.iload_n 1, 1) := by decide +kernel
theorem dX0_highPart_27 : decode cX0_highPart 27 = .ok (.iload 4, 2) := by decide +kernel
theorem dX0_highPart_29 : decode cX0_highPart 29 = .ok (.invokestatic 9, 3) := by decide +kernel
theorem dX0_highPart_32 : decode cX0_highPart 32 = .ok (.ifCond .eq 6, 3) := by decide +kernel
theorem dX0_highPart_35 : decode cX0_highPart 35 = .ok (.iload 4, 2) := by decide +kernel
theorem dX0_highPart_37 : decode cX0_highPart 37 = .ok (.ireturn, 1) := by decide +kernel
theorem dX0_highPart_38 : decode cX0_highPart 38 = .ok (.iinc 4 1, 3) := by decide +kernel
theorem dX0_highPart_41 : decode cX0_highPart 41 = .ok (.goto (-38), 3) := by decide +kernel
theorem dX0_highPart_44 : decode cX0_highPart 44 = .ok (.iconst (-1), 1) := by decide +kernel
theorem dX0_highPart_45 : decode cX0_highPart 45 = .ok (.ireturn, 1) := by decide +kernel
theorem dX1_init_0 : decode cX1_init 0 = .ok (.aload_n 0, 1) := by decide +kernel
theorem dX1_init_1 : decode cX1_init 1 = .ok (.invokespecial 5, 3) := by decide +kernel
theorem dX1_init_4 : decode cX1_init 4 = .ok (.aload_n 0, 1) := by decide +kernel
theorem dX1_init_5 : decode cX1_init 5 = .ok (.sipush 3075, 3) := by decide +kernel
theorem dX1_init_8 : decode cX1_init 8 = .ok (.newarray .int, 2) := by decide +kernel
theorem dX1_init_10 : decode cX1_init 10 = .ok (.putfield 11, 3) := by decide +kernel
theorem dX1_init_13 : decode cX1_init 13 = .ok (.aload_n 0, 1) := by decide +kernel
theorem dX1_init_14 : decode cX1_init 14 = .ok (.bipush 41, 2) := by decide +kernel
theorem dX1_init_16 : decode cX1_init 16 = .ok (.newarray .int, 2) := by decide +kernel
theorem dX1_init_18 : decode cX1_init 18 = .ok (.putfield 15, 3) := by decide +kernel
theorem dX1_init_21 : decode cX1_init 21 = .ok (.aload_n 0, 1) := by decide +kernel
theorem dX1_init_22 : decode cX1_init 22 = .ok (.bipush 41, 2) := by decide +kernel
theorem dX1_init_24 : decode cX1_init 24 = .ok (.newarray .boolean, 2) := by decide +kernel
theorem dX1_init_26 : decode cX1_init 26 = .ok (.putfield 18, 3) := by decide +kernel
theorem dX1_init_29 : decode cX1_init 29 = .ok (.aload_n 0, 1) := by decide +kernel
theorem dX1_init_30 : decode cX1_init 30 = .ok (.iconst 0, 1) := by decide +kernel
theorem dX1_init_31 : decode cX1_init 31 = .ok (.putfield 22, 3) := by decide +kernel
theorem dX1_init_34 : decode cX1_init 34 = .ok (.aload_n 0, 1) := by decide +kernel
theorem dX1_init_35 : decode cX1_init 35 = .ok (.iconst 0, 1) := by decide +kernel
theorem dX1_init_36 : decode cX1_init 36 = .ok (.putfield 26, 3) := by decide +kernel
theorem dX1_init_39 : decode cX1_init 39 = .ok (.aload_n 0, 1) := by decide +kernel
theorem dX1_init_40 : decode cX1_init 40 = .ok (.iconst 0, 1) := by decide +kernel
theorem dX1_init_41 : decode cX1_init 41 = .ok (.putfield 29, 3) := by decide +kernel
theorem dX1_init_44 : decode cX1_init 44 = .ok (.aload_n 0, 1) := by decide +kernel
theorem dX1_init_45 : decode cX1_init 45 = .ok (.iconst 0, 1) := by decide +kernel
theorem dX1_init_46 : decode cX1_init 46 = .ok (.putfield 32, 3) := by decide +kernel
theorem dX1_init_49 : decode cX1_init 49 = .ok (.aload_n 0, 1) := by decide +kernel
theorem dX1_init_50 : decode cX1_init 50 = .ok (.iconst 0, 1) := by decide +kernel
theorem dX1_init_51 : decode cX1_init 51 = .ok (.putfield 36, 3) := by decide +kernel
theorem dX1_init_54 : decode cX1_init 54 = .ok (.aload_n 0, 1) := by decide +kernel
theorem dX1_init_55 : decode cX1_init 55 = .ok (.iconst 0, 1) := by decide +kernel
theorem dX1_init_56 : decode cX1_init 56 = .ok (.putfield 39, 3) := by decide +kernel
theorem dX1_init_59 : decode cX1_init 59 = .ok (.return_, 1) := by decide +kernel
set_option maxRecDepth 20000 in
theorem ggX1_look_X1_finish : GoodIn wsX1_look wsX1_finish := goodIn_r _ [7, 8, 9, 1, 10, 11, 12, 31, 32, 33, 34, 35, 36, 37, 38, 39] (by decide +kernel) (by decide +kernel)
set_option maxRecDepth 20000 in
theorem gX1_look_X1_finish : GoodIn wsX1_look (wsV RX1 42 RX1 yX1_finish wsX1_finish) := goodIn_app (goodIn_of _ (by decide +kernel)) ggX1_look_X1_finish
set_option maxRecDepth 20000 in
theorem ggX1_look_X1_lose : GoodIn wsX1_look wsX1_lose := goodIn_r _ [16, 1, 3, 4, 5, 6, 7, 8, 9, 10, 11, 12, 31, 32, 33, 34, 35, 36, 37, 38, 39] (by decide +kernel) (by decide +kernel)
set_option maxRecDepth 20000 in
theorem gX1_look_X1_lose : GoodIn wsX1_look (wsV RX1 46 RX1 yX1_lose wsX1_lose) := goodIn_app (goodIn_of _ (by decide +kernel)) ggX1_look_X1_lose
set_option maxRecDepth 20000 in
theorem ggX1_look_X1_begin : GoodIn wsX1_look wsX1_begin := goodIn_r _ [20, 8, 21, 2, 1, 31, 32, 33, 34, 35, 36, 37, 38, 39] (by decide +kernel) (by decide +kernel)
set_option maxRecDepth 20000 in
theorem gX1_look_X1_begin : GoodIn wsX1_look (wsV RX1 49 RX1 yX1_begin wsX1_begin) := goodIn_app (goodIn_of _ (by decide +kernel)) ggX1_look_X1_begin
set_option maxRecDepth 20000 in
theorem ggX1_look_X1_lookInside : GoodIn wsX1_look wsX1_lookInside := goodIn_r _ [25, 2, 1, 26, 27, 28, 6, 29, 8, 21, 30, 3, 4, 5, 7, 9, 10, 11, 12, 31, 32, 33, 34, 35, 36, 37, 38, 39] (by decide +kernel) (by decide +kernel)
set_option maxRecDepth 20000 in
theorem gX1_look_X1_lookInside : GoodIn wsX1_look (wsV RX1 52 RX1 yX1_lookInside wsX1_lookInside) := goodIn_app (goodIn_of _ (by decide +kernel)) ggX1_look_X1_lookInside
theorem dX1_look_0 : decode cX1_look 0 = .ok (.aload_n 0, 1) := by decide +kernel
theorem dX1_look_1 : decode cX1_look 1 = .ok (.getfield 29, 3) := by decide +kernel
theorem dX1_look_4 : decode cX1_look 4 = .ok (.iconst 2, 1) := by decide +kernel
theorem dX1_look_5 : decode cX1_look 5 = .ok (.if_icmp .ne 26, 3) := by decide +kernel
theorem dX1_look_8 : decode cX1_look 8 = .ok (.aload_n 0, 1) := by decide +kernel
theorem dX1_look_9 : decode cX1_look 9 = .ok (.iload_n 1, 1) := by decide +kernel
theorem dX1_look_10 : decode cX1_look 10 = .ok (.sipush 503, 3) := by decide +kernel
theorem dX1_look_13 : decode cX1_look 13 = .ok (.if_icmp .ne 14, 3) := by decide +kernel
theorem dX1_look_16 : decode cX1_look 16 = .ok (.aload_n 0, 1) := by decide +kernel
theorem dX1_look_17 : decode cX1_look 17 = .ok (.getfield 32, 3) := by decide +kernel
theorem dX1_look_20 : decode cX1_look 20 = .ok (.ifCond .ne 7, 3) := by decide +kernel
theorem dX1_look_23 : decode cX1_look 23 = .ok (.iconst 1, 1) := by decide +kernel
theorem dX1_look_24 : decode cX1_look 24 = .ok (.goto 4, 3) := by decide +kernel
theorem dX1_look_27 : decode cX1_look 27 = .ok (.iconst 0, 1) := by decide +kernel
theorem dX1_look_28 : decode cX1_look 28 = .ok (.invokevirtual 42, 3) := by decide +kernel
theorem dX1_look_31 : decode cX1_look 31 = .ok (.iload_n 1, 1) := by decide +kernel
theorem dX1_look_32 : decode cX1_look 32 = .ok (.sipush 507, 3) := by decide +kernel
theorem dX1_look_35 : decode cX1_look 35 = .ok (.if_icmp .ne 14, 3) := by decide +kernel
theorem dX1_look_38 : decode cX1_look 38 = .ok (.aload_n 0, 1) := by decide +kernel
theorem dX1_look_39 : decode cX1_look 39 = .ok (.invokevirtual 46, 3) := by decide +kernel
theorem dX1_look_42 : decode cX1_look 42 = .ok (.aload_n 0, 1) := by decide +kernel
theorem dX1_look_43 : decode cX1_look 43 = .ok (.invokevirtual 49, 3) := by decide +kernel
theorem dX1_look_46 : decode cX1_look 46 = .ok (.goto 16, 3) := by decide +kernel
theorem dX1_look_49 : decode cX1_look 49 = .ok (.aload_n 0, 1) := by decide +kernel
theorem dX1_look_50 : decode cX1_look 50 = .ok (.getfield 29, 3) := by decide +kernel
theorem dX1_look_53 : decode cX1_look 53 = .ok (.iconst 1, 1) := by decide +kernel
theorem dX1_look_54 : decode cX1_look 54 = .ok (.if_icmp .ne 8, 3) := by decide +kernel
theorem dX1_look_57 : decode cX1_look 57 = .ok (.aload_n 0, 1) := by decide +kernel
theorem dX1_look_58 : decode cX1_look 58 = .ok (.iload_n 1, 1) := by decide +kernel
theorem dX1_look_59 : decode cX1_look 59 = .ok (.invokevirtual 52, 3) := by decide +kernel
theorem dX1_look_62 : decode cX1_look 62 = .ok (.return_, 1) := by decide +kernel
set_option maxRecDepth 20000 in
theorem ggX1_lookInside_X1_addByte : GoodIn wsX1_lookInside wsX1_addByte := goodIn_r _ [7, 8, 9, 1, 10, 19, 20, 21, 22, 23, 24, 25, 26, 27] (by decide +kernel) (by decide +kernel)
set_option maxRecDepth 20000 in
theorem gX1_lookInside_X1_addByte : GoodIn wsX1_lookInside (wsV RX1 56 RX1 yX1_addByte wsX1_addByte) := goodIn_app (goodIn_of _ (by decide +kernel)) ggX1_lookInside_X1_addByte
set_option maxRecDepth 20000 in
theorem ggX1_lookInside_X1_finish : GoodIn wsX1_lookInside wsX1_finish := goodIn_r _ [14, 8, 15, 2, 16, 17, 18, 19, 20, 21, 22, 23, 24, 25, 26, 27] (by decide +kernel) (by decide +kernel)
set_option maxRecDepth 20000 in
theorem gX1_lookInside_X1_finish : GoodIn wsX1_lookInside (wsV RX1 42 RX1 yX1_finish wsX1_finish) := goodIn_app (goodIn_of _ (by decide +kernel)) ggX1_lookInside_X1_finish
theorem dX1_lookInside_0 : decode cX1_lookInside 0 = .ok (.iload_n 1, 1) := by decide +kernel
theorem dX1_lookInside_1 : decode cX1_lookInside 1 = .ok (.iconst (-1), 1) := by decide +kernel
theorem dX1_lookInside_2 : decode cX1_lookInside 2 = .ok (.if_icmp .ne 11, 3) := by decide +kernel
theorem dX1_lookInside_5 : decode cX1_lookInside 5 = .ok (.aload_n 0, 1) := by decide +kernel
theorem dX1_lookInside_6 : decode cX1_lookInside 6 = .ok (.iconst 1, 1) := by decide +kernel
theorem dX1_lookInside_7 : decode cX1_lookInside 7 = .ok (.putfield 32, 3) := by decide +kernel
theorem dX1_lookInside_10 : decode cX1_lookInside 10 = .ok (.goto 38, 3) := by decide +kernel
theorem dX1_lookInside_13 : decode cX1_lookInside 13 = .ok (.iload_n 1, 1) := by decide +kernel
theorem dX1_lookInside_14 : decode cX1_lookInside 14 = .ok (.sipush 256, 3) := by decide +kernel
theorem dX1_lookInside_17 : decode cX1_lookInside 17 = .ok (.if_icmp .ge 11, 3) := by decide +kernel
theorem dX1_lookInside_20 : decode cX1_lookInside 20 = .ok (.aload_n 0, 1) := by decide +kernel
theorem dX1_lookInside_21 : decode cX1_lookInside 21 = .ok (.iload_n 1, 1) := by decide +kernel
theorem dX1_lookInside_22 : decode cX1_lookInside 22 = .ok (.invokevirtual 56, 3) := by decide +kernel
theorem dX1_lookInside_25 : decode cX1_lookInside 25 = .ok (.goto 23, 3) := by decide +kernel
theorem dX1_lookInside_28 : decode cX1_lookInside 28 = .ok (.iload_n 1, 1) := by decide +kernel
theorem dX1_lookInside_29 : decode cX1_lookInside 29 = .ok (.sipush 509, 3) := by decide +kernel
theorem dX1_lookInside_32 : decode cX1_lookInside 32 = .ok (.if_icmp .ne 11, 3) := by decide +kernel
theorem dX1_lookInside_35 : decode cX1_lookInside 35 = .ok (.aload_n 0, 1) := by decide +kernel
theorem dX1_lookInside_36 : decode cX1_lookInside 36 = .ok (.iconst 2, 1) := by decide +kernel
theorem dX1_lookInside_37 : decode cX1_lookInside 37 = .ok (.putfield 29, 3) := by decide +kernel
theorem dX1_lookInside_40 : decode cX1_lookInside 40 = .ok (.goto 8, 3) := by decide +kernel
theorem dX1_lookInside_43 : decode cX1_lookInside 43 = .ok (.aload_n 0, 1) := by decide +kernel
theorem dX1_lookInside_44 : decode cX1_lookInside 44 = .ok (.iconst 0, 1) := by decide +kernel
theorem dX1_lookInside_45 : decode cX1_lookInside 45 = .ok (.invokevirtual 42, 3) := by decide +kernel
theorem dX1_lookInside_48 : decode cX1_lookInside 48 = .ok (.return_, 1) := by decide +kernel
set_option maxRecDepth 20000 in
theorem ggX1_lose_X1_finish : GoodIn wsX1_lose wsX1_finish := goodIn_r _ [6, 7, 8, 1, 9, 10, 11, 12, 13, 14, 15, 16, 17, 18, 19, 20] (by decide +kernel) (by decide +kernel)
set_option maxRecDepth 20000 in
theorem gX1_lose_X1_finish : GoodIn wsX1_lose (wsV RX1 42 RX1 yX1_finish wsX1_finish) := goodIn_app (goodIn_of _ (by decide +kernel)) ggX1_lose_X1_finish
theorem dX1_lose_0 : decode cX1_lose 0 = .ok (.aload_n 0, 1) := by decide +kernel
theorem dX1_lose_1 : decode cX1_lose 1 = .ok (.getfield 29, 3) := by decide +kernel
theorem dX1_lose_4 : decode cX1_lose 4 = .ok (.ifCond .eq 8, 3) := by decide +kernel
theorem dX1_lose_7 : decode cX1_lose 7 = .ok (.aload_n 0, 1) := by decide +kernel
theorem dX1_lose_8 : decode cX1_lose 8 = .ok (.iconst 0, 1) := by decide +kernel
theorem dX1_lose_9 : decode cX1_lose 9 = .ok (.invokevirtual 42, 3) := by decide +kernel
theorem dX1_lose_12 : decode cX1_lose 12 = .ok (.return_, 1) := by decide +kernel
theorem dX1_begin_0 : decode cX1_begin 0 = .ok (.aload_n 0, 1) := by decide +kernel
theorem dX1_begin_1 : decode cX1_begin 1 = .ok (.getfield 22, 3) := by decide +kernel
theorem dX1_begin_4 : decode cX1_begin 4 = .ok (.ifCond .lt 12, 3) := by decide +kernel
theorem dX1_begin_7 : decode cX1_begin 7 = .ok (.aload_n 0, 1) := by decide +kernel
theorem dX1_begin_8 : decode cX1_begin 8 = .ok (.getfield 22, 3) := by decide +kernel
theorem dX1_begin_11 : decode cX1_begin 11 = .ok (.bipush 41, 2) := by decide +kernel
theorem dX1_begin_13 : decode cX1_begin 13 = .ok (.if_icmp .lt 4, 3) := by decide +kernel
theorem dX1_begin_16 : decode cX1_begin 16 = .ok (.return_, 1) := by decide +kernel
theorem dX1_begin_17 : decode cX1_begin 17 = .ok (.aload_n 0, 1) := by decide +kernel
theorem dX1_begin_18 : decode cX1_begin 18 = .ok (.getfield 15, 3) := by decide +kernel
theorem dX1_begin_21 : decode cX1_begin 21 = .ok (.aload_n 0, 1) := by decide +kernel
theorem dX1_begin_22 : decode cX1_begin 22 = .ok (.getfield 22, 3) := by decide +kernel
theorem dX1_begin_25 : decode cX1_begin 25 = .ok (.iconst 0, 1) := by decide +kernel
theorem dX1_begin_26 : decode cX1_begin 26 = .ok (.iastore, 1) := by decide +kernel
theorem dX1_begin_27 : decode cX1_begin 27 = .ok (.aload_n 0, 1) := by decide +kernel
theorem dX1_begin_28 : decode cX1_begin 28 = .ok (.iconst 0, 1) := by decide +kernel
theorem dX1_begin_29 : decode cX1_begin 29 = .ok (.putfield 32, 3) := by decide +kernel
theorem dX1_begin_32 : decode cX1_begin 32 = .ok (.aload_n 0, 1) := by decide +kernel
theorem dX1_begin_33 : decode cX1_begin 33 = .ok (.iconst 1, 1) := by decide +kernel
theorem dX1_begin_34 : decode cX1_begin 34 = .ok (.putfield 29, 3) := by decide +kernel
theorem dX1_begin_37 : decode cX1_begin 37 = .ok (.return_, 1) := by decide +kernel
theorem dX1_addByte_0 : decode cX1_addByte 0 = .ok (.aload_n 0, 1) := by decide +kernel
theorem dX1_addByte_1 : decode cX1_addByte 1 = .ok (.getfield 22, 3) := by decide +kernel
theorem dX1_addByte_4 : decode cX1_addByte 4 = .ok (.ifCond .lt 12, 3) := by decide +kernel
theorem dX1_addByte_7 : decode cX1_addByte 7 = .ok (.aload_n 0, 1) := by decide +kernel
theorem dX1_addByte_8 : decode cX1_addByte 8 = .ok (.getfield 22, 3) := by decide +kernel
theorem dX1_addByte_11 : decode cX1_addByte 11 = .ok (.bipush 41, 2) := by decide +kernel
theorem dX1_addByte_13 : decode cX1_addByte 13 = .ok (.if_icmp .lt 4, 3) := by decide +kernel
theorem dX1_addByte_16 : decode cX1_addByte 16 = .ok (.return_, 1) := by decide +kernel
theorem dX1_addByte_17 : decode cX1_addByte 17 = .ok (.aload_n 0, 1) := by decide +kernel
theorem dX1_addByte_18 : decode cX1_addByte 18 = .ok (.getfield 15, 3) := by decide +kernel
theorem dX1_addByte_21 : decode cX1_addByte 21 = .ok (.aload_n 0, 1) := by decide +kernel
theorem dX1_addByte_22 : decode cX1_addByte 22 = .ok (.getfield 22, 3) := by decide +kernel
theorem dX1_addByte_25 : decode cX1_addByte 25 = .ok (.iaload, 1) := by decide +kernel
theorem dX1_addByte_26 : decode cX1_addByte 26 = .ok (.istore_n 2, 1) := by decide +kernel
theorem dX1_addByte_27 : decode cX1_addByte 27 = .ok (.iload_n 2, 1) := by decide +kernel
theorem dX1_addByte_28 : decode cX1_addByte 28 = .ok (.ifCond .lt 10, 3) := by decide +kernel
theorem dX1_addByte_31 : decode cX1_addByte 31 = .ok (.iload_n 2, 1) := by decide +kernel
theorem dX1_addByte_32 : decode cX1_addByte 32 = .ok (.sipush 300, 3) := by decide +kernel
theorem dX1_addByte_35 : decode cX1_addByte 35 = .ok (.if_icmp .lt 9, 3) := by decide +kernel
theorem dX1_addByte_38 : decode cX1_addByte 38 = .ok (.aload_n 0, 1) := by decide +kernel
theorem dX1_addByte_39 : decode cX1_addByte 39 = .ok (.iconst 1, 1) := by decide +kernel
theorem dX1_addByte_40 : decode cX1_addByte 40 = .ok (.putfield 32, 3) := by decide +kernel
theorem dX1_addByte_43 : decode cX1_addByte 43 = .ok (.return_, 1) := by decide +kernel
theorem dX1_addByte_44 : decode cX1_addByte 44 = .ok (.aload_n 0, 1) := by decide +kernel
theorem dX1_addByte_45 : decode cX1_addByte 45 = .ok (.getfield 22, 3) := by decide +kernel
theorem dX1_addByte_48 : decode cX1_addByte 48 = .ok (.bipush 75, 2) := by decide +kernel
theorem dX1_addByte_50 : decode cX1_addByte 50 = .ok (.imul, 1) := by decide +kernel
theorem dX1_addByte_51 : decode cX1_addByte 51 = .ok (.iload_n 2, 1) := by decide +kernel
theorem dX1_addByte_52 : decode cX1_addByte 52 = .ok (.iconst 2, 1) := by decide +kernel
theorem dX1_addByte_53 : decode cX1_addByte 53 = .ok (.ishr, 1) := by decide +kernel
theorem dX1_addByte_54 : decode cX1_addByte 54 = .ok (.iadd, 1) := by decide +kernel
theorem dX1_addByte_55 : decode cX1_addByte 55 = .ok (.istore_n 3, 1) := by decide +kernel
theorem dX1_addByte_56 : decode cX1_addByte 56 = .ok (.iload_n 2, 1) := by decide +kernel
theorem dX1_addByte_57 : decode cX1_addByte 57 = .ok (.iconst 3, 1) := by decide +kernel
theorem dX1_addByte_58 : decode cX1_addByte 58 = .ok (.iand, 1) := by decide +kernel
theorem dX1_addByte_59 : decode cX1_addByte 59 = .ok (.bipush 8, 2) := by decide +kernel
theorem dX1_addByte_61 : decode cX1_addByte 61 = .ok (.imul, 1) := by decide +kernel
theorem dX1_addByte_62 : decode cX1_addByte 62 = .ok (.istore 4, 2) := by decide +kernel
theorem dX1_addByte_64 : decode cX1_addByte 64 = .ok (.aload_n 0, 1) := by decide +kernel
theorem dX1_addByte_65 : decode cX1_addByte 65 = .ok (.getfield 11, 3) := by decide +kernel
theorem dX1_addByte_68 : decode cX1_addByte 68 = .ok (.iload_n 3, 1) := by decide +kernel
theorem dX1_addByte_69 : decode cX1_addByte 69 = .ok (.aload_n 0, 1) := by decide +kernel
theorem dX1_addByte_70 : decode cX1_addByte 70 = .ok (.getfield 11, 3) := by decide +kernel
theorem dX1_addByte_73 : decode cX1_addByte 73 = .ok (.iload_n 3, 1) := by decide +kernel
theorem dX1_addByte_74 : decode cX1_addByte 74 = .ok (.iaload, 1) := by decide +kernel
theorem dX1_addByte_75 : decode cX1_addByte 75 = .ok (.sipush 255, 3) := by decide +kernel
theorem dX1_addByte_78 : decode cX1_addByte 78 = .ok (.iload 4, 2) := by decide +kernel
theorem dX1_addByte_80 : decode cX1_addByte 80 = .ok (.ishl, 1) := by decide +kernel
theorem dX1_addByte_81 : decode cX1_addByte 81 = .ok (.iconst (-1), 1) := by decide +kernel
theorem dX1_addByte_82 : decode cX1_addByte 82 = .ok (.ixor, 1) := by decide +kernel
theorem dX1_addByte_83 : decode cX1_addByte 83 = .ok (.iand, 1) := by decide +kernel
theorem dX1_addByte_84 : decode cX1_addByte 84 = .ok (.iload_n 1, 1) := by decide +kernel
theorem dX1_addByte_85 : decode cX1_addByte 85 = .ok (.sipush 255, 3) := by decide +kernel
theorem dX1_addByte_88 : decode cX1_addByte 88 = .ok (.iand, 1) := by decide +kernel
theorem dX1_addByte_89 : decode cX1_addByte 89 = .ok (.iload 4, 2) := by decide +kernel
theorem dX1_addByte_91 : decode cX1_addByte 91 = .ok (.ishl, 1) := by decide +kernel
theorem dX1_addByte_92 : decode cX1_addByte 92 = .ok (.ior, 1) := by decide +kernel
theorem dX1_addByte_93 : decode cX1_addByte 93 = .ok (.iastore, 1) := by decide +kernel
theorem dX1_addByte_94 : decode cX1_addByte 94 = .ok (.aload_n 0, 1) := by decide +kernel
theorem dX1_addByte_95 : decode cX1_addByte 95 = .ok (.getfield 15, 3) := by decide +kernel
theorem dX1_addByte_98 : decode cX1_addByte 98 = .ok (.aload_n 0, 1) := by decide +kernel
theorem dX1_addByte_99 : decode cX1_addByte 99 = .ok (.getfield 22, 3) := by decide +kernel
theorem dX1_addByte_102 : decode cX1_addByte 102 = .ok (.iload_n 2, 1) := by decide +kernel
theorem dX1_addByte_103 : decode cX1_addByte 103 = .ok (.iconst 1, 1) := by decide +kernel
theorem dX1_addByte_104 : decode cX1_addByte 104 = .ok (.iadd, 1) := by decide +kernel
theorem dX1_addByte_105 : decode cX1_addByte 105 = .ok (.iastore, 1) := by decide +kernel
theorem dX1_addByte_106 : decode cX1_addByte 106 = .ok (.return_, 1) := by decide +kernel
theorem dX1_finish_0 : decode cX1_finish 0 = .ok (.aload_n 0, 1) := by decide +kernel
theorem dX1_finish_1 : decode cX1_finish 1 = .ok (.getfield 22, 3) := by decide +kernel
theorem dX1_finish_4 : decode cX1_finish 4 = .ok (.ifCond .lt 12, 3) := by decide +kernel
theorem dX1_finish_7 : decode cX1_finish 7 = .ok (.aload_n 0, 1) := by decide +kernel
theorem dX1_finish_8 : decode cX1_finish 8 = .ok (.getfield 22, 3) := by decide +kernel
theorem dX1_finish_11 : decode cX1_finish 11 = .ok (.bipush 41, 2) := by decide +kernel
theorem dX1_finish_13 : decode cX1_finish 13 = .ok (.if_icmp .lt 4, 3) := by decide +kernel
theorem dX1_finish_16 : decode cX1_finish 16 = .ok (.return_, 1) := by decide +kernel
theorem dX1_finish_17 : decode cX1_finish 17 = .ok (.aload_n 0, 1) := by decide +kernel
theorem dX1_finish_18 : decode cX1_finish 18 = .ok (.getfield 18, 3) := by decide +kernel
theorem dX1_finish_21 : decode cX1_finish 21 = .ok (.aload_n 0, 1) := by decide +kernel
theorem dX1_finish_22 : decode cX1_finish 22 = .ok (.getfield 22, 3) := by decide +kernel
theorem dX1_finish_25 : decode cX1_finish 25 = .ok (.iload_n 1, 1) := by decide +kernel
theorem dX1_finish_26 : decode cX1_finish 26 = .ok (.bastore, 1) := by decide +kernel
theorem dX1_finish_27 : decode cX1_finish 27 = .ok (.aload_n 0, 1) := by decide +kernel
theorem dX1_finish_28 : decode cX1_finish 28 = .ok (.aload_n 0, 1) := by decide +kernel
theorem dX1_finish_29 : decode cX1_finish 29 = .ok (.getfield 22, 3) := by decide +kernel
theorem dX1_finish_32 : decode cX1_finish 32 = .ok (.iconst 1, 1) := by decide +kernel
theorem dX1_finish_33 : decode cX1_finish 33 = .ok (.iadd, 1) := by decide +kernel
theorem dX1_finish_34 : decode cX1_finish 34 = .ok (.bipush 41, 2) := by decide +kernel
theorem dX1_finish_36 : decode cX1_finish 36 = .ok (.if_icmp .ge 12, 3) := by decide +kernel
theorem dX1_finish_39 : decode cX1_finish 39 = .ok (.aload_n 0, 1) := by decide +kernel
theorem dX1_finish_40 : decode cX1_finish 40 = .ok (.getfield 22, 3) := by decide +kernel
theorem dX1_finish_43 : decode cX1_finish 43 = .ok (.iconst 1, 1) := by decide +kernel
theorem dX1_finish_44 : decode cX1_finish 44 = .ok (.iadd, 1) := by decide +kernel
theorem dX1_finish_45 : decode cX1_finish 45 = .ok (.goto 4, 3) := by decide +kernel
theorem dX1_finish_48 : decode cX1_finish 48 = .ok (.iconst 0, 1) := by decide +kernel
theorem dX1_finish_49 : decode cX1_finish 49 = .ok (.putfield 22, 3) := by decide +kernel
theorem dX1_finish_52 : decode cX1_finish 52 = .ok (.aload_n 0, 1) := by decide +kernel
theorem dX1_finish_53 : decode cX1_finish 53 = .ok (.iconst 0, 1) := by decide +kernel
theorem dX1_finish_54 : decode cX1_finish 54 = .ok (.putfield 29, 3) := by decide +kernel
theorem dX1_finish_57 : decode cX1_finish 57 = .ok (.aload_n 0, 1) := by decide +kernel
theorem dX1_finish_58 : decode cX1_finish 58 = .ok (.dup, 1) := by decide +kernel
theorem dX1_finish_59 : decode cX1_finish 59 = .ok (.getfield 36, 3) := by decide +kernel
theorem dX1_finish_62 : decode cX1_finish 62 = .ok (.iconst 1, 1) := by decide +kernel
theorem dX1_finish_63 : decode cX1_finish 63 = .ok (.iadd, 1) := by decide +kernel
theorem dX1_finish_64 : decode cX1_finish 64 = .ok (.putfield 36, 3) := by decide +kernel
theorem dX1_finish_67 : decode cX1_finish 67 = .ok (.iload_n 1, 1) := by decide +kernel
theorem dX1_finish_68 : decode cX1_finish 68 = .ok (.ifCond .eq 13, 3) := by decide +kernel
theorem dX1_finish_71 : decode cX1_finish 71 = .ok (.aload_n 0, 1) := by decide +kernel
theorem dX1_finish_72 : decode cX1_finish 72 = .ok (.dup, 1) := by decide +kernel
theorem dX1_finish_73 : decode cX1_finish 73 = .ok (.getfield 39, 3) := by decide +kernel
theorem dX1_finish_76 : decode cX1_finish 76 = .ok (.iconst 1, 1) := by decide +kernel
theorem dX1_finish_77 : decode cX1_finish 77 = .ok (.iadd, 1) := by decide +kernel
theorem dX1_finish_78 : decode cX1_finish 78 = .ok (.putfield 39, 3) := by decide +kernel
theorem dX1_finish_81 : decode cX1_finish 81 = .ok (.aload_n 0, 1) := by decide +kernel
theorem dX1_finish_82 : decode cX1_finish 82 = .ok (.getfield 26, 3) := by decide +kernel
theorem dX1_finish_85 : decode cX1_finish 85 = .ok (.bipush 40, 2) := by decide +kernel
theorem dX1_finish_87 : decode cX1_finish 87 = .ok (.if_icmp .ge 13, 3) := by decide +kernel
theorem dX1_finish_90 : decode cX1_finish 90 = .ok (.aload_n 0, 1) := by decide +kernel
theorem dX1_finish_91 : decode cX1_finish 91 = .ok (.dup, 1) := by decide +kernel
theorem dX1_finish_92 : decode cX1_finish 92 = .ok (.getfield 26, 3) := by decide +kernel
theorem dX1_finish_95 : decode cX1_finish 95 = .ok (.iconst 1, 1) := by decide +kernel
theorem dX1_finish_96 : decode cX1_finish 96 = .ok (.iadd, 1) := by decide +kernel
theorem dX1_finish_97 : decode cX1_finish 97 = .ok (.putfield 26, 3) := by decide +kernel
theorem dX1_finish_100 : decode cX1_finish 100 = .ok (.return_, 1) := by decide +kernel
set_option maxRecDepth 20000 in
theorem ggX1_slotOf_J9_floorMod_7cf53 : GoodIn wsX1_slotOf wsJ9_floorMod_7cf53 := goodIn_r _ [6] (by decide +kernel) (by decide +kernel)
set_option maxRecDepth 20000 in
theorem gX1_slotOf_J9_floorMod_7cf53 : GoodIn wsX1_slotOf (va_wsS RX1 59 yJ9_floorMod_7cf53 wsJ9_floorMod_7cf53) := goodIn_app (goodIn_of _ (by decide +kernel)) ggX1_slotOf_J9_floorMod_7cf53
theorem dX1_slotOf_0 : decode cX1_slotOf 0 = .ok (.aload_n 0, 1) := by decide +kernel
theorem dX1_slotOf_1 : decode cX1_slotOf 1 = .ok (.getfield 22, 3) := by decide +kernel
theorem dX1_slotOf_4 : decode cX1_slotOf 4 = .ok (.aload_n 0, 1) := by decide +kernel
theorem dX1_slotOf_5 : decode cX1_slotOf 5 = .ok (.getfield 26, 3) := by decide +kernel
theorem dX1_slotOf_8 : decode cX1_slotOf 8 = .ok (.isub, 1) := by decide +kernel
theorem dX1_slotOf_9 : decode cX1_slotOf 9 = .ok (.iload_n 1, 1) := by decide +kernel
theorem dX1_slotOf_10 : decode cX1_slotOf 10 = .ok (.iadd, 1) := by decide +kernel
theorem dX1_slotOf_11 : decode cX1_slotOf 11 = .ok (.bipush 41, 2) := by decide +kernel
theorem dX1_slotOf_13 : decode cX1_slotOf 13 = .ok (.invokestatic 59, 3) := by decide +kernel
theorem dX1_slotOf_16 : decode cX1_slotOf 16 = .ok (.ireturn, 1) := by decide +kernel
theorem dX1_has_0 : decode cX1_has 0 = .ok (.iload_n 1, 1) := by decide +kernel
theorem dX1_has_1 : decode cX1_has 1 = .ok (.ifCond .lt 15, 3) := by decide +kernel
theorem dX1_has_4 : decode cX1_has 4 = .ok (.iload_n 1, 1) := by decide +kernel
theorem dX1_has_5 : decode cX1_has 5 = .ok (.aload_n 0, 1) := by decide +kernel
theorem dX1_has_6 : decode cX1_has 6 = .ok (.getfield 26, 3) := by decide +kernel
theorem dX1_has_9 : decode cX1_has 9 = .ok (.if_icmp .ge 7, 3) := by decide +kernel
theorem dX1_has_12 : decode cX1_has 12 = .ok (.iconst 1, 1) := by decide +kernel
theorem dX1_has_13 : decode cX1_has 13 = .ok (.goto 4, 3) := by decide +kernel
theorem dX1_has_16 : decode cX1_has 16 = .ok (.iconst 0, 1) := by decide +kernel
theorem dX1_has_17 : decode cX1_has 17 = .ok (.ireturn, 1) := by decide +kernel
set_option maxRecDepth 20000 in
theorem ggX1_lengthOf_X1_has : GoodIn wsX1_lengthOf wsX1_has := goodIn_r _ [6, 7, 17, 18, 19, 20, 21, 22, 23, 24, 25] (by decide +kernel) (by decide +kernel)
set_option maxRecDepth 20000 in
theorem gX1_lengthOf_X1_has : GoodIn wsX1_lengthOf (wsV RX1 65 RX1 yX1_has wsX1_has) := goodIn_app (goodIn_of _ (by decide +kernel)) ggX1_lengthOf_X1_has
set_option maxRecDepth 20000 in
theorem ggX1_lengthOf_X1_slotOf : GoodIn wsX1_lengthOf wsX1_slotOf := goodIn_r _ [11, 12, 7, 13, 14, 15, 16, 17, 18, 19, 20, 21, 22, 23, 24, 25] (by decide +kernel) (by decide +kernel)
set_option maxRecDepth 20000 in
theorem gX1_lengthOf_X1_slotOf : GoodIn wsX1_lengthOf (wsV RX1 69 RX1 yX1_slotOf wsX1_slotOf) := goodIn_app (goodIn_of _ (by decide +kernel)) ggX1_lengthOf_X1_slotOf
theorem dX1_lengthOf_0 : decode cX1_lengthOf 0 = .ok (.aload_n 0, 1) := by decide +kernel
theorem dX1_lengthOf_1 : decode cX1_lengthOf 1 = .ok (.iload_n 1, 1) := by decide +kernel
theorem dX1_lengthOf_2 : decode cX1_lengthOf 2 = .ok (.invokevirtual 65, 3) := by decide +kernel
theorem dX1_lengthOf_5 : decode cX1_lengthOf 5 = .ok (.ifCond .eq 16, 3) := by decide +kernel
theorem dX1_lengthOf_8 : decode cX1_lengthOf 8 = .ok (.aload_n 0, 1) := by decide +kernel
theorem dX1_lengthOf_9 : decode cX1_lengthOf 9 = .ok (.getfield 15, 3) := by decide +kernel
theorem dX1_lengthOf_12 : decode cX1_lengthOf 12 = .ok (.aload_n 0, 1) := by decide +kernel
theorem dX1_lengthOf_13 : decode cX1_lengthOf 13 = .ok (.iload_n 1, 1) := by decide +kernel
theorem dX1_lengthOf_14 : decode cX1_lengthOf 14 = .ok (.invokevirtual 69, 3) := by decide +kernel
theorem dX1_lengthOf_17 : decode cX1_lengthOf 17 = .ok (.iaload, 1) := by decide +kernel
theorem dX1_lengthOf_18 : decode cX1_lengthOf 18 = .ok (.goto 4, 3) := by decide +kernel
theorem dX1_lengthOf_21 : decode cX1_lengthOf 21 = .ok (.iconst (-1), 1) := by decide +kernel
theorem dX1_lengthOf_22 : decode cX1_lengthOf 22 = .ok (.ireturn, 1) := by decide +kernel
set_option maxRecDepth 20000 in
theorem ggX1_isWhole_X1_has : GoodIn wsX1_isWhole wsX1_has := goodIn_r _ [6, 7, 17, 18, 19, 20, 21, 22, 23, 24, 25] (by decide +kernel) (by decide +kernel)
set_option maxRecDepth 20000 in
theorem gX1_isWhole_X1_has : GoodIn wsX1_isWhole (wsV RX1 65 RX1 yX1_has wsX1_has) := goodIn_app (goodIn_of _ (by decide +kernel)) ggX1_isWhole_X1_has
set_option maxRecDepth 20000 in
theorem ggX1_isWhole_X1_slotOf : GoodIn wsX1_isWhole wsX1_slotOf := goodIn_r _ [11, 12, 7, 13, 14, 15, 16, 17, 18, 19, 20, 21, 22, 23, 24, 25] (by decide +kernel) (by decide +kernel)
set_option maxRecDepth 20000 in
theorem gX1_isWhole_X1_slotOf : GoodIn wsX1_isWhole (wsV RX1 69 RX1 yX1_slotOf wsX1_slotOf) := goodIn_app (goodIn_of _ (by decide +kernel)) ggX1_isWhole_X1_slotOf
theorem dX1_isWhole_0 : decode cX1_isWhole 0 = .ok (.aload_n 0, 1) := by decide +kernel
theorem dX1_isWhole_1 : decode cX1_isWhole 1 = .ok (.iload_n 1, 1) := by decide +kernel
theorem dX1_isWhole_2 : decode cX1_isWhole 2 = .ok (.invokevirtual 65, 3) := by decide +kernel
theorem dX1_isWhole_5 : decode cX1_isWhole 5 = .ok (.ifCond .eq 20, 3) := by decide +kernel
theorem dX1_isWhole_8 : decode cX1_isWhole 8 = .ok (.aload_n 0, 1) := by decide +kernel
theorem dX1_isWhole_9 : decode cX1_isWhole 9 = .ok (.getfield 18, 3) := by decide +kernel
theorem dX1_isWhole_12 : decode cX1_isWhole 12 = .ok (.aload_n 0, 1) := by decide +kernel
theorem dX1_isWhole_13 : decode cX1_isWhole 13 = .ok (.iload_n 1, 1) := by decide +kernel
theorem dX1_isWhole_14 : decode cX1_isWhole 14 = .ok (.invokevirtual 69, 3) := by decide +kernel
theorem dX1_isWhole_17 : decode cX1_isWhole 17 = .ok (.baload, 1) := by decide +kernel
theorem dX1_isWhole_18 : decode cX1_isWhole 18 = .ok (.ifCond .eq 7, 3) := by decide +kernel
theorem dX1_isWhole_21 : decode cX1_isWhole 21 = .ok (.iconst 1, 1) := by decide +kernel
theorem dX1_isWhole_22 : decode cX1_isWhole 22 = .ok (.goto 4, 3) := by decide +kernel
theorem dX1_isWhole_25 : decode cX1_isWhole 25 = .ok (.iconst 0, 1) := by decide +kernel
theorem dX1_isWhole_26 : decode cX1_isWhole 26 = .ok (.ireturn, 1) := by decide +kernel
set_option maxRecDepth 20000 in
theorem ggX1_byteOf_X1_lengthOf : GoodIn wsX1_byteOf wsX1_lengthOf := goodIn_r _ [6, 7, 8, 9, 10, 5, 11, 12, 13, 14, 15, 16, 17, 18, 19, 20, 21, 22, 23, 24, 25, 26, 27, 28, 29, 30] (by decide +kernel) (by decide +kernel)
set_option maxRecDepth 20000 in
theorem gX1_byteOf_X1_lengthOf : GoodIn wsX1_byteOf (wsV RX1 73 RX1 yX1_lengthOf wsX1_lengthOf) := goodIn_app (goodIn_of _ (by decide +kernel)) ggX1_byteOf_X1_lengthOf
set_option maxRecDepth 20000 in
theorem ggX1_byteOf_X1_slotOf : GoodIn wsX1_byteOf wsX1_slotOf := goodIn_r _ [16, 17, 12, 18, 19, 20, 21, 22, 23, 24, 25, 26, 27, 28, 29, 30] (by decide +kernel) (by decide +kernel)
set_option maxRecDepth 20000 in
theorem gX1_byteOf_X1_slotOf : GoodIn wsX1_byteOf (wsV RX1 69 RX1 yX1_slotOf wsX1_slotOf) := goodIn_app (goodIn_of _ (by decide +kernel)) ggX1_byteOf_X1_slotOf
theorem dX1_byteOf_0 : decode cX1_byteOf 0 = .ok (.iload_n 2, 1) := by decide +kernel
theorem dX1_byteOf_1 : decode cX1_byteOf 1 = .ok (.ifCond .lt 19, 3) := by decide +kernel
theorem dX1_byteOf_4 : decode cX1_byteOf 4 = .ok (.iload_n 2, 1) := by decide +kernel
theorem dX1_byteOf_5 : decode cX1_byteOf 5 = .ok (.sipush 300, 3) := by decide +kernel
theorem dX1_byteOf_8 : decode cX1_byteOf 8 = .ok (.if_icmp .ge 12, 3) := by decide +kernel
theorem dX1_byteOf_11 : decode cX1_byteOf 11 = .ok (.iload_n 2, 1) := by decide +kernel
theorem dX1_byteOf_12 : decode cX1_byteOf 12 = .ok (.aload_n 0, 1) := by decide +kernel
theorem dX1_byteOf_13 : decode cX1_byteOf 13 = .ok (.iload_n 1, 1) := by decide +kernel
theorem dX1_byteOf_14 : decode cX1_byteOf 14 = .ok (.invokevirtual 73, 3) := by decide +kernel
theorem dX1_byteOf_17 : decode cX1_byteOf 17 = .ok (.if_icmp .lt 5, 3) := by decide +kernel
theorem dX1_byteOf_20 : decode cX1_byteOf 20 = .ok (.iconst (-1), 1) := by decide +kernel
theorem dX1_byteOf_21 : decode cX1_byteOf 21 = .ok (.ireturn, 1) := by decide +kernel
theorem dX1_byteOf_22 : decode cX1_byteOf 22 = .ok (.aload_n 0, 1) := by decide +kernel
theorem dX1_byteOf_23 : decode cX1_byteOf 23 = .ok (.iload_n 1, 1) := by decide +kernel
theorem dX1_byteOf_24 : decode cX1_byteOf 24 = .ok (.invokevirtual 69, 3) := by decide +kernel
theorem dX1_byteOf_27 : decode cX1_byteOf 27 = .ok (.bipush 75, 2) := by decide +kernel
theorem dX1_byteOf_29 : decode cX1_byteOf 29 = .ok (.imul, 1) := by decide +kernel
theorem dX1_byteOf_30 : decode cX1_byteOf 30 = .ok (.iload_n 2, 1) := by decide +kernel
theorem dX1_byteOf_31 : decode cX1_byteOf 31 = .ok (.iconst 2, 1) := by decide +kernel
theorem dX1_byteOf_32 : decode cX1_byteOf 32 = .ok (.ishr, 1) := by decide +kernel
theorem dX1_byteOf_33 : decode cX1_byteOf 33 = .ok (.iadd, 1) := by decide +kernel
theorem dX1_byteOf_34 : decode cX1_byteOf 34 = .ok (.istore_n 3, 1) := by decide +kernel
theorem dX1_byteOf_35 : decode cX1_byteOf 35 = .ok (.aload_n 0, 1) := by decide +kernel
theorem dX1_byteOf_36 : decode cX1_byteOf 36 = .ok (.getfield 11, 3) := by decide +kernel
theorem dX1_byteOf_39 : decode cX1_byteOf 39 = .ok (.iload_n 3, 1) := by decide +kernel
theorem dX1_byteOf_40 : decode cX1_byteOf 40 = .ok (.iaload, 1) := by decide +kernel
theorem dX1_byteOf_41 : decode cX1_byteOf 41 = .ok (.iload_n 2, 1) := by decide +kernel
theorem dX1_byteOf_42 : decode cX1_byteOf 42 = .ok (.iconst 3, 1) := by decide +kernel
theorem dX1_byteOf_43 : decode cX1_byteOf 43 = .ok (.iand, 1) := by decide +kernel
theorem dX1_byteOf_44 : decode cX1_byteOf 44 = .ok (.bipush 8, 2) := by decide +kernel
theorem dX1_byteOf_46 : decode cX1_byteOf 46 = .ok (.imul, 1) := by decide +kernel
theorem dX1_byteOf_47 : decode cX1_byteOf 47 = .ok (.ishr, 1) := by decide +kernel
theorem dX1_byteOf_48 : decode cX1_byteOf 48 = .ok (.sipush 255, 3) := by decide +kernel
theorem dX1_byteOf_51 : decode cX1_byteOf 51 = .ok (.iand, 1) := by decide +kernel
theorem dX1_byteOf_52 : decode cX1_byteOf 52 = .ok (.ireturn, 1) := by decide +kernel
theorem dX2_init_0 : decode cX2_init 0 = .ok (.aload_n 0, 1) := by decide +kernel
theorem dX2_init_1 : decode cX2_init 1 = .ok (.invokespecial 3, 3) := by decide +kernel
theorem dX2_init_4 : decode cX2_init 4 = .ok (.aload_n 0, 1) := by decide +kernel
theorem dX2_init_5 : decode cX2_init 5 = .ok (.sipush 8000, 3) := by decide +kernel
theorem dX2_init_8 : decode cX2_init 8 = .ok (.newarray .byte, 2) := by decide +kernel
theorem dX2_init_10 : decode cX2_init 10 = .ok (.putfield 11, 3) := by decide +kernel
theorem dX2_init_13 : decode cX2_init 13 = .ok (.aload_n 0, 1) := by decide +kernel
theorem dX2_init_14 : decode cX2_init 14 = .ok (.iconst 0, 1) := by decide +kernel
theorem dX2_init_15 : decode cX2_init 15 = .ok (.putfield 15, 3) := by decide +kernel
theorem dX2_init_18 : decode cX2_init 18 = .ok (.return_, 1) := by decide +kernel
theorem dX2_hasRoomFor_0 : decode cX2_hasRoomFor 0 = .ok (.iload_n 1, 1) := by decide +kernel
theorem dX2_hasRoomFor_1 : decode cX2_hasRoomFor 1 = .ok (.sipush 8000, 3) := by decide +kernel
theorem dX2_hasRoomFor_4 : decode cX2_hasRoomFor 4 = .ok (.aload_n 0, 1) := by decide +kernel
theorem dX2_hasRoomFor_5 : decode cX2_hasRoomFor 5 = .ok (.getfield 15, 3) := by decide +kernel
theorem dX2_hasRoomFor_8 : decode cX2_hasRoomFor 8 = .ok (.isub, 1) := by decide +kernel
theorem dX2_hasRoomFor_9 : decode cX2_hasRoomFor 9 = .ok (.if_icmp .gt 7, 3) := by decide +kernel
theorem dX2_hasRoomFor_12 : decode cX2_hasRoomFor 12 = .ok (.iconst 1, 1) := by decide +kernel
theorem dX2_hasRoomFor_13 : decode cX2_hasRoomFor 13 = .ok (.goto 4, 3) := by decide +kernel
theorem dX2_hasRoomFor_16 : decode cX2_hasRoomFor 16 = .ok (.iconst 0, 1) := by decide +kernel
theorem dX2_hasRoomFor_17 : decode cX2_hasRoomFor 17 = .ok (.ireturn, 1) := by decide +kernel
theorem dX2_append_0 : decode cX2_append 0 = .ok (.aload_n 0, 1) := by decide +kernel
theorem dX2_append_1 : decode cX2_append 1 = .ok (.getfield 15, 3) := by decide +kernel
theorem dX2_append_4 : decode cX2_append 4 = .ok (.ifCond .lt 13, 3) := by decide +kernel
theorem dX2_append_7 : decode cX2_append 7 = .ok (.aload_n 0, 1) := by decide +kernel
theorem dX2_append_8 : decode cX2_append 8 = .ok (.getfield 15, 3) := by decide +kernel
theorem dX2_append_11 : decode cX2_append 11 = .ok (.sipush 8000, 3) := by decide +kernel
theorem dX2_append_14 : decode cX2_append 14 = .ok (.if_icmp .lt 5, 3) := by decide +kernel
theorem dX2_append_17 : decode cX2_append 17 = .ok (.iconst 0, 1) := by decide +kernel
theorem dX2_append_18 : decode cX2_append 18 = .ok (.ireturn, 1) := by decide +kernel
theorem dX2_append_19 : decode cX2_append 19 = .ok (.aload_n 0, 1) := by decide +kernel
theorem dX2_append_20 : decode cX2_append 20 = .ok (.getfield 11, 3) := by decide +kernel
theorem dX2_append_23 : decode cX2_append 23 = .ok (.aload_n 0, 1) := by decide +kernel
theorem dX2_append_24 : decode cX2_append 24 = .ok (.getfield 15, 3) := by decide +kernel
theorem dX2_append_27 : decode cX2_append 27 = .ok (.iload_n 1, 1) := by decide +kernel
theorem dX2_append_28 : decode cX2_append 28 = .ok (.i2b, 1) := by decide +kernel
theorem dX2_append_29 : decode cX2_append 29 = .ok (.bastore, 1) := by decide +kernel
theorem dX2_append_30 : decode cX2_append 30 = .ok (.aload_n 0, 1) := by decide +kernel
theorem dX2_append_31 : decode cX2_append 31 = .ok (.dup, 1) := by decide +kernel
theorem dX2_append_32 : decode cX2_append 32 = .ok (.getfield 15, 3) := by decide +kernel
theorem dX2_append_35 : decode cX2_append 35 = .ok (.iconst 1, 1) := by decide +kernel
theorem dX2_append_36 : decode cX2_append 36 = .ok (.iadd, 1) := by decide +kernel
theorem dX2_append_37 : decode cX2_append 37 = .ok (.putfield 15, 3) := by decide +kernel
theorem dX2_append_40 : decode cX2_append 40 = .ok (.iconst 1, 1) := by decide +kernel
theorem dX2_append_41 : decode cX2_append 41 = .ok (.ireturn, 1) := by decide +kernel
theorem dX2_has_0 : decode cX2_has 0 = .ok (.iload_n 1, 1) := by decide +kernel
theorem dX2_has_1 : decode cX2_has 1 = .ok (.ifCond .lt 25, 3) := by decide +kernel
theorem dX2_has_4 : decode cX2_has 4 = .ok (.iload_n 1, 1) := by decide +kernel
theorem dX2_has_5 : decode cX2_has 5 = .ok (.aload_n 0, 1) := by decide +kernel
theorem dX2_has_6 : decode cX2_has 6 = .ok (.getfield 15, 3) := by decide +kernel
theorem dX2_has_9 : decode cX2_has 9 = .ok (.if_icmp .ge 17, 3) := by decide +kernel
theorem dX2_has_12 : decode cX2_has 12 = .ok (.aload_n 0, 1) := by decide +kernel
theorem dX2_has_13 : decode cX2_has 13 = .ok (.getfield 15, 3) := by decide +kernel
theorem dX2_has_16 : decode cX2_has 16 = .ok (.sipush 8000, 3) := by decide +kernel
theorem dX2_has_19 : decode cX2_has 19 = .ok (.if_icmp .gt 7, 3) := by decide +kernel
theorem dX2_has_22 : decode cX2_has 22 = .ok (.iconst 1, 1) := by decide +kernel
theorem dX2_has_23 : decode cX2_has 23 = .ok (.goto 4, 3) := by decide +kernel
theorem dX2_has_26 : decode cX2_has 26 = .ok (.iconst 0, 1) := by decide +kernel
theorem dX2_has_27 : decode cX2_has 27 = .ok (.ireturn, 1) := by decide +kernel
set_option maxRecDepth 20000 in
theorem ggX2_get_X2_has : GoodIn wsX2_get wsX2_has := goodIn_r _ [6, 7, 8, 9] (by decide +kernel) (by decide +kernel)
set_option maxRecDepth 20000 in
theorem gX2_get_X2_has : GoodIn wsX2_get (wsV RX2 19 RX2 yX2_has wsX2_has) := goodIn_app (goodIn_of _ (by decide +kernel)) ggX2_get_X2_has
theorem dX2_get_0 : decode cX2_get 0 = .ok (.aload_n 0, 1) := by decide +kernel
theorem dX2_get_1 : decode cX2_get 1 = .ok (.iload_n 1, 1) := by decide +kernel
theorem dX2_get_2 : decode cX2_get 2 = .ok (.invokevirtual 19, 3) := by decide +kernel
theorem dX2_get_5 : decode cX2_get 5 = .ok (.ifCond .eq 12, 3) := by decide +kernel
theorem dX2_get_8 : decode cX2_get 8 = .ok (.aload_n 0, 1) := by decide +kernel
theorem dX2_get_9 : decode cX2_get 9 = .ok (.getfield 11, 3) := by decide +kernel
theorem dX2_get_12 : decode cX2_get 12 = .ok (.iload_n 1, 1) := by decide +kernel
theorem dX2_get_13 : decode cX2_get 13 = .ok (.baload, 1) := by decide +kernel
theorem dX2_get_14 : decode cX2_get 14 = .ok (.goto 4, 3) := by decide +kernel
theorem dX2_get_17 : decode cX2_get 17 = .ok (.iconst (-1), 1) := by decide +kernel
theorem dX2_get_18 : decode cX2_get 18 = .ok (.ireturn, 1) := by decide +kernel
set_option maxRecDepth 20000 in
theorem ggX2_flip_X2_has : GoodIn wsX2_flip wsX2_has := goodIn_r _ [6, 7, 8, 9] (by decide +kernel) (by decide +kernel)
set_option maxRecDepth 20000 in
theorem gX2_flip_X2_has : GoodIn wsX2_flip (wsV RX2 19 RX2 yX2_has wsX2_has) := goodIn_app (goodIn_of _ (by decide +kernel)) ggX2_flip_X2_has
theorem dX2_flip_0 : decode cX2_flip 0 = .ok (.aload_n 0, 1) := by decide +kernel
theorem dX2_flip_1 : decode cX2_flip 1 = .ok (.iload_n 1, 1) := by decide +kernel
theorem dX2_flip_2 : decode cX2_flip 2 = .ok (.invokevirtual 19, 3) := by decide +kernel
theorem dX2_flip_5 : decode cX2_flip 5 = .ok (.ifCond .ne 5, 3) := by decide +kernel
theorem dX2_flip_8 : decode cX2_flip 8 = .ok (.iconst 0, 1) := by decide +kernel
theorem dX2_flip_9 : decode cX2_flip 9 = .ok (.ireturn, 1) := by decide +kernel
theorem dX2_flip_10 : decode cX2_flip 10 = .ok (.aload_n 0, 1) := by decide +kernel
theorem dX2_flip_11 : decode cX2_flip 11 = .ok (.getfield 11, 3) := by decide +kernel
theorem dX2_flip_14 : decode cX2_flip 14 = .ok (.iload_n 1, 1) := by decide +kernel
theorem dX2_flip_15 : decode cX2_flip 15 = .ok (.iconst 1, 1) := by decide +kernel
theorem dX2_flip_16 : decode cX2_flip 16 = .ok (.aload_n 0, 1) := by decide +kernel
theorem dX2_flip_17 : decode cX2_flip 17 = .ok (.getfield 11, 3) := by decide +kernel
theorem dX2_flip_20 : decode cX2_flip 20 = .ok (.iload_n 1, 1) := by decide +kernel
theorem dX2_flip_21 : decode cX2_flip 21 = .ok (.baload, 1) := by decide +kernel
theorem dX2_flip_22 : decode cX2_flip 22 = .ok (.isub, 1) := by decide +kernel
theorem dX2_flip_23 : decode cX2_flip 23 = .ok (.i2b, 1) := by decide +kernel
theorem dX2_flip_24 : decode cX2_flip 24 = .ok (.bastore, 1) := by decide +kernel
theorem dX2_flip_25 : decode cX2_flip 25 = .ok (.iconst 1, 1) := by decide +kernel
theorem dX2_flip_26 : decode cX2_flip 26 = .ok (.ireturn, 1) := by decide +kernel
set_option maxRecDepth 20000 in
theorem ggX2_leaveOut_X2_has : GoodIn wsX2_leaveOut wsX2_has := goodIn_r _ [11, 2, 12, 13] (by decide +kernel) (by decide +kernel)
set_option maxRecDepth 20000 in
theorem gX2_leaveOut_X2_has : GoodIn wsX2_leaveOut (wsV RX2 19 RX2 yX2_has wsX2_has) := goodIn_app (goodIn_of _ (by decide +kernel)) ggX2_leaveOut_X2_has
theorem dX2_leaveOut_0 : decode cX2_leaveOut 0 = .ok (.aload_n 0, 1) := by decide +kernel
theorem dX2_leaveOut_1 : decode cX2_leaveOut 1 = .ok (.iload_n 1, 1) := by decide +kernel
theorem dX2_leaveOut_2 : decode cX2_leaveOut 2 = .ok (.invokevirtual 19, 3) := by decide +kernel
theorem dX2_leaveOut_5 : decode cX2_leaveOut 5 = .ok (.ifCond .ne 5, 3) := by decide +kernel
theorem dX2_leaveOut_8 : decode cX2_leaveOut 8 = .ok (.iconst 0, 1) := by decide +kernel
theorem dX2_leaveOut_9 : decode cX2_leaveOut 9 = .ok (.ireturn, 1) := by decide +kernel
theorem dX2_leaveOut_10 : decode cX2_leaveOut 10 = .ok (.aload_n 0, 1) := by decide +kernel
theorem dX2_leaveOut_11 : decode cX2_leaveOut 11 = .ok (.getfield 11, 3) := by decide +kernel
theorem dX2_leaveOut_14 : decode cX2_leaveOut 14 = .ok (.iload_n 1, 1) := by decide +kernel
theorem dX2_leaveOut_15 : decode cX2_leaveOut 15 = .ok (.iconst 1, 1) := by decide +kernel
theorem dX2_leaveOut_16 : decode cX2_leaveOut 16 = .ok (.iadd, 1) := by decide +kernel
theorem dX2_leaveOut_17 : decode cX2_leaveOut 17 = .ok (.aload_n 0, 1) := by decide +kernel
theorem dX2_leaveOut_18 : decode cX2_leaveOut 18 = .ok (.getfield 11, 3) := by decide +kernel
theorem dX2_leaveOut_21 : decode cX2_leaveOut 21 = .ok (.iload_n 1, 1) := by decide +kernel
theorem dX2_leaveOut_22 : decode cX2_leaveOut 22 = .ok (.aload_n 0, 1) := by decide +kernel
theorem dX2_leaveOut_23 : decode cX2_leaveOut 23 = .ok (.getfield 15, 3) := by decide +kernel
theorem dX2_leaveOut_26 : decode cX2_leaveOut 26 = .ok (.iload_n 1, 1) := by decide +kernel
theorem dX2_leaveOut_27 : decode cX2_leaveOut 27 = .ok (.isub, 1) := by decide +kernel
theorem dX2_leaveOut_28 : decode cX2_leaveOut 28 = .ok (.iconst 1, 1) := by decide +kernel
theorem dX2_leaveOut_29 : decode cX2_leaveOut 29 = .ok (.isub, 1) := by decide +kernel
theorem dX2_leaveOut_30 : decode cX2_leaveOut 30 = .ok (.invokestatic 23, 3) := by decide +kernel
theorem dX2_leaveOut_33 : decode cX2_leaveOut 33 = .ok (.aload_n 0, 1) := by decide +kernel
theorem dX2_leaveOut_34 : decode cX2_leaveOut 34 = .ok (.dup, 1) := by decide +kernel
theorem dX2_leaveOut_35 : decode cX2_leaveOut 35 = .ok (.getfield 15, 3) := by decide +kernel
theorem dX2_leaveOut_38 : decode cX2_leaveOut 38 = .ok (.iconst 1, 1) := by decide +kernel
theorem dX2_leaveOut_39 : decode cX2_leaveOut 39 = .ok (.isub, 1) := by decide +kernel
theorem dX2_leaveOut_40 : decode cX2_leaveOut 40 = .ok (.putfield 15, 3) := by decide +kernel
theorem dX2_leaveOut_43 : decode cX2_leaveOut 43 = .ok (.iconst 1, 1) := by decide +kernel
theorem dX2_leaveOut_44 : decode cX2_leaveOut 44 = .ok (.ireturn, 1) := by decide +kernel
theorem dX2_cutFront_0 : decode cX2_cutFront 0 = .ok (.iload_n 1, 1) := by decide +kernel
theorem dX2_cutFront_1 : decode cX2_cutFront 1 = .ok (.ifCond .le 11, 3) := by decide +kernel
theorem dX2_cutFront_4 : decode cX2_cutFront 4 = .ok (.iload_n 1, 1) := by decide +kernel
theorem dX2_cutFront_5 : decode cX2_cutFront 5 = .ok (.aload_n 0, 1) := by decide +kernel
theorem dX2_cutFront_6 : decode cX2_cutFront 6 = .ok (.getfield 15, 3) := by decide +kernel
theorem dX2_cutFront_9 : decode cX2_cutFront 9 = .ok (.if_icmp .le 4, 3) := by decide +kernel
theorem dX2_cutFront_12 : decode cX2_cutFront 12 = .ok (.return_, 1) := by decide +kernel
theorem dX2_cutFront_13 : decode cX2_cutFront 13 = .ok (.aload_n 0, 1) := by decide +kernel
theorem dX2_cutFront_14 : decode cX2_cutFront 14 = .ok (.getfield 11, 3) := by decide +kernel
theorem dX2_cutFront_17 : decode cX2_cutFront 17 = .ok (.iload_n 1, 1) := by decide +kernel
theorem dX2_cutFront_18 : decode cX2_cutFront 18 = .ok (.aload_n 0, 1) := by decide +kernel
theorem dX2_cutFront_19 : decode cX2_cutFront 19 = .ok (.getfield 11, 3) := by decide +kernel
theorem dX2_cutFront_22 : decode cX2_cutFront 22 = .ok (.iconst 0, 1) := by decide +kernel
theorem dX2_cutFront_23 : decode cX2_cutFront 23 = .ok (.aload_n 0, 1) := by decide +kernel
theorem dX2_cutFront_24 : decode cX2_cutFront 24 = .ok (.getfield 15, 3) := by decide +kernel
theorem dX2_cutFront_27 : decode cX2_cutFront 27 = .ok (.iload_n 1, 1) := by decide +kernel
theorem dX2_cutFront_28 : decode cX2_cutFront 28 = .ok (.isub, 1) := by decide +kernel
theorem dX2_cutFront_29 : decode cX2_cutFront 29 = .ok (.invokestatic 23, 3) := by decide +kernel
theorem dX2_cutFront_32 : decode cX2_cutFront 32 = .ok (.aload_n 0, 1) := by decide +kernel
theorem dX2_cutFront_33 : decode cX2_cutFront 33 = .ok (.dup, 1) := by decide +kernel
theorem dX2_cutFront_34 : decode cX2_cutFront 34 = .ok (.getfield 15, 3) := by decide +kernel
theorem dX2_cutFront_37 : decode cX2_cutFront 37 = .ok (.iload_n 1, 1) := by decide +kernel
theorem dX2_cutFront_38 : decode cX2_cutFront 38 = .ok (.isub, 1) := by decide +kernel
theorem dX2_cutFront_39 : decode cX2_cutFront 39 = .ok (.putfield 15, 3) := by decide +kernel
theorem dX2_cutFront_42 : decode cX2_cutFront 42 = .ok (.return_, 1) := by decide +kernel
set_option maxRecDepth 20000 in
theorem ggX3_init_X5_init : GoodIn wsX3_init wsX5_init := goodIn_r _ [23, 24, 2, 3, 25, 26, 27, 28, 29, 43, 44, 45, 46] (by decide +kernel) (by decide +kernel)
set_option maxRecDepth 20000 in
theorem gX3_init_X5_init_n11 : GoodIn wsX3_init (wsX5_init) := ggX3_init_X5_init
set_option maxRecDepth 20000 in
theorem ggX3_init_X1_init : GoodIn wsX3_init wsX1_init := goodIn_r _ [31, 32, 2, 3, 25, 33, 34, 35, 36, 37, 38, 39, 40, 41, 42, 59, 60, 61, 62, 63, 64, 65, 66, 67] (by decide +kernel) (by decide +kernel)
set_option maxRecDepth 20000 in
theorem gX3_init_X1_init_n20 : GoodIn wsX3_init (wsX1_init) := ggX3_init_X1_init
theorem dX3_init_0 : decode cX3_init 0 = .ok (.aload_n 0, 1) := by decide +kernel
theorem dX3_init_1 : decode cX3_init 1 = .ok (.invokespecial 3, 3) := by decide +kernel
theorem dX3_init_4 : decode cX3_init 4 = .ok (.aload_n 0, 1) := by decide +kernel
theorem dX3_init_5 : decode cX3_init 5 = .ok (.new 9, 3) := by decide +kernel
theorem dX3_init_8 : decode cX3_init 8 = .ok (.dup, 1) := by decide +kernel
theorem dX3_init_9 : decode cX3_init 9 = .ok (.invokespecial 11, 3) := by decide +kernel
theorem dX3_init_12 : decode cX3_init 12 = .ok (.putfield 12, 3) := by decide +kernel
theorem dX3_init_15 : decode cX3_init 15 = .ok (.aload_n 0, 1) := by decide +kernel
theorem dX3_init_16 : decode cX3_init 16 = .ok (.new 18, 3) := by decide +kernel
theorem dX3_init_19 : decode cX3_init 19 = .ok (.dup, 1) := by decide +kernel
theorem dX3_init_20 : decode cX3_init 20 = .ok (.invokespecial 20, 3) := by decide +kernel
theorem dX3_init_23 : decode cX3_init 23 = .ok (.putfield 21, 3) := by decide +kernel
theorem dX3_init_26 : decode cX3_init 26 = .ok (.aload_n 0, 1) := by decide +kernel
theorem dX3_init_27 : decode cX3_init 27 = .ok (.iconst 0, 1) := by decide +kernel
theorem dX3_init_28 : decode cX3_init 28 = .ok (.putfield 25, 3) := by decide +kernel
theorem dX3_init_31 : decode cX3_init 31 = .ok (.aload_n 0, 1) := by decide +kernel
theorem dX3_init_32 : decode cX3_init 32 = .ok (.iconst 0, 1) := by decide +kernel
theorem dX3_init_33 : decode cX3_init 33 = .ok (.putfield 29, 3) := by decide +kernel
theorem dX3_init_36 : decode cX3_init 36 = .ok (.aload_n 0, 1) := by decide +kernel
theorem dX3_init_37 : decode cX3_init 37 = .ok (.iconst 0, 1) := by decide +kernel
theorem dX3_init_38 : decode cX3_init 38 = .ok (.putfield 32, 3) := by decide +kernel
theorem dX3_init_41 : decode cX3_init 41 = .ok (.aload_n 0, 1) := by decide +kernel
theorem dX3_init_42 : decode cX3_init 42 = .ok (.iconst (-1), 1) := by decide +kernel
theorem dX3_init_43 : decode cX3_init 43 = .ok (.putfield 36, 3) := by decide +kernel
theorem dX3_init_46 : decode cX3_init 46 = .ok (.aload_n 0, 1) := by decide +kernel
theorem dX3_init_47 : decode cX3_init 47 = .ok (.iconst 0, 1) := by decide +kernel
theorem dX3_init_48 : decode cX3_init 48 = .ok (.putfield 39, 3) := by decide +kernel
theorem dX3_init_51 : decode cX3_init 51 = .ok (.aload_n 0, 1) := by decide +kernel
theorem dX3_init_52 : decode cX3_init 52 = .ok (.iconst 0, 1) := by decide +kernel
theorem dX3_init_53 : decode cX3_init 53 = .ok (.putfield 42, 3) := by decide +kernel
theorem dX3_init_56 : decode cX3_init 56 = .ok (.aload_n 0, 1) := by decide +kernel
theorem dX3_init_57 : decode cX3_init 57 = .ok (.iconst 0, 1) := by decide +kernel
theorem dX3_init_58 : decode cX3_init 58 = .ok (.putfield 45, 3) := by decide +kernel
theorem dX3_init_61 : decode cX3_init 61 = .ok (.aload_n 0, 1) := by decide +kernel
theorem dX3_init_62 : decode cX3_init 62 = .ok (.iconst 0, 1) := by decide +kernel
theorem dX3_init_63 : decode cX3_init 63 = .ok (.putfield 48, 3) := by decide +kernel
theorem dX3_init_66 : decode cX3_init 66 = .ok (.aload_n 0, 1) := by decide +kernel
theorem dX3_init_67 : decode cX3_init 67 = .ok (.iconst 0, 1) := by decide +kernel
theorem dX3_init_68 : decode cX3_init 68 = .ok (.putfield 51, 3) := by decide +kernel
theorem dX3_init_71 : decode cX3_init 71 = .ok (.aload_n 0, 1) := by decide +kernel
theorem dX3_init_72 : decode cX3_init 72 = .ok (.iconst 0, 1) := by decide +kernel
theorem dX3_init_73 : decode cX3_init 73 = .ok (.putfield 54, 3) := by decide +kernel
theorem dX3_init_76 : decode cX3_init 76 = .ok (.return_, 1) := by decide +kernel
set_option maxRecDepth 20000 in
theorem ggX3_accept_X0_isComma : GoodIn wsX3_accept wsX0_isComma := goodIn_r _ [8] (by decide +kernel) (by decide +kernel)
set_option maxRecDepth 20000 in
theorem gX3_accept_X0_isComma : GoodIn wsX3_accept (va_wsS RX3 57 yX0_isComma wsX0_isComma) := goodIn_app (goodIn_of _ (by decide +kernel)) ggX3_accept_X0_isComma
set_option maxRecDepth 20000 in
theorem ggX3_accept_X3_readGroup : GoodIn wsX3_accept wsX3_readGroup := goodIn_r _ [13, 1, 4, 2, 14, 15, 16, 17, 7, 18, 19, 20, 21, 22, 23, 24, 25, 26, 27, 28, 29, 30, 31, 32, 33, 34, 35, 36, 37, 38, 39, 40, 41, 42, 43, 44, 45, 46, 47, 48, 49, 50, 51, 52, 53, 54, 55, 134, 135, 136, 137, 138, 139, 140, 141, 142, 143, 144, 145] (by decide +kernel) (by decide +kernel)
set_option maxRecDepth 20000 in
theorem gX3_accept_X3_readGroup : GoodIn wsX3_accept (wsV RX3 63 RX3 yX3_readGroup wsX3_readGroup) := goodIn_app (goodIn_of _ (by decide +kernel)) ggX3_accept_X3_readGroup
set_option maxRecDepth 20000 in
theorem ggX3_accept_X3_laterGroup : GoodIn wsX3_accept wsX3_laterGroup := goodIn_r _ [59, 60, 3, 61, 62, 63, 64, 65, 12, 66, 67, 68, 69, 70, 71, 72, 73, 74, 75, 76, 77, 78, 79, 80, 81, 82, 83, 84, 85, 86, 87, 88, 89, 90, 91, 92, 93, 94, 95, 96, 97, 98, 99, 100, 101, 102, 103, 104, 105, 106, 107, 108, 109, 110, 111, 112, 113, 114, 115, 116, 117, 118, 119, 120, 121, 122, 123, 124, 125, 126, 134, 135, 136, 137, 138, 139, 140, 141, 142, 143, 144, 145, 146, 147, 148, 149, 150, 151, 152, 153, 154, 155, 156, 157, 158] (by decide +kernel) (by decide +kernel)
set_option maxRecDepth 20000 in
theorem gX3_accept_X3_laterGroup : GoodIn wsX3_accept (wsV RX3 67 RX3 yX3_laterGroup wsX3_laterGroup) := goodIn_app (goodIn_of _ (by decide +kernel)) ggX3_accept_X3_laterGroup
set_option maxRecDepth 20000 in
theorem ggX3_accept_X0_leanBeforeComma : GoodIn wsX3_accept wsX0_leanBeforeComma := goodIn_r _ [129] (by decide +kernel) (by decide +kernel)
set_option maxRecDepth 20000 in
theorem gX3_accept_X0_leanBeforeComma : GoodIn wsX3_accept (va_wsS RX3 71 yX0_leanBeforeComma wsX0_leanBeforeComma) := goodIn_app (goodIn_of _ (by decide +kernel)) ggX3_accept_X0_leanBeforeComma
set_option maxRecDepth 20000 in
theorem ggX3_accept_X3_firstGroup : GoodIn wsX3_accept wsX3_firstGroup := goodIn_r _ [133, 60, 3, 69, 70, 71, 12, 72, 67, 73, 62, 74, 75, 76, 77, 78, 79, 80, 81, 82, 83, 84, 85, 86, 87, 88, 134, 135, 136, 137, 138, 139, 140, 141, 142, 143, 144, 145, 146, 147, 148, 149, 150, 151, 152, 153, 154] (by decide +kernel) (by decide +kernel)
set_option maxRecDepth 20000 in
theorem gX3_accept_X3_firstGroup : GoodIn wsX3_accept (wsV RX3 75 RX3 yX3_firstGroup wsX3_firstGroup) := goodIn_app (goodIn_of _ (by decide +kernel)) ggX3_accept_X3_firstGroup
theorem dX3_accept_0 : decode cX3_accept 0 = .ok (.aload_n 0, 1) := by decide +kernel
theorem dX3_accept_1 : decode cX3_accept 1 = .ok (.aload_n 0, 1) := by decide +kernel
theorem dX3_accept_2 : decode cX3_accept 2 = .ok (.getfield 25, 3) := by decide +kernel
theorem dX3_accept_5 : decode cX3_accept 5 = .ok (.iconst 1, 1) := by decide +kernel
theorem dX3_accept_6 : decode cX3_accept 6 = .ok (.ishl, 1) := by decide +kernel
theorem dX3_accept_7 : decode cX3_accept 7 = .ok (.iload_n 1, 1) := by decide +kernel
theorem dX3_accept_8 : decode cX3_accept 8 = .ok (.iconst 1, 1) := by decide +kernel
theorem dX3_accept_9 : decode cX3_accept 9 = .ok (.iand, 1) := by decide +kernel
theorem dX3_accept_10 : decode cX3_accept 10 = .ok (.ior, 1) := by decide +kernel
theorem dX3_accept_11 : decode cX3_accept 11 = .ok (.sipush 1023, 3) := by decide +kernel
theorem dX3_accept_14 : decode cX3_accept 14 = .ok (.iand, 1) := by decide +kernel
theorem dX3_accept_15 : decode cX3_accept 15 = .ok (.putfield 25, 3) := by decide +kernel
theorem dX3_accept_18 : decode cX3_accept 18 = .ok (.aload_n 0, 1) := by decide +kernel
theorem dX3_accept_19 : decode cX3_accept 19 = .ok (.getfield 29, 3) := by decide +kernel
theorem dX3_accept_22 : decode cX3_accept 22 = .ok (.bipush 10, 2) := by decide +kernel
theorem dX3_accept_24 : decode cX3_accept 24 = .ok (.if_icmp .ge 13, 3) := by decide +kernel
theorem dX3_accept_27 : decode cX3_accept 27 = .ok (.aload_n 0, 1) := by decide +kernel
theorem dX3_accept_28 : decode cX3_accept 28 = .ok (.dup, 1) := by decide +kernel
theorem dX3_accept_29 : decode cX3_accept 29 = .ok (.getfield 29, 3) := by decide +kernel
theorem dX3_accept_32 : decode cX3_accept 32 = .ok (.iconst 1, 1) := by decide +kernel
theorem dX3_accept_33 : decode cX3_accept 33 = .ok (.iadd, 1) := by decide +kernel
theorem dX3_accept_34 : decode cX3_accept 34 = .ok (.putfield 29, 3) := by decide +kernel
theorem dX3_accept_37 : decode cX3_accept 37 = .ok (.aload_n 0, 1) := by decide +kernel
theorem dX3_accept_38 : decode cX3_accept 38 = .ok (.getfield 29, 3) := by decide +kernel
theorem dX3_accept_41 : decode cX3_accept 41 = .ok (.bipush 10, 2) := by decide +kernel
theorem dX3_accept_43 : decode cX3_accept 43 = .ok (.if_icmp .ge 4, 3) := by decide +kernel
theorem dX3_accept_46 : decode cX3_accept 46 = .ok (.return_, 1) := by decide +kernel
theorem dX3_accept_47 : decode cX3_accept 47 = .ok (.aload_n 0, 1) := by decide +kernel
theorem dX3_accept_48 : decode cX3_accept 48 = .ok (.getfield 25, 3) := by decide +kernel
theorem dX3_accept_51 : decode cX3_accept 51 = .ok (.invokestatic 57, 3) := by decide +kernel
theorem dX3_accept_54 : decode cX3_accept 54 = .ok (.istore_n 2, 1) := by decide +kernel
theorem dX3_accept_55 : decode cX3_accept 55 = .ok (.aload_n 0, 1) := by decide +kernel
theorem dX3_accept_56 : decode cX3_accept 56 = .ok (.getfield 39, 3) := by decide +kernel
theorem dX3_accept_59 : decode cX3_accept 59 = .ok (.ifCond .le 15, 3) := by decide +kernel
theorem dX3_accept_62 : decode cX3_accept 62 = .ok (.aload_n 0, 1) := by decide +kernel
theorem dX3_accept_63 : decode cX3_accept 63 = .ok (.aload_n 0, 1) := by decide +kernel
theorem dX3_accept_64 : decode cX3_accept 64 = .ok (.invokevirtual 63, 3) := by decide +kernel
theorem dX3_accept_67 : decode cX3_accept 67 = .ok (.iload_n 2, 1) := by decide +kernel
theorem dX3_accept_68 : decode cX3_accept 68 = .ok (.invokevirtual 67, 3) := by decide +kernel
theorem dX3_accept_71 : decode cX3_accept 71 = .ok (.goto 26, 3) := by decide +kernel
theorem dX3_accept_74 : decode cX3_accept 74 = .ok (.iload_n 2, 1) := by decide +kernel
theorem dX3_accept_75 : decode cX3_accept 75 = .ok (.ifCond .eq 22, 3) := by decide +kernel
theorem dX3_accept_78 : decode cX3_accept 78 = .ok (.aload_n 0, 1) := by decide +kernel
theorem dX3_accept_79 : decode cX3_accept 79 = .ok (.aload_n 0, 1) := by decide +kernel
theorem dX3_accept_80 : decode cX3_accept 80 = .ok (.getfield 25, 3) := by decide +kernel
theorem dX3_accept_83 : decode cX3_accept 83 = .ok (.invokestatic 71, 3) := by decide +kernel
theorem dX3_accept_86 : decode cX3_accept 86 = .ok (.putfield 36, 3) := by decide +kernel
theorem dX3_accept_89 : decode cX3_accept 89 = .ok (.aload_n 0, 1) := by decide +kernel
theorem dX3_accept_90 : decode cX3_accept 90 = .ok (.aload_n 0, 1) := by decide +kernel
theorem dX3_accept_91 : decode cX3_accept 91 = .ok (.invokevirtual 63, 3) := by decide +kernel
theorem dX3_accept_94 : decode cX3_accept 94 = .ok (.invokevirtual 75, 3) := by decide +kernel
theorem dX3_accept_97 : decode cX3_accept 97 = .ok (.return_, 1) := by decide +kernel
set_option maxRecDepth 20000 in
theorem ggX3_firstGroup_X3_searchAgain : GoodIn wsX3_firstGroup wsX3_searchAgain := goodIn_r _ [7, 2, 8, 9, 10, 11, 12, 13, 14, 15, 16, 17, 18, 19, 20, 21, 22, 23, 24, 25, 26, 27, 28, 29, 30, 31, 32, 33, 34, 35, 36, 37, 38, 39, 40, 41, 42, 43, 44, 45, 46] (by decide +kernel) (by decide +kernel)
set_option maxRecDepth 20000 in
theorem gX3_firstGroup_X3_searchAgain : GoodIn wsX3_firstGroup (wsV RX3 79 RX3 yX3_searchAgain wsX3_searchAgain) := goodIn_app (goodIn_of _ (by decide +kernel)) ggX3_firstGroup_X3_searchAgain
theorem dX3_firstGroup_0 : decode cX3_firstGroup 0 = .ok (.aload_n 0, 1) := by decide +kernel
theorem dX3_firstGroup_1 : decode cX3_firstGroup 1 = .ok (.iconst 1, 1) := by decide +kernel
theorem dX3_firstGroup_2 : decode cX3_firstGroup 2 = .ok (.putfield 32, 3) := by decide +kernel
theorem dX3_firstGroup_5 : decode cX3_firstGroup 5 = .ok (.iload_n 1, 1) := by decide +kernel
theorem dX3_firstGroup_6 : decode cX3_firstGroup 6 = .ok (.iconst (-1), 1) := by decide +kernel
theorem dX3_firstGroup_7 : decode cX3_firstGroup 7 = .ok (.if_icmp .ne 10, 3) := by decide +kernel
theorem dX3_firstGroup_10 : decode cX3_firstGroup 10 = .ok (.aload_n 0, 1) := by decide +kernel
theorem dX3_firstGroup_11 : decode cX3_firstGroup 11 = .ok (.invokevirtual 79, 3) := by decide +kernel
theorem dX3_firstGroup_14 : decode cX3_firstGroup 14 = .ok (.goto 8, 3) := by decide +kernel
theorem dX3_firstGroup_17 : decode cX3_firstGroup 17 = .ok (.aload_n 0, 1) := by decide +kernel
theorem dX3_firstGroup_18 : decode cX3_firstGroup 18 = .ok (.iconst 1, 1) := by decide +kernel
theorem dX3_firstGroup_19 : decode cX3_firstGroup 19 = .ok (.putfield 39, 3) := by decide +kernel
theorem dX3_firstGroup_22 : decode cX3_firstGroup 22 = .ok (.return_, 1) := by decide +kernel
set_option maxRecDepth 20000 in
theorem ggX3_laterGroup_X3_climb : GoodIn wsX3_laterGroup wsX3_climb := goodIn_r _ [9, 2, 10, 11, 12, 13, 14, 8, 15, 16, 4, 17, 18, 19, 20, 21, 22, 23, 24, 25, 26, 27, 28, 29, 30, 31, 70, 71, 72, 73, 74, 75, 76, 77, 78, 79, 80, 81, 82, 83, 84, 85, 86, 87, 88, 89, 90] (by decide +kernel) (by decide +kernel)
set_option maxRecDepth 20000 in
theorem gX3_laterGroup_X3_climb : GoodIn wsX3_laterGroup (wsV RX3 82 RX3 yX3_climb wsX3_climb) := goodIn_app (goodIn_of _ (by decide +kernel)) ggX3_laterGroup_X3_climb
set_option maxRecDepth 20000 in
theorem ggX3_laterGroup_X5_keep : GoodIn wsX3_laterGroup wsX5_keep := goodIn_r _ [36, 37, 38, 39, 40, 41, 42, 43, 44, 91, 92, 93, 94] (by decide +kernel) (by decide +kernel)
set_option maxRecDepth 20000 in
theorem gX3_laterGroup_X5_keep : GoodIn wsX3_laterGroup (wsV RX3 86 RX5 yX5_keep wsX5_keep) := goodIn_app (goodIn_of _ (by decide +kernel)) ggX3_laterGroup_X5_keep
set_option maxRecDepth 20000 in
theorem ggX3_laterGroup_X1_look : GoodIn wsX3_laterGroup wsX1_look := goodIn_r _ [48, 22, 49, 23, 24, 25, 20, 26, 27, 28, 29, 30, 31, 50, 18, 19, 21, 51, 52, 53, 54, 55, 56, 57, 58, 59, 60, 61, 62, 63, 64, 82, 83, 84, 85, 86, 87, 88, 89, 90] (by decide +kernel) (by decide +kernel)
set_option maxRecDepth 20000 in
theorem gX3_laterGroup_X1_look : GoodIn wsX3_laterGroup (wsV RX3 89 RX1 yX1_look wsX1_look) := goodIn_app (goodIn_of _ (by decide +kernel)) ggX3_laterGroup_X1_look
set_option maxRecDepth 20000 in
theorem ggX3_laterGroup_X3_weigh : GoodIn wsX3_laterGroup wsX3_weigh := goodIn_r _ [68, 11, 10, 69, 41, 42, 43, 12, 13, 14, 8, 15, 2, 16, 4, 17, 18, 19, 20, 21, 22, 23, 24, 25, 26, 27, 28, 29, 30, 31, 70, 71, 72, 73, 74, 75, 76, 77, 78, 79, 80, 81, 82, 83, 84, 85, 86, 87, 88, 89, 90] (by decide +kernel) (by decide +kernel)
set_option maxRecDepth 20000 in
theorem gX3_laterGroup_X3_weigh : GoodIn wsX3_laterGroup (wsV RX3 92 RX3 yX3_weigh wsX3_weigh) := goodIn_app (goodIn_of _ (by decide +kernel)) ggX3_laterGroup_X3_weigh
theorem dX3_laterGroup_0 : decode cX3_laterGroup 0 = .ok (.aload_n 0, 1) := by decide +kernel
theorem dX3_laterGroup_1 : decode cX3_laterGroup 1 = .ok (.aload_n 0, 1) := by decide +kernel
theorem dX3_laterGroup_2 : decode cX3_laterGroup 2 = .ok (.getfield 32, 3) := by decide +kernel
theorem dX3_laterGroup_5 : decode cX3_laterGroup 5 = .ok (.ifCond .ne 7, 3) := by decide +kernel
theorem dX3_laterGroup_8 : decode cX3_laterGroup 8 = .ok (.iconst 1, 1) := by decide +kernel
theorem dX3_laterGroup_9 : decode cX3_laterGroup 9 = .ok (.goto 4, 3) := by decide +kernel
theorem dX3_laterGroup_12 : decode cX3_laterGroup 12 = .ok (.iconst 0, 1) := by decide +kernel
theorem dX3_laterGroup_13 : decode cX3_laterGroup 13 = .ok (.putfield 32, 3) := by decide +kernel
theorem dX3_laterGroup_16 : decode cX3_laterGroup 16 = .ok (.iload_n 1, 1) := by decide +kernel
theorem dX3_laterGroup_17 : decode cX3_laterGroup 17 = .ok (.iconst (-1), 1) := by decide +kernel
theorem dX3_laterGroup_18 : decode cX3_laterGroup 18 = .ok (.if_icmp .eq 14, 3) := by decide +kernel
theorem dX3_laterGroup_21 : decode cX3_laterGroup 21 = .ok (.iload_n 2, 1) := by decide +kernel
theorem dX3_laterGroup_22 : decode cX3_laterGroup 22 = .ok (.ifCond .eq 14, 3) := by decide +kernel
theorem dX3_laterGroup_25 : decode cX3_laterGroup 25 = .ok (.aload_n 0, 1) := by decide +kernel
theorem dX3_laterGroup_26 : decode cX3_laterGroup 26 = .ok (.getfield 32, 3) := by decide +kernel
theorem dX3_laterGroup_29 : decode cX3_laterGroup 29 = .ok (.ifCond .ne 7, 3) := by decide +kernel
theorem dX3_laterGroup_32 : decode cX3_laterGroup 32 = .ok (.iconst 1, 1) := by decide +kernel
theorem dX3_laterGroup_33 : decode cX3_laterGroup 33 = .ok (.goto 4, 3) := by decide +kernel
theorem dX3_laterGroup_36 : decode cX3_laterGroup 36 = .ok (.iconst 0, 1) := by decide +kernel
theorem dX3_laterGroup_37 : decode cX3_laterGroup 37 = .ok (.istore_n 3, 1) := by decide +kernel
theorem dX3_laterGroup_38 : decode cX3_laterGroup 38 = .ok (.aload_n 0, 1) := by decide +kernel
theorem dX3_laterGroup_39 : decode cX3_laterGroup 39 = .ok (.getfield 39, 3) := by decide +kernel
theorem dX3_laterGroup_42 : decode cX3_laterGroup 42 = .ok (.iconst 3, 1) := by decide +kernel
theorem dX3_laterGroup_43 : decode cX3_laterGroup 43 = .ok (.if_icmp .ge 12, 3) := by decide +kernel
theorem dX3_laterGroup_46 : decode cX3_laterGroup 46 = .ok (.aload_n 0, 1) := by decide +kernel
theorem dX3_laterGroup_47 : decode cX3_laterGroup 47 = .ok (.iload_n 2, 1) := by decide +kernel
theorem dX3_laterGroup_48 : decode cX3_laterGroup 48 = .ok (.iload_n 3, 1) := by decide +kernel
theorem dX3_laterGroup_49 : decode cX3_laterGroup 49 = .ok (.invokevirtual 82, 3) := by decide +kernel
theorem dX3_laterGroup_52 : decode cX3_laterGroup 52 = .ok (.goto 24, 3) := by decide +kernel
theorem dX3_laterGroup_55 : decode cX3_laterGroup 55 = .ok (.aload_n 0, 1) := by decide +kernel
theorem dX3_laterGroup_56 : decode cX3_laterGroup 56 = .ok (.getfield 12, 3) := by decide +kernel
theorem dX3_laterGroup_59 : decode cX3_laterGroup 59 = .ok (.iload_n 1, 1) := by decide +kernel
theorem dX3_laterGroup_60 : decode cX3_laterGroup 60 = .ok (.invokevirtual 86, 3) := by decide +kernel
theorem dX3_laterGroup_63 : decode cX3_laterGroup 63 = .ok (.aload_n 0, 1) := by decide +kernel
theorem dX3_laterGroup_64 : decode cX3_laterGroup 64 = .ok (.getfield 21, 3) := by decide +kernel
theorem dX3_laterGroup_67 : decode cX3_laterGroup 67 = .ok (.iload_n 1, 1) := by decide +kernel
theorem dX3_laterGroup_68 : decode cX3_laterGroup 68 = .ok (.invokevirtual 89, 3) := by decide +kernel
theorem dX3_laterGroup_71 : decode cX3_laterGroup 71 = .ok (.aload_n 0, 1) := by decide +kernel
theorem dX3_laterGroup_72 : decode cX3_laterGroup 72 = .ok (.iload_n 3, 1) := by decide +kernel
theorem dX3_laterGroup_73 : decode cX3_laterGroup 73 = .ok (.invokevirtual 92, 3) := by decide +kernel
theorem dX3_laterGroup_76 : decode cX3_laterGroup 76 = .ok (.return_, 1) := by decide +kernel
set_option maxRecDepth 20000 in
theorem ggX3_readGroup_X0_symbolOf : GoodIn wsX3_readGroup wsX0_symbolOf := goodIn_r _ [9, 10, 11, 8, 12, 13, 14, 15, 16, 17, 18, 19, 20, 21, 22, 23, 24, 25, 26, 27, 28, 29, 30, 31, 32, 33, 34, 35, 36, 37, 38, 39, 40] (by decide +kernel) (by decide +kernel)
set_option maxRecDepth 20000 in
theorem gX3_readGroup_X0_symbolOf : GoodIn wsX3_readGroup (va_wsS RX3 96 yX0_symbolOf wsX0_symbolOf) := goodIn_app (goodIn_of _ (by decide +kernel)) ggX3_readGroup_X0_symbolOf
set_option maxRecDepth 20000 in
theorem ggX3_readGroup_X0_behindGroup : GoodIn wsX3_readGroup wsX0_behindGroup := goodIn_r _ [43, 18, 19, 8, 20, 21, 22, 23, 24, 25, 26, 27, 44, 45, 46] (by decide +kernel) (by decide +kernel)
set_option maxRecDepth 20000 in
theorem gX3_readGroup_X0_behindGroup : GoodIn wsX3_readGroup (va_wsS RX3 100 yX0_behindGroup wsX0_behindGroup) := goodIn_app (goodIn_of _ (by decide +kernel)) ggX3_readGroup_X0_behindGroup
theorem dX3_readGroup_0 : decode cX3_readGroup 0 = .ok (.aload_n 0, 1) := by decide +kernel
theorem dX3_readGroup_1 : decode cX3_readGroup 1 = .ok (.getfield 25, 3) := by decide +kernel
theorem dX3_readGroup_4 : decode cX3_readGroup 4 = .ok (.aload_n 0, 1) := by decide +kernel
theorem dX3_readGroup_5 : decode cX3_readGroup 5 = .ok (.getfield 36, 3) := by decide +kernel
theorem dX3_readGroup_8 : decode cX3_readGroup 8 = .ok (.invokestatic 96, 3) := by decide +kernel
theorem dX3_readGroup_11 : decode cX3_readGroup 11 = .ok (.istore_n 1, 1) := by decide +kernel
theorem dX3_readGroup_12 : decode cX3_readGroup 12 = .ok (.aload_n 0, 1) := by decide +kernel
theorem dX3_readGroup_13 : decode cX3_readGroup 13 = .ok (.aload_n 0, 1) := by decide +kernel
theorem dX3_readGroup_14 : decode cX3_readGroup 14 = .ok (.getfield 25, 3) := by decide +kernel
theorem dX3_readGroup_17 : decode cX3_readGroup 17 = .ok (.aload_n 0, 1) := by decide +kernel
theorem dX3_readGroup_18 : decode cX3_readGroup 18 = .ok (.getfield 36, 3) := by decide +kernel
theorem dX3_readGroup_21 : decode cX3_readGroup 21 = .ok (.invokestatic 100, 3) := by decide +kernel
theorem dX3_readGroup_24 : decode cX3_readGroup 24 = .ok (.putfield 36, 3) := by decide +kernel
theorem dX3_readGroup_27 : decode cX3_readGroup 27 = .ok (.aload_n 0, 1) := by decide +kernel
theorem dX3_readGroup_28 : decode cX3_readGroup 28 = .ok (.iconst 0, 1) := by decide +kernel
theorem dX3_readGroup_29 : decode cX3_readGroup 29 = .ok (.putfield 29, 3) := by decide +kernel
theorem dX3_readGroup_32 : decode cX3_readGroup 32 = .ok (.aload_n 0, 1) := by decide +kernel
theorem dX3_readGroup_33 : decode cX3_readGroup 33 = .ok (.dup, 1) := by decide +kernel
theorem dX3_readGroup_34 : decode cX3_readGroup 34 = .ok (.getfield 48, 3) := by decide +kernel
theorem dX3_readGroup_37 : decode cX3_readGroup 37 = .ok (.iconst 1, 1) := by decide +kernel
theorem dX3_readGroup_38 : decode cX3_readGroup 38 = .ok (.iadd, 1) := by decide +kernel
theorem dX3_readGroup_39 : decode cX3_readGroup 39 = .ok (.putfield 48, 3) := by decide +kernel
theorem dX3_readGroup_42 : decode cX3_readGroup 42 = .ok (.iload_n 1, 1) := by decide +kernel
theorem dX3_readGroup_43 : decode cX3_readGroup 43 = .ok (.iconst (-1), 1) := by decide +kernel
theorem dX3_readGroup_44 : decode cX3_readGroup 44 = .ok (.if_icmp .ne 13, 3) := by decide +kernel
theorem dX3_readGroup_47 : decode cX3_readGroup 47 = .ok (.aload_n 0, 1) := by decide +kernel
theorem dX3_readGroup_48 : decode cX3_readGroup 48 = .ok (.dup, 1) := by decide +kernel
theorem dX3_readGroup_49 : decode cX3_readGroup 49 = .ok (.getfield 51, 3) := by decide +kernel
theorem dX3_readGroup_52 : decode cX3_readGroup 52 = .ok (.iconst 1, 1) := by decide +kernel
theorem dX3_readGroup_53 : decode cX3_readGroup 53 = .ok (.iadd, 1) := by decide +kernel
theorem dX3_readGroup_54 : decode cX3_readGroup 54 = .ok (.putfield 51, 3) := by decide +kernel
theorem dX3_readGroup_57 : decode cX3_readGroup 57 = .ok (.iload_n 1, 1) := by decide +kernel
theorem dX3_readGroup_58 : decode cX3_readGroup 58 = .ok (.ireturn, 1) := by decide +kernel
set_option maxRecDepth 20000 in
theorem ggX3_climb_X3_searchAgain : GoodIn wsX3_climb wsX3_searchAgain := goodIn_r _ [8, 1, 2, 9, 10, 11, 12, 13, 14, 15, 16, 17, 18, 19, 20, 21, 22, 23, 24, 25, 26, 27, 28, 29, 30, 31, 32, 33, 34, 35, 36, 37, 38, 39, 40, 41, 42, 43, 44, 45, 46] (by decide +kernel) (by decide +kernel)
set_option maxRecDepth 20000 in
theorem gX3_climb_X3_searchAgain : GoodIn wsX3_climb (wsV RX3 79 RX3 yX3_searchAgain wsX3_searchAgain) := goodIn_app (goodIn_of _ (by decide +kernel)) ggX3_climb_X3_searchAgain
theorem dX3_climb_0 : decode cX3_climb 0 = .ok (.iload_n 2, 1) := by decide +kernel
theorem dX3_climb_1 : decode cX3_climb 1 = .ok (.ifCond .eq 10, 3) := by decide +kernel
theorem dX3_climb_4 : decode cX3_climb 4 = .ok (.aload_n 0, 1) := by decide +kernel
theorem dX3_climb_5 : decode cX3_climb 5 = .ok (.invokevirtual 79, 3) := by decide +kernel
theorem dX3_climb_8 : decode cX3_climb 8 = .ok (.goto 39, 3) := by decide +kernel
theorem dX3_climb_11 : decode cX3_climb 11 = .ok (.iload_n 1, 1) := by decide +kernel
theorem dX3_climb_12 : decode cX3_climb 12 = .ok (.ifCond .eq 35, 3) := by decide +kernel
theorem dX3_climb_15 : decode cX3_climb 15 = .ok (.aload_n 0, 1) := by decide +kernel
theorem dX3_climb_16 : decode cX3_climb 16 = .ok (.dup, 1) := by decide +kernel
theorem dX3_climb_17 : decode cX3_climb 17 = .ok (.getfield 39, 3) := by decide +kernel
theorem dX3_climb_20 : decode cX3_climb 20 = .ok (.iconst 1, 1) := by decide +kernel
theorem dX3_climb_21 : decode cX3_climb 21 = .ok (.iadd, 1) := by decide +kernel
theorem dX3_climb_22 : decode cX3_climb 22 = .ok (.putfield 39, 3) := by decide +kernel
theorem dX3_climb_25 : decode cX3_climb 25 = .ok (.aload_n 0, 1) := by decide +kernel
theorem dX3_climb_26 : decode cX3_climb 26 = .ok (.aload_n 0, 1) := by decide +kernel
theorem dX3_climb_27 : decode cX3_climb 27 = .ok (.getfield 39, 3) := by decide +kernel
theorem dX3_climb_30 : decode cX3_climb 30 = .ok (.iconst 3, 1) := by decide +kernel
theorem dX3_climb_31 : decode cX3_climb 31 = .ok (.if_icmp .ne 7, 3) := by decide +kernel
theorem dX3_climb_34 : decode cX3_climb 34 = .ok (.iconst 4, 1) := by decide +kernel
theorem dX3_climb_35 : decode cX3_climb 35 = .ok (.goto 4, 3) := by decide +kernel
theorem dX3_climb_38 : decode cX3_climb 38 = .ok (.iconst 0, 1) := by decide +kernel
theorem dX3_climb_39 : decode cX3_climb 39 = .ok (.putfield 42, 3) := by decide +kernel
theorem dX3_climb_42 : decode cX3_climb 42 = .ok (.aload_n 0, 1) := by decide +kernel
theorem dX3_climb_43 : decode cX3_climb 43 = .ok (.iconst 0, 1) := by decide +kernel
theorem dX3_climb_44 : decode cX3_climb 44 = .ok (.putfield 45, 3) := by decide +kernel
theorem dX3_climb_47 : decode cX3_climb 47 = .ok (.return_, 1) := by decide +kernel
set_option maxRecDepth 20000 in
theorem ggX3_weigh_X3_searchAgain : GoodIn wsX3_weigh wsX3_searchAgain := goodIn_r _ [11, 12, 2, 13, 14, 15, 16, 17, 18, 19, 20, 21, 22, 23, 24, 25, 26, 27, 28, 29, 30, 31, 32, 33, 34, 35, 36, 37, 38, 39, 40, 41, 42, 43, 44, 45, 46, 47, 48, 49, 50] (by decide +kernel) (by decide +kernel)
set_option maxRecDepth 20000 in
theorem gX3_weigh_X3_searchAgain : GoodIn wsX3_weigh (wsV RX3 79 RX3 yX3_searchAgain wsX3_searchAgain) := goodIn_app (goodIn_of _ (by decide +kernel)) ggX3_weigh_X3_searchAgain
theorem dX3_weigh_0 : decode cX3_weigh 0 = .ok (.iload_n 1, 1) := by decide +kernel
theorem dX3_weigh_1 : decode cX3_weigh 1 = .ok (.ifCond .eq 30, 3) := by decide +kernel
theorem dX3_weigh_4 : decode cX3_weigh 4 = .ok (.aload_n 0, 1) := by decide +kernel
theorem dX3_weigh_5 : decode cX3_weigh 5 = .ok (.iconst 0, 1) := by decide +kernel
theorem dX3_weigh_6 : decode cX3_weigh 6 = .ok (.putfield 45, 3) := by decide +kernel
theorem dX3_weigh_9 : decode cX3_weigh 9 = .ok (.aload_n 0, 1) := by decide +kernel
theorem dX3_weigh_10 : decode cX3_weigh 10 = .ok (.dup, 1) := by decide +kernel
theorem dX3_weigh_11 : decode cX3_weigh 11 = .ok (.getfield 42, 3) := by decide +kernel
theorem dX3_weigh_14 : decode cX3_weigh 14 = .ok (.iconst 1, 1) := by decide +kernel
theorem dX3_weigh_15 : decode cX3_weigh 15 = .ok (.isub, 1) := by decide +kernel
theorem dX3_weigh_16 : decode cX3_weigh 16 = .ok (.putfield 42, 3) := by decide +kernel
theorem dX3_weigh_19 : decode cX3_weigh 19 = .ok (.aload_n 0, 1) := by decide +kernel
theorem dX3_weigh_20 : decode cX3_weigh 20 = .ok (.getfield 42, 3) := by decide +kernel
theorem dX3_weigh_23 : decode cX3_weigh 23 = .ok (.ifCond .ne 7, 3) := by decide +kernel
theorem dX3_weigh_26 : decode cX3_weigh 26 = .ok (.aload_n 0, 1) := by decide +kernel
theorem dX3_weigh_27 : decode cX3_weigh 27 = .ok (.invokevirtual 79, 3) := by decide +kernel
theorem dX3_weigh_30 : decode cX3_weigh 30 = .ok (.return_, 1) := by decide +kernel
theorem dX3_weigh_31 : decode cX3_weigh 31 = .ok (.aload_n 0, 1) := by decide +kernel
theorem dX3_weigh_32 : decode cX3_weigh 32 = .ok (.dup, 1) := by decide +kernel
theorem dX3_weigh_33 : decode cX3_weigh 33 = .ok (.getfield 45, 3) := by decide +kernel
theorem dX3_weigh_36 : decode cX3_weigh 36 = .ok (.iconst 1, 1) := by decide +kernel
theorem dX3_weigh_37 : decode cX3_weigh 37 = .ok (.iadd, 1) := by decide +kernel
theorem dX3_weigh_38 : decode cX3_weigh 38 = .ok (.putfield 45, 3) := by decide +kernel
theorem dX3_weigh_41 : decode cX3_weigh 41 = .ok (.aload_n 0, 1) := by decide +kernel
theorem dX3_weigh_42 : decode cX3_weigh 42 = .ok (.getfield 45, 3) := by decide +kernel
theorem dX3_weigh_45 : decode cX3_weigh 45 = .ok (.iconst 4, 1) := by decide +kernel
theorem dX3_weigh_46 : decode cX3_weigh 46 = .ok (.if_icmp .ne 22, 3) := by decide +kernel
theorem dX3_weigh_49 : decode cX3_weigh 49 = .ok (.aload_n 0, 1) := by decide +kernel
theorem dX3_weigh_50 : decode cX3_weigh 50 = .ok (.iconst 0, 1) := by decide +kernel
theorem dX3_weigh_51 : decode cX3_weigh 51 = .ok (.putfield 45, 3) := by decide +kernel
theorem dX3_weigh_54 : decode cX3_weigh 54 = .ok (.aload_n 0, 1) := by decide +kernel
theorem dX3_weigh_55 : decode cX3_weigh 55 = .ok (.aload_n 0, 1) := by decide +kernel
theorem dX3_weigh_56 : decode cX3_weigh 56 = .ok (.getfield 42, 3) := by decide +kernel
theorem dX3_weigh_59 : decode cX3_weigh 59 = .ok (.iconst 1, 1) := by decide +kernel
theorem dX3_weigh_60 : decode cX3_weigh 60 = .ok (.iadd, 1) := by decide +kernel
theorem dX3_weigh_61 : decode cX3_weigh 61 = .ok (.iconst 4, 1) := by decide +kernel
theorem dX3_weigh_62 : decode cX3_weigh 62 = .ok (.invokestatic 103, 3) := by decide +kernel
theorem dX3_weigh_65 : decode cX3_weigh 65 = .ok (.putfield 42, 3) := by decide +kernel
theorem dX3_weigh_68 : decode cX3_weigh 68 = .ok (.return_, 1) := by decide +kernel
set_option maxRecDepth 20000 in
theorem ggX3_searchAgain_X1_lose : GoodIn wsX3_searchAgain wsX1_lose := goodIn_r _ [9, 10, 11, 12, 13, 8, 14, 15, 16, 17, 18, 19, 32, 33, 34, 35, 36, 37, 38, 39, 40] (by decide +kernel) (by decide +kernel)
set_option maxRecDepth 20000 in
theorem gX3_searchAgain_X1_lose : GoodIn wsX3_searchAgain (wsV RX3 108 RX1 yX1_lose wsX1_lose) := goodIn_app (goodIn_of _ (by decide +kernel)) ggX3_searchAgain_X1_lose
theorem dX3_searchAgain_0 : decode cX3_searchAgain 0 = .ok (.aload_n 0, 1) := by decide +kernel
theorem dX3_searchAgain_1 : decode cX3_searchAgain 1 = .ok (.iconst 0, 1) := by decide +kernel
theorem dX3_searchAgain_2 : decode cX3_searchAgain 2 = .ok (.putfield 39, 3) := by decide +kernel
theorem dX3_searchAgain_5 : decode cX3_searchAgain 5 = .ok (.aload_n 0, 1) := by decide +kernel
theorem dX3_searchAgain_6 : decode cX3_searchAgain 6 = .ok (.iconst 0, 1) := by decide +kernel
theorem dX3_searchAgain_7 : decode cX3_searchAgain 7 = .ok (.putfield 42, 3) := by decide +kernel
theorem dX3_searchAgain_10 : decode cX3_searchAgain 10 = .ok (.aload_n 0, 1) := by decide +kernel
theorem dX3_searchAgain_11 : decode cX3_searchAgain 11 = .ok (.dup, 1) := by decide +kernel
theorem dX3_searchAgain_12 : decode cX3_searchAgain 12 = .ok (.getfield 54, 3) := by decide +kernel
theorem dX3_searchAgain_15 : decode cX3_searchAgain 15 = .ok (.iconst 1, 1) := by decide +kernel
theorem dX3_searchAgain_16 : decode cX3_searchAgain 16 = .ok (.iadd, 1) := by decide +kernel
theorem dX3_searchAgain_17 : decode cX3_searchAgain 17 = .ok (.putfield 54, 3) := by decide +kernel
theorem dX3_searchAgain_20 : decode cX3_searchAgain 20 = .ok (.aload_n 0, 1) := by decide +kernel
theorem dX3_searchAgain_21 : decode cX3_searchAgain 21 = .ok (.getfield 21, 3) := by decide +kernel
theorem dX3_searchAgain_24 : decode cX3_searchAgain 24 = .ok (.invokevirtual 108, 3) := by decide +kernel
theorem dX3_searchAgain_27 : decode cX3_searchAgain 27 = .ok (.return_, 1) := by decide +kernel
theorem dX4_init_0 : decode cX4_init 0 = .ok (.aload_n 0, 1) := by decide +kernel
theorem dX4_init_1 : decode cX4_init 1 = .ok (.invokespecial 3, 3) := by decide +kernel
theorem dX4_init_4 : decode cX4_init 4 = .ok (.aload_n 0, 1) := by decide +kernel
theorem dX4_init_5 : decode cX4_init 5 = .ok (.sipush 400, 3) := by decide +kernel
theorem dX4_init_8 : decode cX4_init 8 = .ok (.newarray .int, 2) := by decide +kernel
theorem dX4_init_10 : decode cX4_init 10 = .ok (.putfield 11, 3) := by decide +kernel
theorem dX4_init_13 : decode cX4_init 13 = .ok (.aload_n 0, 1) := by decide +kernel
theorem dX4_init_14 : decode cX4_init 14 = .ok (.iconst 0, 1) := by decide +kernel
theorem dX4_init_15 : decode cX4_init 15 = .ok (.putfield 15, 3) := by decide +kernel
theorem dX4_init_18 : decode cX4_init 18 = .ok (.aload_n 0, 1) := by decide +kernel
theorem dX4_init_19 : decode cX4_init 19 = .ok (.iconst (-1), 1) := by decide +kernel
theorem dX4_init_20 : decode cX4_init 20 = .ok (.putfield 19, 3) := by decide +kernel
theorem dX4_init_23 : decode cX4_init 23 = .ok (.aload_n 0, 1) := by decide +kernel
theorem dX4_init_24 : decode cX4_init 24 = .ok (.iconst 0, 1) := by decide +kernel
theorem dX4_init_25 : decode cX4_init 25 = .ok (.putfield 22, 3) := by decide +kernel
theorem dX4_init_28 : decode cX4_init 28 = .ok (.return_, 1) := by decide +kernel
set_option maxRecDepth 20000 in
theorem ggX4_put_X0_groupOf : GoodIn wsX4_put wsX0_groupOf := goodIn_r _ [6, 7, 8, 5, 9, 10, 11, 12, 13, 14, 15, 16, 17, 18, 19, 20, 21, 22, 23, 24, 25, 26, 27, 28] (by decide +kernel) (by decide +kernel)
set_option maxRecDepth 20000 in
theorem gX4_put_X0_groupOf : GoodIn wsX4_put (va_wsS RX4 25 yX0_groupOf wsX0_groupOf) := goodIn_app (goodIn_of _ (by decide +kernel)) ggX4_put_X0_groupOf
set_option maxRecDepth 20000 in
theorem ggX4_put_X2_append : GoodIn wsX4_put wsX2_append := goodIn_r _ [33, 34, 35, 46, 47] (by decide +kernel) (by decide +kernel)
set_option maxRecDepth 20000 in
theorem gX4_put_X2_append : GoodIn wsX4_put (wsV RX4 31 RX2 yX2_append wsX2_append) := goodIn_app (goodIn_of _ (by decide +kernel)) ggX4_put_X2_append
set_option maxRecDepth 20000 in
theorem ggX4_put_X0_behindGroup : GoodIn wsX4_put wsX0_behindGroup := goodIn_r _ [38, 12, 13, 5, 14, 15, 16, 17, 18, 19, 20, 21, 39, 40, 41] (by decide +kernel) (by decide +kernel)
set_option maxRecDepth 20000 in
theorem gX4_put_X0_behindGroup : GoodIn wsX4_put (va_wsS RX4 37 yX0_behindGroup wsX0_behindGroup) := goodIn_app (goodIn_of _ (by decide +kernel)) ggX4_put_X0_behindGroup
theorem dX4_put_0 : decode cX4_put 0 = .ok (.iload_n 1, 1) := by decide +kernel
theorem dX4_put_1 : decode cX4_put 1 = .ok (.iload_n 2, 1) := by decide +kernel
theorem dX4_put_2 : decode cX4_put 2 = .ok (.aload_n 0, 1) := by decide +kernel
theorem dX4_put_3 : decode cX4_put 3 = .ok (.getfield 19, 3) := by decide +kernel
theorem dX4_put_6 : decode cX4_put 6 = .ok (.invokestatic 25, 3) := by decide +kernel
theorem dX4_put_9 : decode cX4_put 9 = .ok (.istore 4, 2) := by decide +kernel
theorem dX4_put_11 : decode cX4_put 11 = .ok (.bipush 9, 2) := by decide +kernel
theorem dX4_put_13 : decode cX4_put 13 = .ok (.istore 5, 2) := by decide +kernel
theorem dX4_put_15 : decode cX4_put 15 = .ok (.iload 5, 2) := by decide +kernel
theorem dX4_put_17 : decode cX4_put 17 = .ok (.ifCond .lt 21, 3) := by decide +kernel
theorem dX4_put_20 : decode cX4_put 20 = .ok (.aload_n 3, 1) := by decide +kernel
theorem dX4_put_21 : decode cX4_put 21 = .ok (.iload 4, 2) := by decide +kernel
theorem dX4_put_23 : decode cX4_put 23 = .ok (.iload 5, 2) := by decide +kernel
theorem dX4_put_25 : decode cX4_put 25 = .ok (.ishr, 1) := by decide +kernel
theorem dX4_put_26 : decode cX4_put 26 = .ok (.iconst 1, 1) := by decide +kernel
theorem dX4_put_27 : decode cX4_put 27 = .ok (.iand, 1) := by decide +kernel
theorem dX4_put_28 : decode cX4_put 28 = .ok (.invokevirtual 31, 3) := by decide +kernel
theorem dX4_put_31 : decode cX4_put 31 = .ok (.pop, 1) := by decide +kernel
theorem dX4_put_32 : decode cX4_put 32 = .ok (.iinc 5 (-1), 3) := by decide +kernel
theorem dX4_put_35 : decode cX4_put 35 = .ok (.goto (-20), 3) := by decide +kernel
theorem dX4_put_38 : decode cX4_put 38 = .ok (.aload_n 0, 1) := by decide +kernel
theorem dX4_put_39 : decode cX4_put 39 = .ok (.iload 4, 2) := by decide +kernel
theorem dX4_put_41 : decode cX4_put 41 = .ok (.aload_n 0, 1) := by decide +kernel
theorem dX4_put_42 : decode cX4_put 42 = .ok (.getfield 19, 3) := by decide +kernel
theorem dX4_put_45 : decode cX4_put 45 = .ok (.invokestatic 37, 3) := by decide +kernel
theorem dX4_put_48 : decode cX4_put 48 = .ok (.putfield 19, 3) := by decide +kernel
theorem dX4_put_51 : decode cX4_put 51 = .ok (.aload_n 0, 1) := by decide +kernel
theorem dX4_put_52 : decode cX4_put 52 = .ok (.dup, 1) := by decide +kernel
theorem dX4_put_53 : decode cX4_put 53 = .ok (.getfield 22, 3) := by decide +kernel
theorem dX4_put_56 : decode cX4_put 56 = .ok (.iconst 1, 1) := by decide +kernel
theorem dX4_put_57 : decode cX4_put 57 = .ok (.iadd, 1) := by decide +kernel
theorem dX4_put_58 : decode cX4_put 58 = .ok (.putfield 22, 3) := by decide +kernel
theorem dX4_put_61 : decode cX4_put 61 = .ok (.iload 4, 2) := by decide +kernel
theorem dX4_put_63 : decode cX4_put 63 = .ok (.ireturn, 1) := by decide +kernel
set_option maxRecDepth 20000 in
theorem ggX4_putIdle_X2_hasRoomFor : GoodIn wsX4_putIdle wsX2_hasRoomFor := goodIn_r _ [6, 7, 55, 56] (by decide +kernel) (by decide +kernel)
set_option maxRecDepth 20000 in
theorem gX4_putIdle_X2_hasRoomFor : GoodIn wsX4_putIdle (wsV RX4 41 RX2 yX2_hasRoomFor wsX2_hasRoomFor) := goodIn_app (goodIn_of _ (by decide +kernel)) ggX4_putIdle_X2_hasRoomFor
set_option maxRecDepth 20000 in
theorem ggX4_putIdle_X4_put : GoodIn wsX4_putIdle wsX4_put := goodIn_r _ [12, 1, 13, 14, 15, 16, 17, 18, 19, 20, 21, 22, 23, 24, 25, 26, 27, 28, 29, 30, 31, 32, 33, 34, 35, 36, 37, 38, 39, 40, 41, 42, 5, 43, 7, 44, 45, 46, 47, 48, 49, 50, 51, 52, 53, 54, 55, 56] (by decide +kernel) (by decide +kernel)
set_option maxRecDepth 20000 in
theorem gX4_putIdle_X4_put : GoodIn wsX4_putIdle (wsV RX4 44 RX4 yX4_put wsX4_put) := goodIn_app (goodIn_of _ (by decide +kernel)) ggX4_putIdle_X4_put
theorem dX4_putIdle_0 : decode cX4_putIdle 0 = .ok (.aload_n 1, 1) := by decide +kernel
theorem dX4_putIdle_1 : decode cX4_putIdle 1 = .ok (.bipush 20, 2) := by decide +kernel
theorem dX4_putIdle_3 : decode cX4_putIdle 3 = .ok (.invokevirtual 41, 3) := by decide +kernel
theorem dX4_putIdle_6 : decode cX4_putIdle 6 = .ok (.ifCond .ne 5, 3) := by decide +kernel
theorem dX4_putIdle_9 : decode cX4_putIdle 9 = .ok (.iconst 0, 1) := by decide +kernel
theorem dX4_putIdle_10 : decode cX4_putIdle 10 = .ok (.ireturn, 1) := by decide +kernel
theorem dX4_putIdle_11 : decode cX4_putIdle 11 = .ok (.aload_n 0, 1) := by decide +kernel
theorem dX4_putIdle_12 : decode cX4_putIdle 12 = .ok (.getfield 19, 3) := by decide +kernel
theorem dX4_putIdle_15 : decode cX4_putIdle 15 = .ok (.ifCond .le 9, 3) := by decide +kernel
theorem dX4_putIdle_18 : decode cX4_putIdle 18 = .ok (.sipush 197, 3) := by decide +kernel
theorem dX4_putIdle_21 : decode cX4_putIdle 21 = .ok (.goto 5, 3) := by decide +kernel
theorem dX4_putIdle_24 : decode cX4_putIdle 24 = .ok (.bipush 80, 2) := by decide +kernel
theorem dX4_putIdle_26 : decode cX4_putIdle 26 = .ok (.istore_n 2, 1) := by decide +kernel
theorem dX4_putIdle_27 : decode cX4_putIdle 27 = .ok (.aload_n 0, 1) := by decide +kernel
theorem dX4_putIdle_28 : decode cX4_putIdle 28 = .ok (.sipush 188, 3) := by decide +kernel
theorem dX4_putIdle_31 : decode cX4_putIdle 31 = .ok (.iconst 1, 1) := by decide +kernel
theorem dX4_putIdle_32 : decode cX4_putIdle 32 = .ok (.aload_n 1, 1) := by decide +kernel
theorem dX4_putIdle_33 : decode cX4_putIdle 33 = .ok (.invokevirtual 44, 3) := by decide +kernel
theorem dX4_putIdle_36 : decode cX4_putIdle 36 = .ok (.pop, 1) := by decide +kernel
theorem dX4_putIdle_37 : decode cX4_putIdle 37 = .ok (.aload_n 0, 1) := by decide +kernel
theorem dX4_putIdle_38 : decode cX4_putIdle 38 = .ok (.iload_n 2, 1) := by decide +kernel
theorem dX4_putIdle_39 : decode cX4_putIdle 39 = .ok (.iconst 0, 1) := by decide +kernel
theorem dX4_putIdle_40 : decode cX4_putIdle 40 = .ok (.aload_n 1, 1) := by decide +kernel
theorem dX4_putIdle_41 : decode cX4_putIdle 41 = .ok (.invokevirtual 44, 3) := by decide +kernel
theorem dX4_putIdle_44 : decode cX4_putIdle 44 = .ok (.pop, 1) := by decide +kernel
theorem dX4_putIdle_45 : decode cX4_putIdle 45 = .ok (.iconst 1, 1) := by decide +kernel
theorem dX4_putIdle_46 : decode cX4_putIdle 46 = .ok (.ireturn, 1) := by decide +kernel
theorem dX4_keepOnTape_0 : decode cX4_keepOnTape 0 = .ok (.iload_n 1, 1) := by decide +kernel
theorem dX4_keepOnTape_1 : decode cX4_keepOnTape 1 = .ok (.ifCond .lt 27, 3) := by decide +kernel
theorem dX4_keepOnTape_4 : decode cX4_keepOnTape 4 = .ok (.iload_n 1, 1) := by decide +kernel
theorem dX4_keepOnTape_5 : decode cX4_keepOnTape 5 = .ok (.sipush 255, 3) := by decide +kernel
theorem dX4_keepOnTape_8 : decode cX4_keepOnTape 8 = .ok (.if_icmp .gt 20, 3) := by decide +kernel
theorem dX4_keepOnTape_11 : decode cX4_keepOnTape 11 = .ok (.aload_n 0, 1) := by decide +kernel
theorem dX4_keepOnTape_12 : decode cX4_keepOnTape 12 = .ok (.getfield 15, 3) := by decide +kernel
theorem dX4_keepOnTape_15 : decode cX4_keepOnTape 15 = .ok (.ifCond .lt 13, 3) := by decide +kernel
theorem dX4_keepOnTape_18 : decode cX4_keepOnTape 18 = .ok (.aload_n 0, 1) := by decide +kernel
theorem dX4_keepOnTape_19 : decode cX4_keepOnTape 19 = .ok (.getfield 15, 3) := by decide +kernel
theorem dX4_keepOnTape_22 : decode cX4_keepOnTape 22 = .ok (.sipush 400, 3) := by decide +kernel
theorem dX4_keepOnTape_25 : decode cX4_keepOnTape 25 = .ok (.if_icmp .lt 5, 3) := by decide +kernel
theorem dX4_keepOnTape_28 : decode cX4_keepOnTape 28 = .ok (.iconst 0, 1) := by decide +kernel
theorem dX4_keepOnTape_29 : decode cX4_keepOnTape 29 = .ok (.ireturn, 1) := by decide +kernel
theorem dX4_keepOnTape_30 : decode cX4_keepOnTape 30 = .ok (.aload_n 0, 1) := by decide +kernel
theorem dX4_keepOnTape_31 : decode cX4_keepOnTape 31 = .ok (.getfield 11, 3) := by decide +kernel
theorem dX4_keepOnTape_34 : decode cX4_keepOnTape 34 = .ok (.aload_n 0, 1) := by decide +kernel
theorem dX4_keepOnTape_35 : decode cX4_keepOnTape 35 = .ok (.getfield 15, 3) := by decide +kernel
theorem dX4_keepOnTape_38 : decode cX4_keepOnTape 38 = .ok (.iload_n 1, 1) := by decide +kernel
theorem dX4_keepOnTape_39 : decode cX4_keepOnTape 39 = .ok (.iastore, 1) := by decide +kernel
theorem dX4_keepOnTape_40 : decode cX4_keepOnTape 40 = .ok (.aload_n 0, 1) := by decide +kernel
theorem dX4_keepOnTape_41 : decode cX4_keepOnTape 41 = .ok (.dup, 1) := by decide +kernel
theorem dX4_keepOnTape_42 : decode cX4_keepOnTape 42 = .ok (.getfield 15, 3) := by decide +kernel
theorem dX4_keepOnTape_45 : decode cX4_keepOnTape 45 = .ok (.iconst 1, 1) := by decide +kernel
theorem dX4_keepOnTape_46 : decode cX4_keepOnTape 46 = .ok (.iadd, 1) := by decide +kernel
theorem dX4_keepOnTape_47 : decode cX4_keepOnTape 47 = .ok (.putfield 15, 3) := by decide +kernel
theorem dX4_keepOnTape_50 : decode cX4_keepOnTape 50 = .ok (.iconst 1, 1) := by decide +kernel
theorem dX4_keepOnTape_51 : decode cX4_keepOnTape 51 = .ok (.ireturn, 1) := by decide +kernel
set_option maxRecDepth 20000 in
theorem ggX4_putFrame_X4_frameGroups : GoodIn wsX4_putFrame wsX4_frameGroups := goodIn_r _ [8, 1, 3, 57, 58, 59, 60] (by decide +kernel) (by decide +kernel)
set_option maxRecDepth 20000 in
theorem gX4_putFrame_X4_frameGroups : GoodIn wsX4_putFrame (wsV RX4 48 RX4 yX4_frameGroups wsX4_frameGroups) := goodIn_app (goodIn_of _ (by decide +kernel)) ggX4_putFrame_X4_frameGroups
set_option maxRecDepth 20000 in
theorem ggX4_putFrame_X2_hasRoomFor : GoodIn wsX4_putFrame wsX2_hasRoomFor := goodIn_r _ [13, 14, 61, 62] (by decide +kernel) (by decide +kernel)
set_option maxRecDepth 20000 in
theorem gX4_putFrame_X2_hasRoomFor : GoodIn wsX4_putFrame (wsV RX4 41 RX2 yX2_hasRoomFor wsX2_hasRoomFor) := goodIn_app (goodIn_of _ (by decide +kernel)) ggX4_putFrame_X2_hasRoomFor
set_option maxRecDepth 20000 in
theorem ggX4_putFrame_X4_put : GoodIn wsX4_putFrame wsX4_put := goodIn_r _ [18, 19, 3, 20, 21, 22, 23, 24, 25, 26, 27, 28, 29, 30, 31, 32, 33, 34, 35, 36, 37, 38, 39, 40, 41, 42, 43, 44, 45, 46, 47, 48, 12, 49, 14, 50, 51, 52, 53, 54, 55, 56, 57, 58, 59, 60, 61, 62] (by decide +kernel) (by decide +kernel)
set_option maxRecDepth 20000 in
theorem gX4_putFrame_X4_put : GoodIn wsX4_putFrame (wsV RX4 44 RX4 yX4_put wsX4_put) := goodIn_app (goodIn_of _ (by decide +kernel)) ggX4_putFrame_X4_put
theorem dX4_putFrame_0 : decode cX4_putFrame 0 = .ok (.aload_n 0, 1) := by decide +kernel
theorem dX4_putFrame_1 : decode cX4_putFrame 1 = .ok (.invokevirtual 48, 3) := by decide +kernel
theorem dX4_putFrame_4 : decode cX4_putFrame 4 = .ok (.istore_n 2, 1) := by decide +kernel
theorem dX4_putFrame_5 : decode cX4_putFrame 5 = .ok (.aload_n 1, 1) := by decide +kernel
theorem dX4_putFrame_6 : decode cX4_putFrame 6 = .ok (.iload_n 2, 1) := by decide +kernel
theorem dX4_putFrame_7 : decode cX4_putFrame 7 = .ok (.bipush 10, 2) := by decide +kernel
theorem dX4_putFrame_9 : decode cX4_putFrame 9 = .ok (.imul, 1) := by decide +kernel
theorem dX4_putFrame_10 : decode cX4_putFrame 10 = .ok (.invokevirtual 41, 3) := by decide +kernel
theorem dX4_putFrame_13 : decode cX4_putFrame 13 = .ok (.ifCond .ne 5, 3) := by decide +kernel
theorem dX4_putFrame_16 : decode cX4_putFrame 16 = .ok (.iconst (-1), 1) := by decide +kernel
theorem dX4_putFrame_17 : decode cX4_putFrame 17 = .ok (.ireturn, 1) := by decide +kernel
theorem dX4_putFrame_18 : decode cX4_putFrame 18 = .ok (.aload_n 0, 1) := by decide +kernel
theorem dX4_putFrame_19 : decode cX4_putFrame 19 = .ok (.sipush 251, 3) := by decide +kernel
theorem dX4_putFrame_22 : decode cX4_putFrame 22 = .ok (.iconst 1, 1) := by decide +kernel
theorem dX4_putFrame_23 : decode cX4_putFrame 23 = .ok (.aload_n 1, 1) := by decide +kernel
theorem dX4_putFrame_24 : decode cX4_putFrame 24 = .ok (.invokevirtual 44, 3) := by decide +kernel
theorem dX4_putFrame_27 : decode cX4_putFrame 27 = .ok (.pop, 1) := by decide +kernel
theorem dX4_putFrame_28 : decode cX4_putFrame 28 = .ok (.iconst 0, 1) := by decide +kernel
theorem dX4_putFrame_29 : decode cX4_putFrame 29 = .ok (.istore_n 3, 1) := by decide +kernel
theorem dX4_putFrame_30 : decode cX4_putFrame 30 = .ok (.iload_n 3, 1) := by decide +kernel
theorem dX4_putFrame_31 : decode cX4_putFrame 31 = .ok (.aload_n 0, 1) := by decide +kernel
theorem dX4_putFrame_32 : decode cX4_putFrame 32 = .ok (.getfield 15, 3) := by decide +kernel
theorem dX4_putFrame_35 : decode cX4_putFrame 35 = .ok (.if_icmp .ge 29, 3) := by decide +kernel
theorem dX4_putFrame_38 : decode cX4_putFrame 38 = .ok (.iload_n 3, 1) := by decide +kernel
theorem dX4_putFrame_39 : decode cX4_putFrame 39 = .ok (.sipush 400, 3) := by decide +kernel
theorem dX4_putFrame_42 : decode cX4_putFrame 42 = .ok (.if_icmp .ge 22, 3) := by decide +kernel
theorem dX4_putFrame_45 : decode cX4_putFrame 45 = .ok (.aload_n 0, 1) := by decide +kernel
theorem dX4_putFrame_46 : decode cX4_putFrame 46 = .ok (.aload_n 0, 1) := by decide +kernel
theorem dX4_putFrame_47 : decode cX4_putFrame 47 = .ok (.getfield 11, 3) := by decide +kernel
theorem dX4_putFrame_50 : decode cX4_putFrame 50 = .ok (.iload_n 3, 1) := by decide +kernel
theorem dX4_putFrame_51 : decode cX4_putFrame 51 = .ok (.iaload, 1) := by decide +kernel
theorem dX4_putFrame_52 : decode cX4_putFrame 52 = .ok (.iconst 0, 1) := by decide +kernel
theorem dX4_putFrame_53 : decode cX4_putFrame 53 = .ok (.aload_n 1, 1) := by decide +kernel
theorem dX4_putFrame_54 : decode cX4_putFrame 54 = .ok (.invokevirtual 44, 3) := by decide +kernel
theorem dX4_putFrame_57 : decode cX4_putFrame 57 = .ok (.pop, 1) := by decide +kernel
theorem dX4_putFrame_58 : decode cX4_putFrame 58 = .ok (.iinc 3 1, 3) := by decide +kernel
theorem dX4_putFrame_61 : decode cX4_putFrame 61 = .ok (.goto (-31), 3) := by decide +kernel
theorem dX4_putFrame_64 : decode cX4_putFrame 64 = .ok (.aload_n 0, 1) := by decide +kernel
theorem dX4_putFrame_65 : decode cX4_putFrame 65 = .ok (.sipush 253, 3) := by decide +kernel
theorem dX4_putFrame_68 : decode cX4_putFrame 68 = .ok (.iconst 1, 1) := by decide +kernel
theorem dX4_putFrame_69 : decode cX4_putFrame 69 = .ok (.aload_n 1, 1) := by decide +kernel
theorem dX4_putFrame_70 : decode cX4_putFrame 70 = .ok (.invokevirtual 44, 3) := by decide +kernel
theorem dX4_putFrame_73 : decode cX4_putFrame 73 = .ok (.pop, 1) := by decide +kernel
theorem dX4_putFrame_74 : decode cX4_putFrame 74 = .ok (.aload_n 0, 1) := by decide +kernel
theorem dX4_putFrame_75 : decode cX4_putFrame 75 = .ok (.sipush 247, 3) := by decide +kernel
theorem dX4_putFrame_78 : decode cX4_putFrame 78 = .ok (.iconst 1, 1) := by decide +kernel
theorem dX4_putFrame_79 : decode cX4_putFrame 79 = .ok (.aload_n 1, 1) := by decide +kernel
theorem dX4_putFrame_80 : decode cX4_putFrame 80 = .ok (.invokevirtual 44, 3) := by decide +kernel
theorem dX4_putFrame_83 : decode cX4_putFrame 83 = .ok (.pop, 1) := by decide +kernel
theorem dX4_putFrame_84 : decode cX4_putFrame 84 = .ok (.aload_n 0, 1) := by decide +kernel
theorem dX4_putFrame_85 : decode cX4_putFrame 85 = .ok (.getfield 22, 3) := by decide +kernel
theorem dX4_putFrame_88 : decode cX4_putFrame 88 = .ok (.iconst 1, 1) := by decide +kernel
theorem dX4_putFrame_89 : decode cX4_putFrame 89 = .ok (.iand, 1) := by decide +kernel
theorem dX4_putFrame_90 : decode cX4_putFrame 90 = .ok (.ifCond .eq 13, 3) := by decide +kernel
theorem dX4_putFrame_93 : decode cX4_putFrame 93 = .ok (.aload_n 0, 1) := by decide +kernel
theorem dX4_putFrame_94 : decode cX4_putFrame 94 = .ok (.sipush 247, 3) := by decide +kernel
theorem dX4_putFrame_97 : decode cX4_putFrame 97 = .ok (.iconst 1, 1) := by decide +kernel
theorem dX4_putFrame_98 : decode cX4_putFrame 98 = .ok (.aload_n 1, 1) := by decide +kernel
theorem dX4_putFrame_99 : decode cX4_putFrame 99 = .ok (.invokevirtual 44, 3) := by decide +kernel
theorem dX4_putFrame_102 : decode cX4_putFrame 102 = .ok (.pop, 1) := by decide +kernel
theorem dX4_putFrame_103 : decode cX4_putFrame 103 = .ok (.aload_n 0, 1) := by decide +kernel
theorem dX4_putFrame_104 : decode cX4_putFrame 104 = .ok (.iconst 0, 1) := by decide +kernel
theorem dX4_putFrame_105 : decode cX4_putFrame 105 = .ok (.putfield 15, 3) := by decide +kernel
theorem dX4_putFrame_108 : decode cX4_putFrame 108 = .ok (.iload_n 2, 1) := by decide +kernel
theorem dX4_putFrame_109 : decode cX4_putFrame 109 = .ok (.ireturn, 1) := by decide +kernel
theorem dX4_frameGroups_0 : decode cX4_frameGroups 0 = .ok (.aload_n 0, 1) := by decide +kernel
theorem dX4_frameGroups_1 : decode cX4_frameGroups 1 = .ok (.getfield 15, 3) := by decide +kernel
theorem dX4_frameGroups_4 : decode cX4_frameGroups 4 = .ok (.iconst 3, 1) := by decide +kernel
theorem dX4_frameGroups_5 : decode cX4_frameGroups 5 = .ok (.iadd, 1) := by decide +kernel
theorem dX4_frameGroups_6 : decode cX4_frameGroups 6 = .ok (.istore_n 1, 1) := by decide +kernel
theorem dX4_frameGroups_7 : decode cX4_frameGroups 7 = .ok (.iload_n 1, 1) := by decide +kernel
theorem dX4_frameGroups_8 : decode cX4_frameGroups 8 = .ok (.aload_n 0, 1) := by decide +kernel
theorem dX4_frameGroups_9 : decode cX4_frameGroups 9 = .ok (.getfield 22, 3) := by decide +kernel
theorem dX4_frameGroups_12 : decode cX4_frameGroups 12 = .ok (.iload_n 1, 1) := by decide +kernel
theorem dX4_frameGroups_13 : decode cX4_frameGroups 13 = .ok (.iadd, 1) := by decide +kernel
theorem dX4_frameGroups_14 : decode cX4_frameGroups 14 = .ok (.iconst 1, 1) := by decide +kernel
theorem dX4_frameGroups_15 : decode cX4_frameGroups 15 = .ok (.iand, 1) := by decide +kernel
theorem dX4_frameGroups_16 : decode cX4_frameGroups 16 = .ok (.iadd, 1) := by decide +kernel
theorem dX4_frameGroups_17 : decode cX4_frameGroups 17 = .ok (.ireturn, 1) := by decide +kernel
theorem dX5_init_0 : decode cX5_init 0 = .ok (.aload_n 0, 1) := by decide +kernel
theorem dX5_init_1 : decode cX5_init 1 = .ok (.invokespecial 3, 3) := by decide +kernel
theorem dX5_init_4 : decode cX5_init 4 = .ok (.aload_n 0, 1) := by decide +kernel
theorem dX5_init_5 : decode cX5_init 5 = .ok (.bipush 100, 2) := by decide +kernel
theorem dX5_init_7 : decode cX5_init 7 = .ok (.newarray .int, 2) := by decide +kernel
theorem dX5_init_9 : decode cX5_init 9 = .ok (.putfield 11, 3) := by decide +kernel
theorem dX5_init_12 : decode cX5_init 12 = .ok (.aload_n 0, 1) := by decide +kernel
theorem dX5_init_13 : decode cX5_init 13 = .ok (.iconst 0, 1) := by decide +kernel
theorem dX5_init_14 : decode cX5_init 14 = .ok (.putfield 15, 3) := by decide +kernel
theorem dX5_init_17 : decode cX5_init 17 = .ok (.aload_n 0, 1) := by decide +kernel
theorem dX5_init_18 : decode cX5_init 18 = .ok (.iconst 0, 1) := by decide +kernel
theorem dX5_init_19 : decode cX5_init 19 = .ok (.putfield 19, 3) := by decide +kernel
theorem dX5_init_22 : decode cX5_init 22 = .ok (.aload_n 0, 1) := by decide +kernel
theorem dX5_init_23 : decode cX5_init 23 = .ok (.iconst 0, 1) := by decide +kernel
theorem dX5_init_24 : decode cX5_init 24 = .ok (.putfield 22, 3) := by decide +kernel
theorem dX5_init_27 : decode cX5_init 27 = .ok (.return_, 1) := by decide +kernel
theorem dX5_keep_0 : decode cX5_keep 0 = .ok (.aload_n 0, 1) := by decide +kernel
theorem dX5_keep_1 : decode cX5_keep 1 = .ok (.getfield 15, 3) := by decide +kernel
theorem dX5_keep_4 : decode cX5_keep 4 = .ok (.ifCond .lt 12, 3) := by decide +kernel
theorem dX5_keep_7 : decode cX5_keep 7 = .ok (.aload_n 0, 1) := by decide +kernel
theorem dX5_keep_8 : decode cX5_keep 8 = .ok (.getfield 15, 3) := by decide +kernel
theorem dX5_keep_11 : decode cX5_keep 11 = .ok (.bipush 100, 2) := by decide +kernel
theorem dX5_keep_13 : decode cX5_keep 13 = .ok (.if_icmp .lt 4, 3) := by decide +kernel
theorem dX5_keep_16 : decode cX5_keep 16 = .ok (.return_, 1) := by decide +kernel
theorem dX5_keep_17 : decode cX5_keep 17 = .ok (.aload_n 0, 1) := by decide +kernel
theorem dX5_keep_18 : decode cX5_keep 18 = .ok (.getfield 11, 3) := by decide +kernel
theorem dX5_keep_21 : decode cX5_keep 21 = .ok (.aload_n 0, 1) := by decide +kernel
theorem dX5_keep_22 : decode cX5_keep 22 = .ok (.getfield 15, 3) := by decide +kernel
theorem dX5_keep_25 : decode cX5_keep 25 = .ok (.iload_n 1, 1) := by decide +kernel
theorem dX5_keep_26 : decode cX5_keep 26 = .ok (.iconst (-1), 1) := by decide +kernel
theorem dX5_keep_27 : decode cX5_keep 27 = .ok (.if_icmp .ne 9, 3) := by decide +kernel
theorem dX5_keep_30 : decode cX5_keep 30 = .ok (.sipush 512, 3) := by decide +kernel
theorem dX5_keep_33 : decode cX5_keep 33 = .ok (.goto 4, 3) := by decide +kernel
theorem dX5_keep_36 : decode cX5_keep 36 = .ok (.iload_n 1, 1) := by decide +kernel
theorem dX5_keep_37 : decode cX5_keep 37 = .ok (.iastore, 1) := by decide +kernel
theorem dX5_keep_38 : decode cX5_keep 38 = .ok (.aload_n 0, 1) := by decide +kernel
theorem dX5_keep_39 : decode cX5_keep 39 = .ok (.aload_n 0, 1) := by decide +kernel
theorem dX5_keep_40 : decode cX5_keep 40 = .ok (.getfield 15, 3) := by decide +kernel
theorem dX5_keep_43 : decode cX5_keep 43 = .ok (.iconst 1, 1) := by decide +kernel
theorem dX5_keep_44 : decode cX5_keep 44 = .ok (.iadd, 1) := by decide +kernel
theorem dX5_keep_45 : decode cX5_keep 45 = .ok (.bipush 100, 2) := by decide +kernel
theorem dX5_keep_47 : decode cX5_keep 47 = .ok (.irem, 1) := by decide +kernel
theorem dX5_keep_48 : decode cX5_keep 48 = .ok (.putfield 15, 3) := by decide +kernel
theorem dX5_keep_51 : decode cX5_keep 51 = .ok (.aload_n 0, 1) := by decide +kernel
theorem dX5_keep_52 : decode cX5_keep 52 = .ok (.aload_n 0, 1) := by decide +kernel
theorem dX5_keep_53 : decode cX5_keep 53 = .ok (.getfield 19, 3) := by decide +kernel
theorem dX5_keep_56 : decode cX5_keep 56 = .ok (.iconst 1, 1) := by decide +kernel
theorem dX5_keep_57 : decode cX5_keep 57 = .ok (.iadd, 1) := by decide +kernel
theorem dX5_keep_58 : decode cX5_keep 58 = .ok (.bipush 100, 2) := by decide +kernel
theorem dX5_keep_60 : decode cX5_keep 60 = .ok (.invokestatic 25, 3) := by decide +kernel
theorem dX5_keep_63 : decode cX5_keep 63 = .ok (.putfield 19, 3) := by decide +kernel
theorem dX5_keep_66 : decode cX5_keep 66 = .ok (.aload_n 0, 1) := by decide +kernel
theorem dX5_keep_67 : decode cX5_keep 67 = .ok (.dup, 1) := by decide +kernel
theorem dX5_keep_68 : decode cX5_keep 68 = .ok (.getfield 22, 3) := by decide +kernel
theorem dX5_keep_71 : decode cX5_keep 71 = .ok (.iconst 1, 1) := by decide +kernel
theorem dX5_keep_72 : decode cX5_keep 72 = .ok (.iadd, 1) := by decide +kernel
theorem dX5_keep_73 : decode cX5_keep 73 = .ok (.putfield 22, 3) := by decide +kernel
theorem dX5_keep_76 : decode cX5_keep 76 = .ok (.return_, 1) := by decide +kernel
theorem dX5_latest_0 : decode cX5_latest 0 = .ok (.iload_n 1, 1) := by decide +kernel
theorem dX5_latest_1 : decode cX5_latest 1 = .ok (.ifCond .lt 11, 3) := by decide +kernel
theorem dX5_latest_4 : decode cX5_latest 4 = .ok (.iload_n 1, 1) := by decide +kernel
theorem dX5_latest_5 : decode cX5_latest 5 = .ok (.aload_n 0, 1) := by decide +kernel
theorem dX5_latest_6 : decode cX5_latest 6 = .ok (.getfield 19, 3) := by decide +kernel
theorem dX5_latest_9 : decode cX5_latest 9 = .ok (.if_icmp .lt 5, 3) := by decide +kernel
theorem dX5_latest_12 : decode cX5_latest 12 = .ok (.iconst (-1), 1) := by decide +kernel
theorem dX5_latest_13 : decode cX5_latest 13 = .ok (.ireturn, 1) := by decide +kernel
theorem dX5_latest_14 : decode cX5_latest 14 = .ok (.aload_n 0, 1) := by decide +kernel
theorem dX5_latest_15 : decode cX5_latest 15 = .ok (.getfield 15, 3) := by decide +kernel
theorem dX5_latest_18 : decode cX5_latest 18 = .ok (.iconst 1, 1) := by decide +kernel
theorem dX5_latest_19 : decode cX5_latest 19 = .ok (.isub, 1) := by decide +kernel
theorem dX5_latest_20 : decode cX5_latest 20 = .ok (.iload_n 1, 1) := by decide +kernel
theorem dX5_latest_21 : decode cX5_latest 21 = .ok (.isub, 1) := by decide +kernel
theorem dX5_latest_22 : decode cX5_latest 22 = .ok (.istore_n 2, 1) := by decide +kernel
theorem dX5_latest_23 : decode cX5_latest 23 = .ok (.iload_n 2, 1) := by decide +kernel
theorem dX5_latest_24 : decode cX5_latest 24 = .ok (.ifCond .ge 6, 3) := by decide +kernel
theorem dX5_latest_27 : decode cX5_latest 27 = .ok (.iinc 2 100, 3) := by decide +kernel
theorem dX5_latest_30 : decode cX5_latest 30 = .ok (.iload_n 2, 1) := by decide +kernel
theorem dX5_latest_31 : decode cX5_latest 31 = .ok (.ifCond .lt 18, 3) := by decide +kernel
theorem dX5_latest_34 : decode cX5_latest 34 = .ok (.iload_n 2, 1) := by decide +kernel
theorem dX5_latest_35 : decode cX5_latest 35 = .ok (.bipush 100, 2) := by decide +kernel
theorem dX5_latest_37 : decode cX5_latest 37 = .ok (.if_icmp .ge 12, 3) := by decide +kernel
theorem dX5_latest_40 : decode cX5_latest 40 = .ok (.aload_n 0, 1) := by decide +kernel
theorem dX5_latest_41 : decode cX5_latest 41 = .ok (.getfield 11, 3) := by decide +kernel
theorem dX5_latest_44 : decode cX5_latest 44 = .ok (.iload_n 2, 1) := by decide +kernel
theorem dX5_latest_45 : decode cX5_latest 45 = .ok (.iaload, 1) := by decide +kernel
theorem dX5_latest_46 : decode cX5_latest 46 = .ok (.goto 4, 3) := by decide +kernel
theorem dX5_latest_49 : decode cX5_latest 49 = .ok (.iconst (-1), 1) := by decide +kernel
theorem dX5_latest_50 : decode cX5_latest 50 = .ok (.ireturn, 1) := by decide +kernel
set_option maxRecDepth 20000 in
theorem ggX6_init_X2_init : GoodIn wsX6_init wsX2_init := goodIn_r _ [17, 18, 2, 3, 19, 20, 21, 71, 72] (by decide +kernel) (by decide +kernel)
set_option maxRecDepth 20000 in
theorem gX6_init_X2_init_n9 : GoodIn wsX6_init (wsX2_init) := ggX6_init_X2_init
set_option maxRecDepth 20000 in
theorem ggX6_init_X4_init : GoodIn wsX6_init wsX4_init := goodIn_r _ [23, 24, 2, 3, 25, 26, 27, 28, 29, 76, 77, 78, 79] (by decide +kernel) (by decide +kernel)
set_option maxRecDepth 20000 in
theorem gX6_init_X4_init_n18 : GoodIn wsX6_init (wsX4_init) := ggX6_init_X4_init
set_option maxRecDepth 20000 in
theorem ggX6_init_X3_init : GoodIn wsX6_init wsX3_init := goodIn_r _ [31, 32, 2, 3, 33, 34, 35, 36, 37, 38, 39, 40, 41, 42, 43, 44, 45, 46, 47, 48, 49, 50, 51, 52, 53, 25, 54, 55, 56, 57, 58, 59, 60, 61, 62, 63, 64, 65, 66, 67, 68, 69, 70, 92, 93, 94, 95, 80, 81, 82, 83, 84, 85, 86, 87, 88, 89, 90, 91, 96, 97, 98, 99, 100, 101, 102, 103, 104] (by decide +kernel) (by decide +kernel)
set_option maxRecDepth 20000 in
theorem gX6_init_X3_init_n25 : GoodIn wsX6_init (wsX3_init) := ggX6_init_X3_init
theorem dX6_init_0 : decode cX6_init 0 = .ok (.aload_n 0, 1) := by decide +kernel
theorem dX6_init_1 : decode cX6_init 1 = .ok (.invokespecial 1, 3) := by decide +kernel
theorem dX6_init_4 : decode cX6_init 4 = .ok (.aload_n 0, 1) := by decide +kernel
theorem dX6_init_5 : decode cX6_init 5 = .ok (.new 7, 3) := by decide +kernel
theorem dX6_init_8 : decode cX6_init 8 = .ok (.dup, 1) := by decide +kernel
theorem dX6_init_9 : decode cX6_init 9 = .ok (.invokespecial 9, 3) := by decide +kernel
theorem dX6_init_12 : decode cX6_init 12 = .ok (.putfield 10, 3) := by decide +kernel
theorem dX6_init_15 : decode cX6_init 15 = .ok (.aload_n 0, 1) := by decide +kernel
theorem dX6_init_16 : decode cX6_init 16 = .ok (.new 16, 3) := by decide +kernel
theorem dX6_init_19 : decode cX6_init 19 = .ok (.dup, 1) := by decide +kernel
theorem dX6_init_20 : decode cX6_init 20 = .ok (.invokespecial 18, 3) := by decide +kernel
theorem dX6_init_23 : decode cX6_init 23 = .ok (.putfield 19, 3) := by decide +kernel
theorem dX6_init_26 : decode cX6_init 26 = .ok (.aload_n 0, 1) := by decide +kernel
theorem dX6_init_27 : decode cX6_init 27 = .ok (.new 23, 3) := by decide +kernel
theorem dX6_init_30 : decode cX6_init 30 = .ok (.dup, 1) := by decide +kernel
theorem dX6_init_31 : decode cX6_init 31 = .ok (.invokespecial 25, 3) := by decide +kernel
theorem dX6_init_34 : decode cX6_init 34 = .ok (.putfield 26, 3) := by decide +kernel
theorem dX6_init_37 : decode cX6_init 37 = .ok (.return_, 1) := by decide +kernel
set_option maxRecDepth 20000 in
theorem ggX6_send_X0_isSymbol : GoodIn wsX6_send wsX0_isSymbol := goodIn_r _ [6, 7, 8, 5, 9] (by decide +kernel) (by decide +kernel)
set_option maxRecDepth 20000 in
theorem gX6_send_X0_isSymbol : GoodIn wsX6_send (va_wsS RX6 30 yX0_isSymbol wsX0_isSymbol) := goodIn_app (goodIn_of _ (by decide +kernel)) ggX6_send_X0_isSymbol
set_option maxRecDepth 20000 in
theorem ggX6_send_X2_hasRoomFor : GoodIn wsX6_send wsX2_hasRoomFor := goodIn_r _ [14, 15, 62, 63] (by decide +kernel) (by decide +kernel)
set_option maxRecDepth 20000 in
theorem gX6_send_X2_hasRoomFor : GoodIn wsX6_send (wsV RX6 36 RX2 yX2_hasRoomFor wsX2_hasRoomFor) := goodIn_app (goodIn_of _ (by decide +kernel)) ggX6_send_X2_hasRoomFor
set_option maxRecDepth 20000 in
theorem ggX6_send_X4_put : GoodIn wsX6_send wsX4_put := goodIn_r _ [20, 21, 22, 23, 24, 5, 25, 26, 27, 28, 29, 30, 31, 32, 33, 34, 35, 36, 37, 38, 39, 40, 41, 42, 43, 44, 45, 46, 47, 48, 49, 50, 13, 51, 15, 52, 53, 54, 55, 56, 57, 58, 64, 65, 66, 67, 62, 63] (by decide +kernel) (by decide +kernel)
set_option maxRecDepth 20000 in
theorem gX6_send_X4_put : GoodIn wsX6_send (wsV RX6 40 RX4 yX4_put wsX4_put) := goodIn_app (goodIn_of _ (by decide +kernel)) ggX6_send_X4_put
theorem dX6_send_0 : decode cX6_send 0 = .ok (.iload_n 1, 1) := by decide +kernel
theorem dX6_send_1 : decode cX6_send 1 = .ok (.iload_n 2, 1) := by decide +kernel
theorem dX6_send_2 : decode cX6_send 2 = .ok (.invokestatic 30, 3) := by decide +kernel
theorem dX6_send_5 : decode cX6_send 5 = .ok (.ifCond .eq 15, 3) := by decide +kernel
theorem dX6_send_8 : decode cX6_send 8 = .ok (.aload_n 0, 1) := by decide +kernel
theorem dX6_send_9 : decode cX6_send 9 = .ok (.getfield 10, 3) := by decide +kernel
theorem dX6_send_12 : decode cX6_send 12 = .ok (.bipush 10, 2) := by decide +kernel
theorem dX6_send_14 : decode cX6_send 14 = .ok (.invokevirtual 36, 3) := by decide +kernel
theorem dX6_send_17 : decode cX6_send 17 = .ok (.ifCond .ne 5, 3) := by decide +kernel
theorem dX6_send_20 : decode cX6_send 20 = .ok (.iconst (-1), 1) := by decide +kernel
theorem dX6_send_21 : decode cX6_send 21 = .ok (.ireturn, 1) := by decide +kernel
theorem dX6_send_22 : decode cX6_send 22 = .ok (.aload_n 0, 1) := by decide +kernel
theorem dX6_send_23 : decode cX6_send 23 = .ok (.getfield 19, 3) := by decide +kernel
theorem dX6_send_26 : decode cX6_send 26 = .ok (.iload_n 1, 1) := by decide +kernel
theorem dX6_send_27 : decode cX6_send 27 = .ok (.iload_n 2, 1) := by decide +kernel
theorem dX6_send_28 : decode cX6_send 28 = .ok (.aload_n 0, 1) := by decide +kernel
theorem dX6_send_29 : decode cX6_send 29 = .ok (.getfield 10, 3) := by decide +kernel
theorem dX6_send_32 : decode cX6_send 32 = .ok (.invokevirtual 40, 3) := by decide +kernel
theorem dX6_send_35 : decode cX6_send 35 = .ok (.ireturn, 1) := by decide +kernel
set_option maxRecDepth 20000 in
theorem ggX6_idle_X4_putIdle : GoodIn wsX6_idle wsX4_putIdle := goodIn_r _ [7, 8, 9, 10, 11, 12, 13, 14, 15, 16, 17, 6, 18, 19, 20, 21, 22, 23, 24, 25, 26, 27, 28, 29, 30, 31, 32, 33, 34, 35, 36, 37, 38, 39, 40, 41, 42, 43, 44, 45, 46, 47, 48, 49, 50, 51, 52, 53, 54, 55, 56, 60, 61, 62, 63, 64, 65] (by decide +kernel) (by decide +kernel)
set_option maxRecDepth 20000 in
theorem gX6_idle_X4_putIdle : GoodIn wsX6_idle (wsV RX6 44 RX4 yX4_putIdle wsX4_putIdle) := goodIn_app (goodIn_of _ (by decide +kernel)) ggX6_idle_X4_putIdle
theorem dX6_idle_0 : decode cX6_idle 0 = .ok (.aload_n 0, 1) := by decide +kernel
theorem dX6_idle_1 : decode cX6_idle 1 = .ok (.getfield 19, 3) := by decide +kernel
theorem dX6_idle_4 : decode cX6_idle 4 = .ok (.aload_n 0, 1) := by decide +kernel
theorem dX6_idle_5 : decode cX6_idle 5 = .ok (.getfield 10, 3) := by decide +kernel
theorem dX6_idle_8 : decode cX6_idle 8 = .ok (.invokevirtual 44, 3) := by decide +kernel
theorem dX6_idle_11 : decode cX6_idle 11 = .ok (.ireturn, 1) := by decide +kernel
set_option maxRecDepth 20000 in
theorem ggX6_feed_X4_keepOnTape : GoodIn wsX6_feed wsX4_keepOnTape := goodIn_r _ [6, 7, 8, 12, 13, 14, 15] (by decide +kernel) (by decide +kernel)
set_option maxRecDepth 20000 in
theorem gX6_feed_X4_keepOnTape : GoodIn wsX6_feed (wsV RX6 48 RX4 yX4_keepOnTape wsX4_keepOnTape) := goodIn_app (goodIn_of _ (by decide +kernel)) ggX6_feed_X4_keepOnTape
theorem dX6_feed_0 : decode cX6_feed 0 = .ok (.aload_n 0, 1) := by decide +kernel
theorem dX6_feed_1 : decode cX6_feed 1 = .ok (.getfield 19, 3) := by decide +kernel
theorem dX6_feed_4 : decode cX6_feed 4 = .ok (.iload_n 1, 1) := by decide +kernel
theorem dX6_feed_5 : decode cX6_feed 5 = .ok (.invokevirtual 48, 3) := by decide +kernel
theorem dX6_feed_8 : decode cX6_feed 8 = .ok (.ireturn, 1) := by decide +kernel
set_option maxRecDepth 20000 in
theorem ggX6_frame_X4_putFrame : GoodIn wsX6_frame wsX4_putFrame := goodIn_r _ [7, 8, 9, 10, 11, 12, 13, 6, 14, 15, 16, 17, 18, 19, 20, 21, 22, 23, 24, 25, 26, 27, 28, 29, 30, 31, 32, 33, 34, 35, 36, 37, 38, 39, 40, 41, 42, 43, 44, 45, 46, 47, 48, 49, 50, 51, 52, 53, 54, 55, 56, 57, 58, 59, 60, 61, 62, 66, 67, 68, 69, 70, 71] (by decide +kernel) (by decide +kernel)
set_option maxRecDepth 20000 in
theorem gX6_frame_X4_putFrame : GoodIn wsX6_frame (wsV RX6 51 RX4 yX4_putFrame wsX4_putFrame) := goodIn_app (goodIn_of _ (by decide +kernel)) ggX6_frame_X4_putFrame
theorem dX6_frame_0 : decode cX6_frame 0 = .ok (.aload_n 0, 1) := by decide +kernel
theorem dX6_frame_1 : decode cX6_frame 1 = .ok (.getfield 19, 3) := by decide +kernel
theorem dX6_frame_4 : decode cX6_frame 4 = .ok (.aload_n 0, 1) := by decide +kernel
theorem dX6_frame_5 : decode cX6_frame 5 = .ok (.getfield 10, 3) := by decide +kernel
theorem dX6_frame_8 : decode cX6_frame 8 = .ok (.invokevirtual 51, 3) := by decide +kernel
theorem dX6_frame_11 : decode cX6_frame 11 = .ok (.ireturn, 1) := by decide +kernel
set_option maxRecDepth 20000 in
theorem ggX6_bit_X2_append : GoodIn wsX6_bit wsX2_append := goodIn_r _ [6, 7, 8, 12, 13] (by decide +kernel) (by decide +kernel)
set_option maxRecDepth 20000 in
theorem gX6_bit_X2_append : GoodIn wsX6_bit (wsV RX6 55 RX2 yX2_append wsX2_append) := goodIn_app (goodIn_of _ (by decide +kernel)) ggX6_bit_X2_append
theorem dX6_bit_0 : decode cX6_bit 0 = .ok (.iload_n 1, 1) := by decide +kernel
theorem dX6_bit_1 : decode cX6_bit 1 = .ok (.ifCond .eq 8, 3) := by decide +kernel
theorem dX6_bit_4 : decode cX6_bit 4 = .ok (.iload_n 1, 1) := by decide +kernel
theorem dX6_bit_5 : decode cX6_bit 5 = .ok (.iconst 1, 1) := by decide +kernel
theorem dX6_bit_6 : decode cX6_bit 6 = .ok (.if_icmp .ne 18, 3) := by decide +kernel
theorem dX6_bit_9 : decode cX6_bit 9 = .ok (.aload_n 0, 1) := by decide +kernel
theorem dX6_bit_10 : decode cX6_bit 10 = .ok (.getfield 10, 3) := by decide +kernel
theorem dX6_bit_13 : decode cX6_bit 13 = .ok (.iload_n 1, 1) := by decide +kernel
theorem dX6_bit_14 : decode cX6_bit 14 = .ok (.invokevirtual 55, 3) := by decide +kernel
theorem dX6_bit_17 : decode cX6_bit 17 = .ok (.ifCond .eq 7, 3) := by decide +kernel
theorem dX6_bit_20 : decode cX6_bit 20 = .ok (.iconst 1, 1) := by decide +kernel
theorem dX6_bit_21 : decode cX6_bit 21 = .ok (.goto 4, 3) := by decide +kernel
theorem dX6_bit_24 : decode cX6_bit 24 = .ok (.iconst 0, 1) := by decide +kernel
theorem dX6_bit_25 : decode cX6_bit 25 = .ok (.ireturn, 1) := by decide +kernel
set_option maxRecDepth 20000 in
theorem ggX6_turn_X2_flip : GoodIn wsX6_turn wsX2_flip := goodIn_r _ [6, 7, 8, 9, 10, 5, 11, 12, 16, 17] (by decide +kernel) (by decide +kernel)
set_option maxRecDepth 20000 in
theorem gX6_turn_X2_flip : GoodIn wsX6_turn (wsV RX6 58 RX2 yX2_flip wsX2_flip) := goodIn_app (goodIn_of _ (by decide +kernel)) ggX6_turn_X2_flip
theorem dX6_turn_0 : decode cX6_turn 0 = .ok (.aload_n 0, 1) := by decide +kernel
theorem dX6_turn_1 : decode cX6_turn 1 = .ok (.getfield 10, 3) := by decide +kernel
theorem dX6_turn_4 : decode cX6_turn 4 = .ok (.iload_n 1, 1) := by decide +kernel
theorem dX6_turn_5 : decode cX6_turn 5 = .ok (.invokevirtual 58, 3) := by decide +kernel
theorem dX6_turn_8 : decode cX6_turn 8 = .ok (.ireturn, 1) := by decide +kernel
set_option maxRecDepth 20000 in
theorem ggX6_drop_X2_leaveOut : GoodIn wsX6_drop wsX2_leaveOut := goodIn_r _ [6, 7, 8, 9, 10, 11, 12, 13, 14, 15, 5, 16, 20, 21] (by decide +kernel) (by decide +kernel)
set_option maxRecDepth 20000 in
theorem gX6_drop_X2_leaveOut : GoodIn wsX6_drop (wsV RX6 61 RX2 yX2_leaveOut wsX2_leaveOut) := goodIn_app (goodIn_of _ (by decide +kernel)) ggX6_drop_X2_leaveOut
theorem dX6_drop_0 : decode cX6_drop 0 = .ok (.aload_n 0, 1) := by decide +kernel
theorem dX6_drop_1 : decode cX6_drop 1 = .ok (.getfield 10, 3) := by decide +kernel
theorem dX6_drop_4 : decode cX6_drop 4 = .ok (.iload_n 1, 1) := by decide +kernel
theorem dX6_drop_5 : decode cX6_drop 5 = .ok (.invokevirtual 61, 3) := by decide +kernel
theorem dX6_drop_8 : decode cX6_drop 8 = .ok (.ireturn, 1) := by decide +kernel
set_option maxRecDepth 20000 in
theorem ggX6_line_X2_get : GoodIn wsX6_line wsX2_get := goodIn_r _ [6, 7, 8, 9, 10, 5, 11, 12, 16, 17] (by decide +kernel) (by decide +kernel)
set_option maxRecDepth 20000 in
theorem gX6_line_X2_get : GoodIn wsX6_line (wsV RX6 64 RX2 yX2_get wsX2_get) := goodIn_app (goodIn_of _ (by decide +kernel)) ggX6_line_X2_get
theorem dX6_line_0 : decode cX6_line 0 = .ok (.aload_n 0, 1) := by decide +kernel
theorem dX6_line_1 : decode cX6_line 1 = .ok (.getfield 10, 3) := by decide +kernel
theorem dX6_line_4 : decode cX6_line 4 = .ok (.iload_n 1, 1) := by decide +kernel
theorem dX6_line_5 : decode cX6_line 5 = .ok (.invokevirtual 64, 3) := by decide +kernel
theorem dX6_line_8 : decode cX6_line 8 = .ok (.ireturn, 1) := by decide +kernel
theorem dX6_size_0 : decode cX6_size 0 = .ok (.aload_n 0, 1) := by decide +kernel
theorem dX6_size_1 : decode cX6_size 1 = .ok (.getfield 10, 3) := by decide +kernel
theorem dX6_size_4 : decode cX6_size 4 = .ok (.getfield 68, 3) := by decide +kernel
theorem dX6_size_7 : decode cX6_size 7 = .ok (.ireturn, 1) := by decide +kernel
theorem dX6_disparity_0 : decode cX6_disparity 0 = .ok (.iload_n 1, 1) := by decide +kernel
theorem dX6_disparity_1 : decode cX6_disparity 1 = .ok (.lookupswitch 43 #[(0, 27), (1, 35)], 27) := by decide +kernel
theorem dX6_disparity_28 : decode cX6_disparity 28 = .ok (.aload_n 0, 1) := by decide +kernel
theorem dX6_disparity_29 : decode cX6_disparity 29 = .ok (.getfield 19, 3) := by decide +kernel
theorem dX6_disparity_32 : decode cX6_disparity 32 = .ok (.getfield 72, 3) := by decide +kernel
theorem dX6_disparity_35 : decode cX6_disparity 35 = .ok (.ireturn, 1) := by decide +kernel
theorem dX6_disparity_36 : decode cX6_disparity 36 = .ok (.aload_n 0, 1) := by decide +kernel
theorem dX6_disparity_37 : decode cX6_disparity 37 = .ok (.getfield 26, 3) := by decide +kernel
theorem dX6_disparity_40 : decode cX6_disparity 40 = .ok (.getfield 75, 3) := by decide +kernel
theorem dX6_disparity_43 : decode cX6_disparity 43 = .ok (.ireturn, 1) := by decide +kernel
theorem dX6_disparity_44 : decode cX6_disparity 44 = .ok (.iconst 0, 1) := by decide +kernel
theorem dX6_disparity_45 : decode cX6_disparity 45 = .ok (.ireturn, 1) := by decide +kernel
set_option maxRecDepth 20000 in
theorem ggX6_take_X2_get : GoodIn wsX6_take wsX2_get := goodIn_r _ [11, 12, 13, 14, 15, 10, 16, 17, 163, 164] (by decide +kernel) (by decide +kernel)
set_option maxRecDepth 20000 in
theorem gX6_take_X2_get : GoodIn wsX6_take (wsV RX6 64 RX2 yX2_get wsX2_get) := goodIn_app (goodIn_of _ (by decide +kernel)) ggX6_take_X2_get
set_option maxRecDepth 20000 in
theorem ggX6_take_X3_accept : GoodIn wsX6_take wsX3_accept := goodIn_r _ [22, 23, 24, 25, 26, 27, 28, 29, 30, 31, 32, 33, 21, 34, 35, 36, 37, 38, 39, 40, 41, 42, 43, 44, 45, 46, 47, 48, 49, 50, 51, 52, 53, 54, 55, 56, 57, 58, 59, 60, 61, 62, 63, 64, 65, 66, 67, 68, 69, 70, 71, 72, 73, 74, 75, 76, 77, 78, 79, 80, 81, 82, 83, 84, 85, 86, 87, 88, 89, 90, 91, 92, 93, 94, 95, 96, 97, 98, 99, 100, 101, 102, 103, 104, 105, 106, 107, 108, 109, 110, 111, 112, 113, 114, 115, 116, 117, 118, 3, 4, 5, 119, 120, 121, 122, 123, 124, 125, 126, 127, 128, 129, 130, 131, 132, 133, 134, 135, 136, 137, 138, 139, 140, 141, 142, 143, 144, 145, 146, 147, 148, 149, 150, 151, 165, 166, 167, 168, 169, 170, 171, 172, 173, 174, 175, 176, 177, 178, 179, 180, 181, 182, 183, 184, 185, 186, 187, 188, 189] (by decide +kernel) (by decide +kernel)
set_option maxRecDepth 20000 in
theorem gX6_take_X3_accept : GoodIn wsX6_take (wsV RX6 82 RX3 yX3_accept wsX3_accept) := goodIn_app (goodIn_of _ (by decide +kernel)) ggX6_take_X3_accept
set_option maxRecDepth 20000 in
theorem ggX6_take_X2_cutFront : GoodIn wsX6_take wsX2_cutFront := goodIn_r _ [155, 17, 12, 156, 157, 158, 159, 163, 164] (by decide +kernel) (by decide +kernel)
set_option maxRecDepth 20000 in
theorem gX6_take_X2_cutFront : GoodIn wsX6_take (wsV RX6 86 RX2 yX2_cutFront wsX2_cutFront) := goodIn_app (goodIn_of _ (by decide +kernel)) ggX6_take_X2_cutFront
theorem dX6_take_0 : decode cX6_take 0 = .ok (.iload_n 1, 1) := by decide +kernel
theorem dX6_take_1 : decode cX6_take 1 = .ok (.ifCond .lt 10, 3) := by decide +kernel
theorem dX6_take_4 : decode cX6_take 4 = .ok (.iload_n 1, 1) := by decide +kernel
theorem dX6_take_5 : decode cX6_take 5 = .ok (.sipush 8000, 3) := by decide +kernel
theorem dX6_take_8 : decode cX6_take 8 = .ok (.if_icmp .le 5, 3) := by decide +kernel
theorem dX6_take_11 : decode cX6_take 11 = .ok (.iconst (-1), 1) := by decide +kernel
theorem dX6_take_12 : decode cX6_take 12 = .ok (.ireturn, 1) := by decide +kernel
theorem dX6_take_13 : decode cX6_take 13 = .ok (.iload_n 1, 1) := by decide +kernel
theorem dX6_take_14 : decode cX6_take 14 = .ok (.aload_n 0, 1) := by decide +kernel
theorem dX6_take_15 : decode cX6_take 15 = .ok (.getfield 10, 3) := by decide +kernel
theorem dX6_take_18 : decode cX6_take 18 = .ok (.getfield 68, 3) := by decide +kernel
theorem dX6_take_21 : decode cX6_take 21 = .ok (.invokestatic 76, 3) := by decide +kernel
theorem dX6_take_24 : decode cX6_take 24 = .ok (.istore_n 2, 1) := by decide +kernel
theorem dX6_take_25 : decode cX6_take 25 = .ok (.iconst 0, 1) := by decide +kernel
theorem dX6_take_26 : decode cX6_take 26 = .ok (.istore_n 3, 1) := by decide +kernel
theorem dX6_take_27 : decode cX6_take 27 = .ok (.iload_n 3, 1) := by decide +kernel
theorem dX6_take_28 : decode cX6_take 28 = .ok (.iload_n 2, 1) := by decide +kernel
theorem dX6_take_29 : decode cX6_take 29 = .ok (.if_icmp .ge 24, 3) := by decide +kernel
theorem dX6_take_32 : decode cX6_take 32 = .ok (.aload_n 0, 1) := by decide +kernel
theorem dX6_take_33 : decode cX6_take 33 = .ok (.getfield 26, 3) := by decide +kernel
theorem dX6_take_36 : decode cX6_take 36 = .ok (.aload_n 0, 1) := by decide +kernel
theorem dX6_take_37 : decode cX6_take 37 = .ok (.getfield 10, 3) := by decide +kernel
theorem dX6_take_40 : decode cX6_take 40 = .ok (.iload_n 3, 1) := by decide +kernel
theorem dX6_take_41 : decode cX6_take 41 = .ok (.invokevirtual 64, 3) := by decide +kernel
theorem dX6_take_44 : decode cX6_take 44 = .ok (.invokevirtual 82, 3) := by decide +kernel
theorem dX6_take_47 : decode cX6_take 47 = .ok (.iinc 3 1, 3) := by decide +kernel
theorem dX6_take_50 : decode cX6_take 50 = .ok (.goto (-23), 3) := by decide +kernel
theorem dX6_take_53 : decode cX6_take 53 = .ok (.aload_n 0, 1) := by decide +kernel
theorem dX6_take_54 : decode cX6_take 54 = .ok (.getfield 10, 3) := by decide +kernel
theorem dX6_take_57 : decode cX6_take 57 = .ok (.iload_n 2, 1) := by decide +kernel
theorem dX6_take_58 : decode cX6_take 58 = .ok (.invokevirtual 86, 3) := by decide +kernel
theorem dX6_take_61 : decode cX6_take 61 = .ok (.iload_n 2, 1) := by decide +kernel
theorem dX6_take_62 : decode cX6_take 62 = .ok (.ireturn, 1) := by decide +kernel
theorem dX6_level_0 : decode cX6_level 0 = .ok (.aload_n 0, 1) := by decide +kernel
theorem dX6_level_1 : decode cX6_level 1 = .ok (.getfield 26, 3) := by decide +kernel
theorem dX6_level_4 : decode cX6_level 4 = .ok (.getfield 89, 3) := by decide +kernel
theorem dX6_level_7 : decode cX6_level 7 = .ok (.ireturn, 1) := by decide +kernel
theorem dX6_trust_0 : decode cX6_trust 0 = .ok (.aload_n 0, 1) := by decide +kernel
theorem dX6_trust_1 : decode cX6_trust 1 = .ok (.getfield 26, 3) := by decide +kernel
theorem dX6_trust_4 : decode cX6_trust 4 = .ok (.getfield 92, 3) := by decide +kernel
theorem dX6_trust_7 : decode cX6_trust 7 = .ok (.ireturn, 1) := by decide +kernel
set_option maxRecDepth 20000 in
theorem ggX6_symbol_X5_latest : GoodIn wsX6_symbol wsX5_latest := goodIn_r _ [6, 7, 8, 9, 25, 26, 27, 28] (by decide +kernel) (by decide +kernel)
set_option maxRecDepth 20000 in
theorem gX6_symbol_X5_latest : GoodIn wsX6_symbol (wsV RX6 99 RX5 yX5_latest wsX5_latest) := goodIn_app (goodIn_of _ (by decide +kernel)) ggX6_symbol_X5_latest
theorem dX6_symbol_0 : decode cX6_symbol 0 = .ok (.aload_n 0, 1) := by decide +kernel
theorem dX6_symbol_1 : decode cX6_symbol 1 = .ok (.getfield 26, 3) := by decide +kernel
theorem dX6_symbol_4 : decode cX6_symbol 4 = .ok (.getfield 95, 3) := by decide +kernel
theorem dX6_symbol_7 : decode cX6_symbol 7 = .ok (.iload_n 1, 1) := by decide +kernel
theorem dX6_symbol_8 : decode cX6_symbol 8 = .ok (.invokevirtual 99, 3) := by decide +kernel
theorem dX6_symbol_11 : decode cX6_symbol 11 = .ok (.ireturn, 1) := by decide +kernel
set_option maxRecDepth 20000 in
theorem ggX6_length_X1_lengthOf : GoodIn wsX6_length wsX1_lengthOf := goodIn_r _ [6, 7, 8, 9, 10, 5, 11, 12, 13, 14, 15, 16, 17, 18, 19, 20, 21, 37, 38, 39, 40, 41, 42, 43, 44, 45] (by decide +kernel) (by decide +kernel)
set_option maxRecDepth 20000 in
theorem gX6_length_X1_lengthOf : GoodIn wsX6_length (wsV RX6 108 RX1 yX1_lengthOf wsX1_lengthOf) := goodIn_app (goodIn_of _ (by decide +kernel)) ggX6_length_X1_lengthOf
theorem dX6_length_0 : decode cX6_length 0 = .ok (.aload_n 0, 1) := by decide +kernel
theorem dX6_length_1 : decode cX6_length 1 = .ok (.getfield 26, 3) := by decide +kernel
theorem dX6_length_4 : decode cX6_length 4 = .ok (.getfield 104, 3) := by decide +kernel
theorem dX6_length_7 : decode cX6_length 7 = .ok (.iload_n 1, 1) := by decide +kernel
theorem dX6_length_8 : decode cX6_length 8 = .ok (.invokevirtual 108, 3) := by decide +kernel
theorem dX6_length_11 : decode cX6_length 11 = .ok (.ireturn, 1) := by decide +kernel
set_option maxRecDepth 20000 in
theorem ggX6_whole_X1_isWhole : GoodIn wsX6_whole wsX1_isWhole := goodIn_r _ [6, 7, 8, 9, 10, 5, 11, 12, 13, 14, 15, 16, 17, 18, 19, 20, 21, 37, 38, 39, 40, 41, 42, 43, 44, 45] (by decide +kernel) (by decide +kernel)
set_option maxRecDepth 20000 in
theorem gX6_whole_X1_isWhole : GoodIn wsX6_whole (wsV RX6 113 RX1 yX1_isWhole wsX1_isWhole) := goodIn_app (goodIn_of _ (by decide +kernel)) ggX6_whole_X1_isWhole
theorem dX6_whole_0 : decode cX6_whole 0 = .ok (.aload_n 0, 1) := by decide +kernel
theorem dX6_whole_1 : decode cX6_whole 1 = .ok (.getfield 26, 3) := by decide +kernel
theorem dX6_whole_4 : decode cX6_whole 4 = .ok (.getfield 104, 3) := by decide +kernel
theorem dX6_whole_7 : decode cX6_whole 7 = .ok (.iload_n 1, 1) := by decide +kernel
theorem dX6_whole_8 : decode cX6_whole 8 = .ok (.invokevirtual 113, 3) := by decide +kernel
theorem dX6_whole_11 : decode cX6_whole 11 = .ok (.ireturn, 1) := by decide +kernel
set_option maxRecDepth 20000 in
theorem ggX6_at_X1_byteOf : GoodIn wsX6_at wsX1_byteOf := goodIn_r _ [6, 7, 8, 9, 10, 5, 11, 12, 13, 14, 15, 16, 17, 18, 19, 20, 21, 22, 23, 24, 25, 26, 42, 43, 44, 45, 46, 47, 48, 49, 50] (by decide +kernel) (by decide +kernel)
set_option maxRecDepth 20000 in
theorem gX6_at_X1_byteOf : GoodIn wsX6_at (wsV RX6 116 RX1 yX1_byteOf wsX1_byteOf) := goodIn_app (goodIn_of _ (by decide +kernel)) ggX6_at_X1_byteOf
theorem dX6_at_0 : decode cX6_at 0 = .ok (.aload_n 0, 1) := by decide +kernel
theorem dX6_at_1 : decode cX6_at 1 = .ok (.getfield 26, 3) := by decide +kernel
theorem dX6_at_4 : decode cX6_at 4 = .ok (.getfield 104, 3) := by decide +kernel
theorem dX6_at_7 : decode cX6_at 7 = .ok (.iload_n 1, 1) := by decide +kernel
theorem dX6_at_8 : decode cX6_at 8 = .ok (.iload_n 2, 1) := by decide +kernel
theorem dX6_at_9 : decode cX6_at 9 = .ok (.invokevirtual 116, 3) := by decide +kernel
theorem dX6_at_12 : decode cX6_at 12 = .ok (.ireturn, 1) := by decide +kernel
set_option maxRecDepth 20000 in
theorem ggX6_decode_X0_symbolOf : GoodIn wsX6_decode wsX0_symbolOf := goodIn_r _ [4, 5, 6, 3, 7, 8, 9, 10, 11, 12, 13, 14, 15, 16, 17, 18, 19, 20, 21, 22, 23, 24, 25, 26, 27, 28, 29, 30, 31, 32, 33, 34, 35] (by decide +kernel) (by decide +kernel)
set_option maxRecDepth 20000 in
theorem gX6_decode_X0_symbolOf : GoodIn wsX6_decode (va_wsS RX6 119 yX0_symbolOf wsX0_symbolOf) := goodIn_app (goodIn_of _ (by decide +kernel)) ggX6_decode_X0_symbolOf
theorem dX6_decode_0 : decode cX6_decode 0 = .ok (.iload_n 1, 1) := by decide +kernel
theorem dX6_decode_1 : decode cX6_decode 1 = .ok (.iload_n 2, 1) := by decide +kernel
theorem dX6_decode_2 : decode cX6_decode 2 = .ok (.invokestatic 119, 3) := by decide +kernel
theorem dX6_decode_5 : decode cX6_decode 5 = .ok (.ireturn, 1) := by decide +kernel
theorem dX6_count_0 : decode cX6_count 0 = .ok (.iload_n 1, 1) := by decide +kernel
theorem dX6_count_1 : decode cX6_count 1 = .ok (.tableswitch 123 0 7 #[47, 55, 63, 71, 79, 90, 101, 112], 47) := by decide +kernel
theorem dX6_count_48 : decode cX6_count 48 = .ok (.aload_n 0, 1) := by decide +kernel
theorem dX6_count_49 : decode cX6_count 49 = .ok (.getfield 19, 3) := by decide +kernel
theorem dX6_count_52 : decode cX6_count 52 = .ok (.getfield 122, 3) := by decide +kernel
theorem dX6_count_55 : decode cX6_count 55 = .ok (.ireturn, 1) := by decide +kernel
theorem dX6_count_56 : decode cX6_count 56 = .ok (.aload_n 0, 1) := by decide +kernel
theorem dX6_count_57 : decode cX6_count 57 = .ok (.getfield 26, 3) := by decide +kernel
theorem dX6_count_60 : decode cX6_count 60 = .ok (.getfield 125, 3) := by decide +kernel
theorem dX6_count_63 : decode cX6_count 63 = .ok (.ireturn, 1) := by decide +kernel
theorem dX6_count_64 : decode cX6_count 64 = .ok (.aload_n 0, 1) := by decide +kernel
theorem dX6_count_65 : decode cX6_count 65 = .ok (.getfield 26, 3) := by decide +kernel
theorem dX6_count_68 : decode cX6_count 68 = .ok (.getfield 128, 3) := by decide +kernel
theorem dX6_count_71 : decode cX6_count 71 = .ok (.ireturn, 1) := by decide +kernel
theorem dX6_count_72 : decode cX6_count 72 = .ok (.aload_n 0, 1) := by decide +kernel
theorem dX6_count_73 : decode cX6_count 73 = .ok (.getfield 26, 3) := by decide +kernel
theorem dX6_count_76 : decode cX6_count 76 = .ok (.getfield 131, 3) := by decide +kernel
theorem dX6_count_79 : decode cX6_count 79 = .ok (.ireturn, 1) := by decide +kernel
theorem dX6_count_80 : decode cX6_count 80 = .ok (.aload_n 0, 1) := by decide +kernel
theorem dX6_count_81 : decode cX6_count 81 = .ok (.getfield 26, 3) := by decide +kernel
theorem dX6_count_84 : decode cX6_count 84 = .ok (.getfield 104, 3) := by decide +kernel
theorem dX6_count_87 : decode cX6_count 87 = .ok (.getfield 134, 3) := by decide +kernel
theorem dX6_count_90 : decode cX6_count 90 = .ok (.ireturn, 1) := by decide +kernel
theorem dX6_count_91 : decode cX6_count 91 = .ok (.aload_n 0, 1) := by decide +kernel
theorem dX6_count_92 : decode cX6_count 92 = .ok (.getfield 26, 3) := by decide +kernel
theorem dX6_count_95 : decode cX6_count 95 = .ok (.getfield 104, 3) := by decide +kernel
theorem dX6_count_98 : decode cX6_count 98 = .ok (.getfield 137, 3) := by decide +kernel
theorem dX6_count_101 : decode cX6_count 101 = .ok (.ireturn, 1) := by decide +kernel
theorem dX6_count_102 : decode cX6_count 102 = .ok (.aload_n 0, 1) := by decide +kernel
theorem dX6_count_103 : decode cX6_count 103 = .ok (.getfield 26, 3) := by decide +kernel
theorem dX6_count_106 : decode cX6_count 106 = .ok (.getfield 104, 3) := by decide +kernel
theorem dX6_count_109 : decode cX6_count 109 = .ok (.getfield 140, 3) := by decide +kernel
theorem dX6_count_112 : decode cX6_count 112 = .ok (.ireturn, 1) := by decide +kernel
theorem dX6_count_113 : decode cX6_count 113 = .ok (.aload_n 0, 1) := by decide +kernel
theorem dX6_count_114 : decode cX6_count 114 = .ok (.getfield 26, 3) := by decide +kernel
theorem dX6_count_117 : decode cX6_count 117 = .ok (.getfield 95, 3) := by decide +kernel
theorem dX6_count_120 : decode cX6_count 120 = .ok (.getfield 143, 3) := by decide +kernel
theorem dX6_count_123 : decode cX6_count 123 = .ok (.ireturn, 1) := by decide +kernel
theorem dX6_count_124 : decode cX6_count 124 = .ok (.iconst (-1), 1) := by decide +kernel
theorem dX6_count_125 : decode cX6_count 125 = .ok (.ireturn, 1) := by decide +kernel
