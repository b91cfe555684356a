theorem dX7_form_0 : decode cX7_form 0 = .ok (.aload_n 0, 1) := by decide +kernel
theorem dX7_form_1 : decode cX7_form 1 = .ok (.iconst 2, 1) := by decide +kernel
theorem dX7_form_2 : decode cX7_form 2 = .ok (.iload_n 1, 1) := by decide +kernel
theorem dX7_form_3 : decode cX7_form 3 = .ok (.imul, 1) := by decide +kernel
theorem dX7_form_4 : decode cX7_form 4 = .ok (.iload_n 2, 1) := by decide +kernel
theorem dX7_form_5 : decode cX7_form 5 = .ok (.ifCond .le 7, 3) := by decide +kernel
theorem dX7_form_8 : decode cX7_form 8 = .ok (.iconst 1, 1) := by decide +kernel
theorem dX7_form_9 : decode cX7_form 9 = .ok (.goto 4, 3) := by decide +kernel
theorem dX7_form_12 : decode cX7_form 12 = .ok (.iconst 0, 1) := by decide +kernel
theorem dX7_form_13 : decode cX7_form 13 = .ok (.iadd, 1) := by decide +kernel
theorem dX7_form_14 : decode cX7_form 14 = .ok (.iaload, 1) := by decide +kernel
theorem dX7_form_15 : decode cX7_form 15 = .ok (.ireturn, 1) := by decide +kernel
theorem dX7_ones_0 : decode cX7_ones 0 = .ok (.iconst 0, 1) := by decide +kernel
theorem dX7_ones_1 : decode cX7_ones 1 = .ok (.istore_n 1, 1) := by decide +kernel
theorem dX7_ones_2 : decode cX7_ones 2 = .ok (.iload_n 0, 1) := by decide +kernel
theorem dX7_ones_3 : decode cX7_ones 3 = .ok (.istore_n 2, 1) := by decide +kernel
theorem dX7_ones_4 : decode cX7_ones 4 = .ok (.iload_n 2, 1) := by decide +kernel
theorem dX7_ones_5 : decode cX7_ones 5 = .ok (.ifCond .le 16, 3) := by decide +kernel
theorem dX7_ones_8 : decode cX7_ones 8 = .ok (.iload_n 1, 1) := by decide +kernel
theorem dX7_ones_9 : decode cX7_ones 9 = .ok (.iload_n 2, 1) := by decide +kernel
theorem dX7_ones_10 : decode cX7_ones 10 = .ok (.iconst 1, 1) := by decide +kernel
theorem dX7_ones_11 : decode cX7_ones 11 = .ok (.iand, 1) := by decide +kernel
theorem dX7_ones_12 : decode cX7_ones 12 = .ok (.iadd, 1) := by decide +kernel
theorem dX7_ones_13 : decode cX7_ones 13 = .ok (.istore_n 1, 1) := by decide +kernel
theorem dX7_ones_14 : decode cX7_ones 14 = .ok (.iload_n 2, 1) := by decide +kernel
theorem dX7_ones_15 : decode cX7_ones 15 = .ok (.iconst 1, 1) := by decide +kernel
theorem dX7_ones_16 : decode cX7_ones 16 = .ok (.ishr, 1) := by decide +kernel
theorem dX7_ones_17 : decode cX7_ones 17 = .ok (.istore_n 2, 1) := by decide +kernel
theorem dX7_ones_18 : decode cX7_ones 18 = .ok (.goto (-14), 3) := by decide +kernel
theorem dX7_ones_21 : decode cX7_ones 21 = .ok (.iload_n 1, 1) := by decide +kernel
theorem dX7_ones_22 : decode cX7_ones 22 = .ok (.ireturn, 1) := by decide +kernel
set_option maxRecDepth 20000 in
theorem ggX7_behind_X7_ones : GoodIn wsX7_behind wsX7_ones := goodIn_r _ [4] (by decide +kernel) (by decide +kernel)
set_option maxRecDepth 20000 in
theorem gX7_behind_X7_ones : GoodIn wsX7_behind (va_wsS RX7 52 yX7_ones wsX7_ones) := goodIn_app (goodIn_of _ (by decide +kernel)) ggX7_behind_X7_ones
theorem dX7_behind_0 : decode cX7_behind 0 = .ok (.iconst 2, 1) := by decide +kernel
theorem dX7_behind_1 : decode cX7_behind 1 = .ok (.iload_n 0, 1) := by decide +kernel
theorem dX7_behind_2 : decode cX7_behind 2 = .ok (.invokestatic 52, 3) := by decide +kernel
theorem dX7_behind_5 : decode cX7_behind 5 = .ok (.imul, 1) := by decide +kernel
theorem dX7_behind_6 : decode cX7_behind 6 = .ok (.istore_n 3, 1) := by decide +kernel
theorem dX7_behind_7 : decode cX7_behind 7 = .ok (.iload_n 3, 1) := by decide +kernel
theorem dX7_behind_8 : decode cX7_behind 8 = .ok (.iload_n 1, 1) := by decide +kernel
theorem dX7_behind_9 : decode cX7_behind 9 = .ok (.if_icmp .eq 14, 3) := by decide +kernel
theorem dX7_behind_12 : decode cX7_behind 12 = .ok (.iload_n 3, 1) := by decide +kernel
theorem dX7_behind_13 : decode cX7_behind 13 = .ok (.iload_n 1, 1) := by decide +kernel
theorem dX7_behind_14 : decode cX7_behind 14 = .ok (.if_icmp .le 7, 3) := by decide +kernel
theorem dX7_behind_17 : decode cX7_behind 17 = .ok (.iconst 1, 1) := by decide +kernel
theorem dX7_behind_18 : decode cX7_behind 18 = .ok (.goto 4, 3) := by decide +kernel
theorem dX7_behind_21 : decode cX7_behind 21 = .ok (.iconst (-1), 1) := by decide +kernel
theorem dX7_behind_22 : decode cX7_behind 22 = .ok (.ireturn, 1) := by decide +kernel
theorem dX7_behind_23 : decode cX7_behind 23 = .ok (.iload_n 1, 1) := by decide +kernel
theorem dX7_behind_24 : decode cX7_behind 24 = .ok (.bipush 6, 2) := by decide +kernel
theorem dX7_behind_26 : decode cX7_behind 26 = .ok (.if_icmp .ne 8, 3) := by decide +kernel
theorem dX7_behind_29 : decode cX7_behind 29 = .ok (.bipush 7, 2) := by decide +kernel
theorem dX7_behind_31 : decode cX7_behind 31 = .ok (.goto 4, 3) := by decide +kernel
theorem dX7_behind_34 : decode cX7_behind 34 = .ok (.iconst 3, 1) := by decide +kernel
theorem dX7_behind_35 : decode cX7_behind 35 = .ok (.istore 4, 2) := by decide +kernel
theorem dX7_behind_37 : decode cX7_behind 37 = .ok (.iload_n 1, 1) := by decide +kernel
theorem dX7_behind_38 : decode cX7_behind 38 = .ok (.bipush 6, 2) := by decide +kernel
theorem dX7_behind_40 : decode cX7_behind 40 = .ok (.if_icmp .ne 8, 3) := by decide +kernel
theorem dX7_behind_43 : decode cX7_behind 43 = .ok (.bipush 56, 2) := by decide +kernel
theorem dX7_behind_45 : decode cX7_behind 45 = .ok (.goto 5, 3) := by decide +kernel
theorem dX7_behind_48 : decode cX7_behind 48 = .ok (.bipush 12, 2) := by decide +kernel
theorem dX7_behind_50 : decode cX7_behind 50 = .ok (.istore 5, 2) := by decide +kernel
theorem dX7_behind_52 : decode cX7_behind 52 = .ok (.iload_n 0, 1) := by decide +kernel
theorem dX7_behind_53 : decode cX7_behind 53 = .ok (.iload 4, 2) := by decide +kernel
theorem dX7_behind_55 : decode cX7_behind 55 = .ok (.if_icmp .ne 7, 3) := by decide +kernel
theorem dX7_behind_58 : decode cX7_behind 58 = .ok (.iconst 1, 1) := by decide +kernel
theorem dX7_behind_59 : decode cX7_behind 59 = .ok (.goto 14, 3) := by decide +kernel
theorem dX7_behind_62 : decode cX7_behind 62 = .ok (.iload_n 0, 1) := by decide +kernel
theorem dX7_behind_63 : decode cX7_behind 63 = .ok (.iload 5, 2) := by decide +kernel
theorem dX7_behind_65 : decode cX7_behind 65 = .ok (.if_icmp .ne 7, 3) := by decide +kernel
theorem dX7_behind_68 : decode cX7_behind 68 = .ok (.iconst (-1), 1) := by decide +kernel
theorem dX7_behind_69 : decode cX7_behind 69 = .ok (.goto 4, 3) := by decide +kernel
theorem dX7_behind_72 : decode cX7_behind 72 = .ok (.iload_n 2, 1) := by decide +kernel
theorem dX7_behind_73 : decode cX7_behind 73 = .ok (.ireturn, 1) := by decide +kernel
theorem dX7_isSign_0 : decode cX7_isSign 0 = .ok (.iload_n 0, 1) := by decide +kernel
theorem dX7_isSign_1 : decode cX7_isSign 1 = .ok (.bipush 32, 2) := by decide +kernel
theorem dX7_isSign_3 : decode cX7_isSign 3 = .ok (.irem, 1) := by decide +kernel
theorem dX7_isSign_4 : decode cX7_isSign 4 = .ok (.istore_n 1, 1) := by decide +kernel
theorem dX7_isSign_5 : decode cX7_isSign 5 = .ok (.iload_n 0, 1) := by decide +kernel
theorem dX7_isSign_6 : decode cX7_isSign 6 = .ok (.ifCond .lt 53, 3) := by decide +kernel
theorem dX7_isSign_9 : decode cX7_isSign 9 = .ok (.iload_n 0, 1) := by decide +kernel
theorem dX7_isSign_10 : decode cX7_isSign 10 = .ok (.sipush 255, 3) := by decide +kernel
theorem dX7_isSign_13 : decode cX7_isSign 13 = .ok (.if_icmp .gt 46, 3) := by decide +kernel
theorem dX7_isSign_16 : decode cX7_isSign 16 = .ok (.iload_n 1, 1) := by decide +kernel
theorem dX7_isSign_17 : decode cX7_isSign 17 = .ok (.bipush 28, 2) := by decide +kernel
theorem dX7_isSign_19 : decode cX7_isSign 19 = .ok (.if_icmp .eq 36, 3) := by decide +kernel
theorem dX7_isSign_22 : decode cX7_isSign 22 = .ok (.iload_n 0, 1) := by decide +kernel
theorem dX7_isSign_23 : decode cX7_isSign 23 = .ok (.bipush 32, 2) := by decide +kernel
theorem dX7_isSign_25 : decode cX7_isSign 25 = .ok (.idiv, 1) := by decide +kernel
theorem dX7_isSign_26 : decode cX7_isSign 26 = .ok (.bipush 7, 2) := by decide +kernel
theorem dX7_isSign_28 : decode cX7_isSign 28 = .ok (.if_icmp .ne 31, 3) := by decide +kernel
theorem dX7_isSign_31 : decode cX7_isSign 31 = .ok (.iload_n 1, 1) := by decide +kernel
theorem dX7_isSign_32 : decode cX7_isSign 32 = .ok (.bipush 23, 2) := by decide +kernel
theorem dX7_isSign_34 : decode cX7_isSign 34 = .ok (.if_icmp .eq 21, 3) := by decide +kernel
theorem dX7_isSign_37 : decode cX7_isSign 37 = .ok (.iload_n 1, 1) := by decide +kernel
theorem dX7_isSign_38 : decode cX7_isSign 38 = .ok (.bipush 27, 2) := by decide +kernel
theorem dX7_isSign_40 : decode cX7_isSign 40 = .ok (.if_icmp .eq 15, 3) := by decide +kernel
theorem dX7_isSign_43 : decode cX7_isSign 43 = .ok (.iload_n 1, 1) := by decide +kernel
theorem dX7_isSign_44 : decode cX7_isSign 44 = .ok (.bipush 29, 2) := by decide +kernel
theorem dX7_isSign_46 : decode cX7_isSign 46 = .ok (.if_icmp .eq 9, 3) := by decide +kernel
theorem dX7_isSign_49 : decode cX7_isSign 49 = .ok (.iload_n 1, 1) := by decide +kernel
theorem dX7_isSign_50 : decode cX7_isSign 50 = .ok (.bipush 30, 2) := by decide +kernel
theorem dX7_isSign_52 : decode cX7_isSign 52 = .ok (.if_icmp .ne 7, 3) := by decide +kernel
theorem dX7_isSign_55 : decode cX7_isSign 55 = .ok (.iconst 1, 1) := by decide +kernel
theorem dX7_isSign_56 : decode cX7_isSign 56 = .ok (.goto 4, 3) := by decide +kernel
theorem dX7_isSign_59 : decode cX7_isSign 59 = .ok (.iconst 0, 1) := by decide +kernel
theorem dX7_isSign_60 : decode cX7_isSign 60 = .ok (.ireturn, 1) := by decide +kernel
set_option maxRecDepth 20000 in
theorem ggX7_groupOf_X7_form : GoodIn wsX7_groupOf wsX7_form := goodIn_r _ [7] (by decide +kernel) (by decide +kernel)
set_option maxRecDepth 20000 in
theorem gX7_groupOf_X7_form : GoodIn wsX7_groupOf (va_wsS RX7 56 yX7_form wsX7_form) := goodIn_app (goodIn_of _ (by decide +kernel)) ggX7_groupOf_X7_form
set_option maxRecDepth 20000 in
theorem ggX7_groupOf_X7_behind : GoodIn wsX7_groupOf wsX7_behind := goodIn_r _ [10, 11, 12, 6, 13] (by decide +kernel) (by decide +kernel)
set_option maxRecDepth 20000 in
theorem gX7_groupOf_X7_behind : GoodIn wsX7_groupOf (va_wsS RX7 60 yX7_behind wsX7_behind) := goodIn_app (goodIn_of _ (by decide +kernel)) ggX7_groupOf_X7_behind
theorem dX7_groupOf_0 : decode cX7_groupOf 0 = .ok (.iload_n 1, 1) := by decide +kernel
theorem dX7_groupOf_1 : decode cX7_groupOf 1 = .ok (.bipush 32, 2) := by decide +kernel
theorem dX7_groupOf_3 : decode cX7_groupOf 3 = .ok (.irem, 1) := by decide +kernel
theorem dX7_groupOf_4 : decode cX7_groupOf 4 = .ok (.istore 4, 2) := by decide +kernel
theorem dX7_groupOf_6 : decode cX7_groupOf 6 = .ok (.iload_n 1, 1) := by decide +kernel
theorem dX7_groupOf_7 : decode cX7_groupOf 7 = .ok (.bipush 32, 2) := by decide +kernel
theorem dX7_groupOf_9 : decode cX7_groupOf 9 = .ok (.idiv, 1) := by decide +kernel
theorem dX7_groupOf_10 : decode cX7_groupOf 10 = .ok (.istore 5, 2) := by decide +kernel
theorem dX7_groupOf_12 : decode cX7_groupOf 12 = .ok (.iload_n 2, 1) := by decide +kernel
theorem dX7_groupOf_13 : decode cX7_groupOf 13 = .ok (.ifCond .eq 24, 3) := by decide +kernel
theorem dX7_groupOf_16 : decode cX7_groupOf 16 = .ok (.iload 4, 2) := by decide +kernel
theorem dX7_groupOf_18 : decode cX7_groupOf 18 = .ok (.bipush 28, 2) := by decide +kernel
theorem dX7_groupOf_20 : decode cX7_groupOf 20 = .ok (.if_icmp .ne 17, 3) := by decide +kernel
theorem dX7_groupOf_23 : decode cX7_groupOf 23 = .ok (.iload_n 3, 1) := by decide +kernel
theorem dX7_groupOf_24 : decode cX7_groupOf 24 = .ok (.ifCond .ge 8, 3) := by decide +kernel
theorem dX7_groupOf_27 : decode cX7_groupOf 27 = .ok (.bipush 15, 2) := by decide +kernel
theorem dX7_groupOf_29 : decode cX7_groupOf 29 = .ok (.goto 18, 3) := by decide +kernel
theorem dX7_groupOf_32 : decode cX7_groupOf 32 = .ok (.bipush 48, 2) := by decide +kernel
theorem dX7_groupOf_34 : decode cX7_groupOf 34 = .ok (.goto 13, 3) := by decide +kernel
theorem dX7_groupOf_37 : decode cX7_groupOf 37 = .ok (.aload_n 0, 1) := by decide +kernel
theorem dX7_groupOf_38 : decode cX7_groupOf 38 = .ok (.getfield 7, 3) := by decide +kernel
theorem dX7_groupOf_41 : decode cX7_groupOf 41 = .ok (.iload 4, 2) := by decide +kernel
theorem dX7_groupOf_43 : decode cX7_groupOf 43 = .ok (.iload_n 3, 1) := by decide +kernel
theorem dX7_groupOf_44 : decode cX7_groupOf 44 = .ok (.invokestatic 56, 3) := by decide +kernel
theorem dX7_groupOf_47 : decode cX7_groupOf 47 = .ok (.istore 6, 2) := by decide +kernel
theorem dX7_groupOf_49 : decode cX7_groupOf 49 = .ok (.iload 6, 2) := by decide +kernel
theorem dX7_groupOf_51 : decode cX7_groupOf 51 = .ok (.bipush 6, 2) := by decide +kernel
theorem dX7_groupOf_53 : decode cX7_groupOf 53 = .ok (.iload_n 3, 1) := by decide +kernel
theorem dX7_groupOf_54 : decode cX7_groupOf 54 = .ok (.invokestatic 60, 3) := by decide +kernel
theorem dX7_groupOf_57 : decode cX7_groupOf 57 = .ok (.istore 7, 2) := by decide +kernel
theorem dX7_groupOf_59 : decode cX7_groupOf 59 = .ok (.iload_n 2, 1) := by decide +kernel
theorem dX7_groupOf_60 : decode cX7_groupOf 60 = .ok (.ifCond .eq 10, 3) := by decide +kernel
theorem dX7_groupOf_63 : decode cX7_groupOf 63 = .ok (.aload_n 0, 1) := by decide +kernel
theorem dX7_groupOf_64 : decode cX7_groupOf 64 = .ok (.getfield 16, 3) := by decide +kernel
theorem dX7_groupOf_67 : decode cX7_groupOf 67 = .ok (.goto 7, 3) := by decide +kernel
theorem dX7_groupOf_70 : decode cX7_groupOf 70 = .ok (.aload_n 0, 1) := by decide +kernel
theorem dX7_groupOf_71 : decode cX7_groupOf 71 = .ok (.getfield 13, 3) := by decide +kernel
theorem dX7_groupOf_74 : decode cX7_groupOf 74 = .ok (.iload 5, 2) := by decide +kernel
theorem dX7_groupOf_76 : decode cX7_groupOf 76 = .ok (.iload 7, 2) := by decide +kernel
theorem dX7_groupOf_78 : decode cX7_groupOf 78 = .ok (.invokestatic 56, 3) := by decide +kernel
theorem dX7_groupOf_81 : decode cX7_groupOf 81 = .ok (.istore 8, 2) := by decide +kernel
theorem dX7_groupOf_83 : decode cX7_groupOf 83 = .ok (.iload_n 2, 1) := by decide +kernel
theorem dX7_groupOf_84 : decode cX7_groupOf 84 = .ok (.ifCond .ne 43, 3) := by decide +kernel
theorem dX7_groupOf_87 : decode cX7_groupOf 87 = .ok (.iload 5, 2) := by decide +kernel
theorem dX7_groupOf_89 : decode cX7_groupOf 89 = .ok (.bipush 7, 2) := by decide +kernel
theorem dX7_groupOf_91 : decode cX7_groupOf 91 = .ok (.if_icmp .ne 36, 3) := by decide +kernel
theorem dX7_groupOf_94 : decode cX7_groupOf 94 = .ok (.iload 7, 2) := by decide +kernel
theorem dX7_groupOf_96 : decode cX7_groupOf 96 = .ok (.ifCond .ge 31, 3) := by decide +kernel
theorem dX7_groupOf_99 : decode cX7_groupOf 99 = .ok (.iload 4, 2) := by decide +kernel
theorem dX7_groupOf_101 : decode cX7_groupOf 101 = .ok (.bipush 17, 2) := by decide +kernel
theorem dX7_groupOf_103 : decode cX7_groupOf 103 = .ok (.if_icmp .eq 17, 3) := by decide +kernel
theorem dX7_groupOf_106 : decode cX7_groupOf 106 = .ok (.iload 4, 2) := by decide +kernel
theorem dX7_groupOf_108 : decode cX7_groupOf 108 = .ok (.bipush 18, 2) := by decide +kernel
theorem dX7_groupOf_110 : decode cX7_groupOf 110 = .ok (.if_icmp .eq 10, 3) := by decide +kernel
theorem dX7_groupOf_113 : decode cX7_groupOf 113 = .ok (.iload 4, 2) := by decide +kernel
theorem dX7_groupOf_115 : decode cX7_groupOf 115 = .ok (.bipush 20, 2) := by decide +kernel
theorem dX7_groupOf_117 : decode cX7_groupOf 117 = .ok (.if_icmp .ne 10, 3) := by decide +kernel
theorem dX7_groupOf_120 : decode cX7_groupOf 120 = .ok (.bipush 7, 2) := by decide +kernel
theorem dX7_groupOf_122 : decode cX7_groupOf 122 = .ok (.istore 8, 2) := by decide +kernel
theorem dX7_groupOf_124 : decode cX7_groupOf 124 = .ok (.goto 44, 3) := by decide +kernel
theorem dX7_groupOf_127 : decode cX7_groupOf 127 = .ok (.iload_n 2, 1) := by decide +kernel
theorem dX7_groupOf_128 : decode cX7_groupOf 128 = .ok (.ifCond .ne 40, 3) := by decide +kernel
theorem dX7_groupOf_131 : decode cX7_groupOf 131 = .ok (.iload 5, 2) := by decide +kernel
theorem dX7_groupOf_133 : decode cX7_groupOf 133 = .ok (.bipush 7, 2) := by decide +kernel
theorem dX7_groupOf_135 : decode cX7_groupOf 135 = .ok (.if_icmp .ne 33, 3) := by decide +kernel
theorem dX7_groupOf_138 : decode cX7_groupOf 138 = .ok (.iload 7, 2) := by decide +kernel
theorem dX7_groupOf_140 : decode cX7_groupOf 140 = .ok (.ifCond .le 28, 3) := by decide +kernel
theorem dX7_groupOf_143 : decode cX7_groupOf 143 = .ok (.iload 4, 2) := by decide +kernel
theorem dX7_groupOf_145 : decode cX7_groupOf 145 = .ok (.bipush 11, 2) := by decide +kernel
theorem dX7_groupOf_147 : decode cX7_groupOf 147 = .ok (.if_icmp .eq 17, 3) := by decide +kernel
theorem dX7_groupOf_150 : decode cX7_groupOf 150 = .ok (.iload 4, 2) := by decide +kernel
theorem dX7_groupOf_152 : decode cX7_groupOf 152 = .ok (.bipush 13, 2) := by decide +kernel
theorem dX7_groupOf_154 : decode cX7_groupOf 154 = .ok (.if_icmp .eq 10, 3) := by decide +kernel
theorem dX7_groupOf_157 : decode cX7_groupOf 157 = .ok (.iload 4, 2) := by decide +kernel
theorem dX7_groupOf_159 : decode cX7_groupOf 159 = .ok (.bipush 14, 2) := by decide +kernel
theorem dX7_groupOf_161 : decode cX7_groupOf 161 = .ok (.if_icmp .ne 7, 3) := by decide +kernel
theorem dX7_groupOf_164 : decode cX7_groupOf 164 = .ok (.bipush 8, 2) := by decide +kernel
theorem dX7_groupOf_166 : decode cX7_groupOf 166 = .ok (.istore 8, 2) := by decide +kernel
theorem dX7_groupOf_168 : decode cX7_groupOf 168 = .ok (.iload 6, 2) := by decide +kernel
theorem dX7_groupOf_170 : decode cX7_groupOf 170 = .ok (.iconst 4, 1) := by decide +kernel
theorem dX7_groupOf_171 : decode cX7_groupOf 171 = .ok (.ishl, 1) := by decide +kernel
theorem dX7_groupOf_172 : decode cX7_groupOf 172 = .ok (.iload 8, 2) := by decide +kernel
theorem dX7_groupOf_174 : decode cX7_groupOf 174 = .ok (.ior, 1) := by decide +kernel
theorem dX7_groupOf_175 : decode cX7_groupOf 175 = .ok (.ireturn, 1) := by decide +kernel
set_option maxRecDepth 20000 in
theorem ggX7_behindGroup_X7_behind : GoodIn wsX7_behindGroup wsX7_behind := goodIn_r _ [4, 5, 6, 3, 7] (by decide +kernel) (by decide +kernel)
set_option maxRecDepth 20000 in
theorem gX7_behindGroup_X7_behind : GoodIn wsX7_behindGroup (va_wsS RX7 60 yX7_behind wsX7_behind) := goodIn_app (goodIn_of _ (by decide +kernel)) ggX7_behindGroup_X7_behind
theorem dX7_behindGroup_0 : decode cX7_behindGroup 0 = .ok (.iload_n 0, 1) := by decide +kernel
theorem dX7_behindGroup_1 : decode cX7_behindGroup 1 = .ok (.bipush 15, 2) := by decide +kernel
theorem dX7_behindGroup_3 : decode cX7_behindGroup 3 = .ok (.iand, 1) := by decide +kernel
theorem dX7_behindGroup_4 : decode cX7_behindGroup 4 = .ok (.iconst 4, 1) := by decide +kernel
theorem dX7_behindGroup_5 : decode cX7_behindGroup 5 = .ok (.iload_n 0, 1) := by decide +kernel
theorem dX7_behindGroup_6 : decode cX7_behindGroup 6 = .ok (.iconst 4, 1) := by decide +kernel
theorem dX7_behindGroup_7 : decode cX7_behindGroup 7 = .ok (.ishr, 1) := by decide +kernel
theorem dX7_behindGroup_8 : decode cX7_behindGroup 8 = .ok (.bipush 6, 2) := by decide +kernel
theorem dX7_behindGroup_10 : decode cX7_behindGroup 10 = .ok (.iload_n 1, 1) := by decide +kernel
theorem dX7_behindGroup_11 : decode cX7_behindGroup 11 = .ok (.invokestatic 60, 3) := by decide +kernel
theorem dX7_behindGroup_14 : decode cX7_behindGroup 14 = .ok (.invokestatic 60, 3) := by decide +kernel
theorem dX7_behindGroup_17 : decode cX7_behindGroup 17 = .ok (.ireturn, 1) := by decide +kernel
set_option maxRecDepth 20000 in
theorem ggX7_decode_X7_groupOf : GoodIn wsX7_decode wsX7_groupOf := goodIn_r _ [5, 6, 7, 8, 9, 10, 4, 11, 12, 13, 14, 15, 16, 17, 21, 22, 23, 24, 25, 26, 27, 28, 29, 30, 31, 32, 33, 34, 35, 36, 37, 38, 39, 40, 41, 42, 43, 44, 45, 46, 47, 48, 49, 50, 51, 52] (by decide +kernel) (by decide +kernel)
set_option maxRecDepth 20000 in
theorem gX7_decode_X7_groupOf : GoodIn wsX7_decode (wsV RX7 64 RX7 yX7_groupOf wsX7_groupOf) := goodIn_app (goodIn_of _ (by decide +kernel)) ggX7_decode_X7_groupOf
set_option maxRecDepth 20000 in
theorem ggX7_decode_X7_isSign : GoodIn wsX7_decode wsX7_isSign := goodIn_r _ [20] (by decide +kernel) (by decide +kernel)
set_option maxRecDepth 20000 in
theorem gX7_decode_X7_isSign : GoodIn wsX7_decode (va_wsS RX7 68 yX7_isSign wsX7_isSign) := goodIn_app (goodIn_of _ (by decide +kernel)) ggX7_decode_X7_isSign
theorem dX7_decode_0 : decode cX7_decode 0 = .ok (.iload_n 1, 1) := by decide +kernel
theorem dX7_decode_1 : decode cX7_decode 1 = .ok (.ifCond .lt 20, 3) := by decide +kernel
theorem dX7_decode_4 : decode cX7_decode 4 = .ok (.iload_n 1, 1) := by decide +kernel
theorem dX7_decode_5 : decode cX7_decode 5 = .ok (.sipush 1023, 3) := by decide +kernel
theorem dX7_decode_8 : decode cX7_decode 8 = .ok (.if_icmp .gt 13, 3) := by decide +kernel
theorem dX7_decode_11 : decode cX7_decode 11 = .ok (.iload_n 2, 1) := by decide +kernel
theorem dX7_decode_12 : decode cX7_decode 12 = .ok (.iconst (-1), 1) := by decide +kernel
theorem dX7_decode_13 : decode cX7_decode 13 = .ok (.if_icmp .eq 10, 3) := by decide +kernel
theorem dX7_decode_16 : decode cX7_decode 16 = .ok (.iload_n 2, 1) := by decide +kernel
theorem dX7_decode_17 : decode cX7_decode 17 = .ok (.iconst 1, 1) := by decide +kernel
theorem dX7_decode_18 : decode cX7_decode 18 = .ok (.if_icmp .eq 5, 3) := by decide +kernel
theorem dX7_decode_21 : decode cX7_decode 21 = .ok (.iconst (-1), 1) := by decide +kernel
theorem dX7_decode_22 : decode cX7_decode 22 = .ok (.ireturn, 1) := by decide +kernel
theorem dX7_decode_23 : decode cX7_decode 23 = .ok (.iconst 0, 1) := by decide +kernel
theorem dX7_decode_24 : decode cX7_decode 24 = .ok (.istore_n 3, 1) := by decide +kernel
theorem dX7_decode_25 : decode cX7_decode 25 = .ok (.iload_n 3, 1) := by decide +kernel
theorem dX7_decode_26 : decode cX7_decode 26 = .ok (.sipush 256, 3) := by decide +kernel
theorem dX7_decode_29 : decode cX7_decode 29 = .ok (.if_icmp .ge 46, 3) := by decide +kernel
theorem dX7_decode_32 : decode cX7_decode 32 = .ok (.aload_n 0, 1) := by decide +kernel
theorem dX7_decode_33 : decode cX7_decode 33 = .ok (.iload_n 3, 1) := by decide +kernel
theorem dX7_decode_34 : decode cX7_decode 34 = .ok (.iconst 0, 1) := by decide +kernel
theorem dX7_decode_35 : decode cX7_decode 35 = .ok (.iload_n 2, 1) := by decide +kernel
theorem dX7_decode_36 : decode cX7_decode 36 = .ok (.invokevirtual 64, 3) := by decide +kernel
theorem dX7_decode_39 : decode cX7_decode 39 = .ok (.iload_n 1, 1) := by decide +kernel
theorem dX7_decode_40 : decode cX7_decode 40 = .ok (.if_icmp .ne 5, 3) := by decide +kernel
theorem dX7_decode_43 : decode cX7_decode 43 = .ok (.iload_n 3, 1) := by decide +kernel
theorem dX7_decode_44 : decode cX7_decode 44 = .ok (.ireturn, 1) := by decide +kernel
theorem dX7_decode_45 : decode cX7_decode 45 = .ok (.iload_n 3, 1) := by decide +kernel
theorem dX7_decode_46 : decode cX7_decode 46 = .ok (.invokestatic 68, 3) := by decide +kernel
theorem dX7_decode_49 : decode cX7_decode 49 = .ok (.ifCond .eq 20, 3) := by decide +kernel
theorem dX7_decode_52 : decode cX7_decode 52 = .ok (.aload_n 0, 1) := by decide +kernel
theorem dX7_decode_53 : decode cX7_decode 53 = .ok (.iload_n 3, 1) := by decide +kernel
theorem dX7_decode_54 : decode cX7_decode 54 = .ok (.iconst 1, 1) := by decide +kernel
theorem dX7_decode_55 : decode cX7_decode 55 = .ok (.iload_n 2, 1) := by decide +kernel
theorem dX7_decode_56 : decode cX7_decode 56 = .ok (.invokevirtual 64, 3) := by decide +kernel
theorem dX7_decode_59 : decode cX7_decode 59 = .ok (.iload_n 1, 1) := by decide +kernel
theorem dX7_decode_60 : decode cX7_decode 60 = .ok (.if_icmp .ne 9, 3) := by decide +kernel
theorem dX7_decode_63 : decode cX7_decode 63 = .ok (.sipush 256, 3) := by decide +kernel
theorem dX7_decode_66 : decode cX7_decode 66 = .ok (.iload_n 3, 1) := by decide +kernel
theorem dX7_decode_67 : decode cX7_decode 67 = .ok (.iadd, 1) := by decide +kernel
theorem dX7_decode_68 : decode cX7_decode 68 = .ok (.ireturn, 1) := by decide +kernel
theorem dX7_decode_69 : decode cX7_decode 69 = .ok (.iinc 3 1, 3) := by decide +kernel
theorem dX7_decode_72 : decode cX7_decode 72 = .ok (.goto (-47), 3) := by decide +kernel
theorem dX7_decode_75 : decode cX7_decode 75 = .ok (.iconst (-1), 1) := by decide +kernel
theorem dX7_decode_76 : decode cX7_decode 76 = .ok (.ireturn, 1) := by decide +kernel
set_option maxRecDepth 20000 in
theorem ggX7_send_X7_isSign : GoodIn wsX7_send wsX7_isSign := goodIn_r _ [8] (by decide +kernel) (by decide +kernel)
set_option maxRecDepth 20000 in
theorem gX7_send_X7_isSign : GoodIn wsX7_send (va_wsS RX7 68 yX7_isSign wsX7_isSign) := goodIn_app (goodIn_of _ (by decide +kernel)) ggX7_send_X7_isSign
set_option maxRecDepth 20000 in
theorem ggX7_send_X7_groupOf : GoodIn wsX7_send wsX7_groupOf := goodIn_r _ [12, 13, 14, 15, 16, 17, 7, 18, 19, 20, 21, 22, 23, 24, 28, 29, 30, 31, 32, 33, 34, 35, 36, 37, 38, 39, 40, 41, 42, 43, 44, 45, 46, 47, 48, 49, 50, 51, 52, 53, 54, 55, 56, 57, 58, 59] (by decide +kernel) (by decide +kernel)
set_option maxRecDepth 20000 in
theorem gX7_send_X7_groupOf : GoodIn wsX7_send (wsV RX7 64 RX7 yX7_groupOf wsX7_groupOf) := goodIn_app (goodIn_of _ (by decide +kernel)) ggX7_send_X7_groupOf
set_option maxRecDepth 20000 in
theorem ggX7_send_X7_behindGroup : GoodIn wsX7_send wsX7_behindGroup := goodIn_r _ [27, 19, 20, 7, 21, 22, 23, 24] (by decide +kernel) (by decide +kernel)
set_option maxRecDepth 20000 in
theorem gX7_send_X7_behindGroup : GoodIn wsX7_send (va_wsS RX7 72 yX7_behindGroup wsX7_behindGroup) := goodIn_app (goodIn_of _ (by decide +kernel)) ggX7_send_X7_behindGroup
theorem dX7_send_0 : decode cX7_send 0 = .ok (.iload_n 1, 1) := by decide +kernel
theorem dX7_send_1 : decode cX7_send 1 = .ok (.ifCond .lt 34, 3) := by decide +kernel
theorem dX7_send_4 : decode cX7_send 4 = .ok (.iload_n 1, 1) := by decide +kernel
theorem dX7_send_5 : decode cX7_send 5 = .ok (.sipush 255, 3) := by decide +kernel
theorem dX7_send_8 : decode cX7_send 8 = .ok (.if_icmp .gt 27, 3) := by decide +kernel
theorem dX7_send_11 : decode cX7_send 11 = .ok (.iload_n 2, 1) := by decide +kernel
theorem dX7_send_12 : decode cX7_send 12 = .ok (.ifCond .eq 10, 3) := by decide +kernel
theorem dX7_send_15 : decode cX7_send 15 = .ok (.iload_n 1, 1) := by decide +kernel
theorem dX7_send_16 : decode cX7_send 16 = .ok (.invokestatic 68, 3) := by decide +kernel
theorem dX7_send_19 : decode cX7_send 19 = .ok (.ifCond .eq 16, 3) := by decide +kernel
theorem dX7_send_22 : decode cX7_send 22 = .ok (.aload_n 0, 1) := by decide +kernel
theorem dX7_send_23 : decode cX7_send 23 = .ok (.getfield 49, 3) := by decide +kernel
theorem dX7_send_26 : decode cX7_send 26 = .ok (.bipush 10, 2) := by decide +kernel
theorem dX7_send_28 : decode cX7_send 28 = .ok (.iadd, 1) := by decide +kernel
theorem dX7_send_29 : decode cX7_send 29 = .ok (.sipush 8000, 3) := by decide +kernel
theorem dX7_send_32 : decode cX7_send 32 = .ok (.if_icmp .le 5, 3) := by decide +kernel
theorem dX7_send_35 : decode cX7_send 35 = .ok (.iconst (-1), 1) := by decide +kernel
theorem dX7_send_36 : decode cX7_send 36 = .ok (.ireturn, 1) := by decide +kernel
theorem dX7_send_37 : decode cX7_send 37 = .ok (.aload_n 0, 1) := by decide +kernel
theorem dX7_send_38 : decode cX7_send 38 = .ok (.iload_n 1, 1) := by decide +kernel
theorem dX7_send_39 : decode cX7_send 39 = .ok (.iload_n 2, 1) := by decide +kernel
theorem dX7_send_40 : decode cX7_send 40 = .ok (.aload_n 0, 1) := by decide +kernel
theorem dX7_send_41 : decode cX7_send 41 = .ok (.getfield 26, 3) := by decide +kernel
theorem dX7_send_44 : decode cX7_send 44 = .ok (.invokevirtual 64, 3) := by decide +kernel
theorem dX7_send_47 : decode cX7_send 47 = .ok (.istore_n 3, 1) := by decide +kernel
theorem dX7_send_48 : decode cX7_send 48 = .ok (.bipush 9, 2) := by decide +kernel
theorem dX7_send_50 : decode cX7_send 50 = .ok (.istore 4, 2) := by decide +kernel
theorem dX7_send_52 : decode cX7_send 52 = .ok (.iload 4, 2) := by decide +kernel
theorem dX7_send_54 : decode cX7_send 54 = .ok (.ifCond .lt 35, 3) := by decide +kernel
theorem dX7_send_57 : decode cX7_send 57 = .ok (.aload_n 0, 1) := by decide +kernel
theorem dX7_send_58 : decode cX7_send 58 = .ok (.getfield 19, 3) := by decide +kernel
theorem dX7_send_61 : decode cX7_send 61 = .ok (.aload_n 0, 1) := by decide +kernel
theorem dX7_send_62 : decode cX7_send 62 = .ok (.getfield 49, 3) := by decide +kernel
theorem dX7_send_65 : decode cX7_send 65 = .ok (.iload_n 3, 1) := by decide +kernel
theorem dX7_send_66 : decode cX7_send 66 = .ok (.iload 4, 2) := by decide +kernel
theorem dX7_send_68 : decode cX7_send 68 = .ok (.ishr, 1) := by decide +kernel
theorem dX7_send_69 : decode cX7_send 69 = .ok (.iconst 1, 1) := by decide +kernel
theorem dX7_send_70 : decode cX7_send 70 = .ok (.iand, 1) := by decide +kernel
theorem dX7_send_71 : decode cX7_send 71 = .ok (.i2b, 1) := by decide +kernel
theorem dX7_send_72 : decode cX7_send 72 = .ok (.bastore, 1) := by decide +kernel
theorem dX7_send_73 : decode cX7_send 73 = .ok (.aload_n 0, 1) := by decide +kernel
theorem dX7_send_74 : decode cX7_send 74 = .ok (.dup, 1) := by decide +kernel
theorem dX7_send_75 : decode cX7_send 75 = .ok (.getfield 49, 3) := by decide +kernel
theorem dX7_send_78 : decode cX7_send 78 = .ok (.iconst 1, 1) := by decide +kernel
theorem dX7_send_79 : decode cX7_send 79 = .ok (.iadd, 1) := by decide +kernel
theorem dX7_send_80 : decode cX7_send 80 = .ok (.putfield 49, 3) := by decide +kernel
theorem dX7_send_83 : decode cX7_send 83 = .ok (.iinc 4 (-1), 3) := by decide +kernel
theorem dX7_send_86 : decode cX7_send 86 = .ok (.goto (-34), 3) := by decide +kernel
theorem dX7_send_89 : decode cX7_send 89 = .ok (.aload_n 0, 1) := by decide +kernel
theorem dX7_send_90 : decode cX7_send 90 = .ok (.iload_n 3, 1) := by decide +kernel
theorem dX7_send_91 : decode cX7_send 91 = .ok (.aload_n 0, 1) := by decide +kernel
theorem dX7_send_92 : decode cX7_send 92 = .ok (.getfield 26, 3) := by decide +kernel
theorem dX7_send_95 : decode cX7_send 95 = .ok (.invokestatic 72, 3) := by decide +kernel
theorem dX7_send_98 : decode cX7_send 98 = .ok (.putfield 26, 3) := by decide +kernel
theorem dX7_send_101 : decode cX7_send 101 = .ok (.aload_n 0, 1) := by decide +kernel
theorem dX7_send_102 : decode cX7_send 102 = .ok (.dup, 1) := by decide +kernel
theorem dX7_send_103 : decode cX7_send 103 = .ok (.getfield 76, 3) := by decide +kernel
theorem dX7_send_106 : decode cX7_send 106 = .ok (.iconst 1, 1) := by decide +kernel
theorem dX7_send_107 : decode cX7_send 107 = .ok (.iadd, 1) := by decide +kernel
theorem dX7_send_108 : decode cX7_send 108 = .ok (.putfield 76, 3) := by decide +kernel
theorem dX7_send_111 : decode cX7_send 111 = .ok (.iload_n 3, 1) := by decide +kernel
theorem dX7_send_112 : decode cX7_send 112 = .ok (.ireturn, 1) := by decide +kernel
set_option maxRecDepth 20000 in
theorem ggX7_idle_X7_send : GoodIn wsX7_idle wsX7_send := goodIn_r _ [7, 1, 2, 8, 9, 10, 11, 6, 12, 13, 14, 15, 16, 17, 18, 19, 20, 21, 22, 23, 24, 25, 26, 27, 28, 29, 30, 31, 32, 33, 34, 35, 36, 37, 38, 39, 40, 41, 42, 43, 44, 45, 46, 47, 48, 49, 50, 51, 52, 53, 54, 55, 56, 57, 58, 59, 60, 61, 62, 63] (by decide +kernel) (by decide +kernel)
set_option maxRecDepth 20000 in
theorem gX7_idle_X7_send : GoodIn wsX7_idle (wsV RX7 79 RX7 yX7_send wsX7_send) := goodIn_app (goodIn_of _ (by decide +kernel)) ggX7_idle_X7_send
theorem dX7_idle_0 : decode cX7_idle 0 = .ok (.aload_n 0, 1) := by decide +kernel
theorem dX7_idle_1 : decode cX7_idle 1 = .ok (.getfield 49, 3) := by decide +kernel
theorem dX7_idle_4 : decode cX7_idle 4 = .ok (.bipush 20, 2) := by decide +kernel
theorem dX7_idle_6 : decode cX7_idle 6 = .ok (.iadd, 1) := by decide +kernel
theorem dX7_idle_7 : decode cX7_idle 7 = .ok (.sipush 8000, 3) := by decide +kernel
theorem dX7_idle_10 : decode cX7_idle 10 = .ok (.if_icmp .le 5, 3) := by decide +kernel
theorem dX7_idle_13 : decode cX7_idle 13 = .ok (.iconst 0, 1) := by decide +kernel
theorem dX7_idle_14 : decode cX7_idle 14 = .ok (.ireturn, 1) := by decide +kernel
theorem dX7_idle_15 : decode cX7_idle 15 = .ok (.aload_n 0, 1) := by decide +kernel
theorem dX7_idle_16 : decode cX7_idle 16 = .ok (.getfield 26, 3) := by decide +kernel
theorem dX7_idle_19 : decode cX7_idle 19 = .ok (.istore_n 1, 1) := by decide +kernel
theorem dX7_idle_20 : decode cX7_idle 20 = .ok (.aload_n 0, 1) := by decide +kernel
theorem dX7_idle_21 : decode cX7_idle 21 = .ok (.sipush 188, 3) := by decide +kernel
theorem dX7_idle_24 : decode cX7_idle 24 = .ok (.iconst 1, 1) := by decide +kernel
theorem dX7_idle_25 : decode cX7_idle 25 = .ok (.invokevirtual 79, 3) := by decide +kernel
theorem dX7_idle_28 : decode cX7_idle 28 = .ok (.pop, 1) := by decide +kernel
theorem dX7_idle_29 : decode cX7_idle 29 = .ok (.aload_n 0, 1) := by decide +kernel
theorem dX7_idle_30 : decode cX7_idle 30 = .ok (.iload_n 1, 1) := by decide +kernel
theorem dX7_idle_31 : decode cX7_idle 31 = .ok (.ifCond .le 9, 3) := by decide +kernel
theorem dX7_idle_34 : decode cX7_idle 34 = .ok (.sipush 197, 3) := by decide +kernel
theorem dX7_idle_37 : decode cX7_idle 37 = .ok (.goto 5, 3) := by decide +kernel
theorem dX7_idle_40 : decode cX7_idle 40 = .ok (.bipush 80, 2) := by decide +kernel
theorem dX7_idle_42 : decode cX7_idle 42 = .ok (.iconst 0, 1) := by decide +kernel
theorem dX7_idle_43 : decode cX7_idle 43 = .ok (.invokevirtual 79, 3) := by decide +kernel
theorem dX7_idle_46 : decode cX7_idle 46 = .ok (.pop, 1) := by decide +kernel
theorem dX7_idle_47 : decode cX7_idle 47 = .ok (.iconst 1, 1) := by decide +kernel
theorem dX7_idle_48 : decode cX7_idle 48 = .ok (.ireturn, 1) := by decide +kernel
theorem dX7_feed_0 : decode cX7_feed 0 = .ok (.iload_n 1, 1) := by decide +kernel
theorem dX7_feed_1 : decode cX7_feed 1 = .ok (.ifCond .lt 20, 3) := by decide +kernel
theorem dX7_feed_4 : decode cX7_feed 4 = .ok (.iload_n 1, 1) := by decide +kernel
theorem dX7_feed_5 : decode cX7_feed 5 = .ok (.sipush 255, 3) := by decide +kernel
theorem dX7_feed_8 : decode cX7_feed 8 = .ok (.if_icmp .gt 13, 3) := by decide +kernel
theorem dX7_feed_11 : decode cX7_feed 11 = .ok (.aload_n 0, 1) := by decide +kernel
theorem dX7_feed_12 : decode cX7_feed 12 = .ok (.getfield 83, 3) := by decide +kernel
theorem dX7_feed_15 : decode cX7_feed 15 = .ok (.sipush 400, 3) := by decide +kernel
theorem dX7_feed_18 : decode cX7_feed 18 = .ok (.if_icmp .ne 5, 3) := by decide +kernel
theorem dX7_feed_21 : decode cX7_feed 21 = .ok (.iconst 0, 1) := by decide +kernel
theorem dX7_feed_22 : decode cX7_feed 22 = .ok (.ireturn, 1) := by decide +kernel
theorem dX7_feed_23 : decode cX7_feed 23 = .ok (.aload_n 0, 1) := by decide +kernel
theorem dX7_feed_24 : decode cX7_feed 24 = .ok (.getfield 23, 3) := by decide +kernel
theorem dX7_feed_27 : decode cX7_feed 27 = .ok (.aload_n 0, 1) := by decide +kernel
theorem dX7_feed_28 : decode cX7_feed 28 = .ok (.getfield 83, 3) := by decide +kernel
theorem dX7_feed_31 : decode cX7_feed 31 = .ok (.iload_n 1, 1) := by decide +kernel
theorem dX7_feed_32 : decode cX7_feed 32 = .ok (.i2b, 1) := by decide +kernel
theorem dX7_feed_33 : decode cX7_feed 33 = .ok (.bastore, 1) := by decide +kernel
theorem dX7_feed_34 : decode cX7_feed 34 = .ok (.aload_n 0, 1) := by decide +kernel
theorem dX7_feed_35 : decode cX7_feed 35 = .ok (.dup, 1) := by decide +kernel
theorem dX7_feed_36 : decode cX7_feed 36 = .ok (.getfield 83, 3) := by decide +kernel
theorem dX7_feed_39 : decode cX7_feed 39 = .ok (.iconst 1, 1) := by decide +kernel
theorem dX7_feed_40 : decode cX7_feed 40 = .ok (.iadd, 1) := by decide +kernel
theorem dX7_feed_41 : decode cX7_feed 41 = .ok (.putfield 83, 3) := by decide +kernel
theorem dX7_feed_44 : decode cX7_feed 44 = .ok (.iconst 1, 1) := by decide +kernel
theorem dX7_feed_45 : decode cX7_feed 45 = .ok (.ireturn, 1) := by decide +kernel
set_option maxRecDepth 20000 in
theorem ggX7_frame_X7_send : GoodIn wsX7_frame wsX7_send := goodIn_r _ [9, 3, 10, 11, 2, 12, 13, 8, 14, 15, 16, 17, 18, 19, 20, 21, 22, 23, 24, 25, 26, 27, 28, 29, 30, 31, 32, 33, 34, 35, 36, 37, 38, 39, 40, 41, 42, 43, 44, 45, 46, 47, 48, 49, 50, 51, 52, 53, 54, 55, 56, 57, 58, 59, 60, 61, 62, 63, 64, 65] (by decide +kernel) (by decide +kernel)
set_option maxRecDepth 20000 in
theorem gX7_frame_X7_send : GoodIn wsX7_frame (wsV RX7 79 RX7 yX7_send wsX7_send) := goodIn_app (goodIn_of _ (by decide +kernel)) ggX7_frame_X7_send
theorem dX7_frame_0 : decode cX7_frame 0 = .ok (.aload_n 0, 1) := by decide +kernel
theorem dX7_frame_1 : decode cX7_frame 1 = .ok (.getfield 83, 3) := by decide +kernel
theorem dX7_frame_4 : decode cX7_frame 4 = .ok (.iconst 3, 1) := by decide +kernel
theorem dX7_frame_5 : decode cX7_frame 5 = .ok (.iadd, 1) := by decide +kernel
theorem dX7_frame_6 : decode cX7_frame 6 = .ok (.istore_n 1, 1) := by decide +kernel
theorem dX7_frame_7 : decode cX7_frame 7 = .ok (.iload_n 1, 1) := by decide +kernel
theorem dX7_frame_8 : decode cX7_frame 8 = .ok (.aload_n 0, 1) := by decide +kernel
theorem dX7_frame_9 : decode cX7_frame 9 = .ok (.getfield 76, 3) := by decide +kernel
theorem dX7_frame_12 : decode cX7_frame 12 = .ok (.iload_n 1, 1) := by decide +kernel
theorem dX7_frame_13 : decode cX7_frame 13 = .ok (.iadd, 1) := by decide +kernel
theorem dX7_frame_14 : decode cX7_frame 14 = .ok (.iconst 2, 1) := by decide +kernel
theorem dX7_frame_15 : decode cX7_frame 15 = .ok (.irem, 1) := by decide +kernel
theorem dX7_frame_16 : decode cX7_frame 16 = .ok (.iadd, 1) := by decide +kernel
theorem dX7_frame_17 : decode cX7_frame 17 = .ok (.istore_n 1, 1) := by decide +kernel
theorem dX7_frame_18 : decode cX7_frame 18 = .ok (.aload_n 0, 1) := by decide +kernel
theorem dX7_frame_19 : decode cX7_frame 19 = .ok (.getfield 49, 3) := by decide +kernel
theorem dX7_frame_22 : decode cX7_frame 22 = .ok (.bipush 10, 2) := by decide +kernel
theorem dX7_frame_24 : decode cX7_frame 24 = .ok (.iload_n 1, 1) := by decide +kernel
theorem dX7_frame_25 : decode cX7_frame 25 = .ok (.imul, 1) := by decide +kernel
theorem dX7_frame_26 : decode cX7_frame 26 = .ok (.iadd, 1) := by decide +kernel
theorem dX7_frame_27 : decode cX7_frame 27 = .ok (.sipush 8000, 3) := by decide +kernel
theorem dX7_frame_30 : decode cX7_frame 30 = .ok (.if_icmp .le 5, 3) := by decide +kernel
theorem dX7_frame_33 : decode cX7_frame 33 = .ok (.iconst (-1), 1) := by decide +kernel
theorem dX7_frame_34 : decode cX7_frame 34 = .ok (.ireturn, 1) := by decide +kernel
theorem dX7_frame_35 : decode cX7_frame 35 = .ok (.aload_n 0, 1) := by decide +kernel
theorem dX7_frame_36 : decode cX7_frame 36 = .ok (.sipush 251, 3) := by decide +kernel
theorem dX7_frame_39 : decode cX7_frame 39 = .ok (.iconst 1, 1) := by decide +kernel
theorem dX7_frame_40 : decode cX7_frame 40 = .ok (.invokevirtual 79, 3) := by decide +kernel
theorem dX7_frame_43 : decode cX7_frame 43 = .ok (.pop, 1) := by decide +kernel
theorem dX7_frame_44 : decode cX7_frame 44 = .ok (.iconst 0, 1) := by decide +kernel
theorem dX7_frame_45 : decode cX7_frame 45 = .ok (.istore_n 2, 1) := by decide +kernel
theorem dX7_frame_46 : decode cX7_frame 46 = .ok (.iload_n 2, 1) := by decide +kernel
theorem dX7_frame_47 : decode cX7_frame 47 = .ok (.aload_n 0, 1) := by decide +kernel
theorem dX7_frame_48 : decode cX7_frame 48 = .ok (.getfield 83, 3) := by decide +kernel
theorem dX7_frame_51 : decode cX7_frame 51 = .ok (.if_icmp .ge 25, 3) := by decide +kernel
theorem dX7_frame_54 : decode cX7_frame 54 = .ok (.aload_n 0, 1) := by decide +kernel
theorem dX7_frame_55 : decode cX7_frame 55 = .ok (.aload_n 0, 1) := by decide +kernel
theorem dX7_frame_56 : decode cX7_frame 56 = .ok (.getfield 23, 3) := by decide +kernel
theorem dX7_frame_59 : decode cX7_frame 59 = .ok (.iload_n 2, 1) := by decide +kernel
theorem dX7_frame_60 : decode cX7_frame 60 = .ok (.baload, 1) := by decide +kernel
theorem dX7_frame_61 : decode cX7_frame 61 = .ok (.sipush 255, 3) := by decide +kernel
theorem dX7_frame_64 : decode cX7_frame 64 = .ok (.iand, 1) := by decide +kernel
theorem dX7_frame_65 : decode cX7_frame 65 = .ok (.iconst 0, 1) := by decide +kernel
theorem dX7_frame_66 : decode cX7_frame 66 = .ok (.invokevirtual 79, 3) := by decide +kernel
theorem dX7_frame_69 : decode cX7_frame 69 = .ok (.pop, 1) := by decide +kernel
theorem dX7_frame_70 : decode cX7_frame 70 = .ok (.iinc 2 1, 3) := by decide +kernel
theorem dX7_frame_73 : decode cX7_frame 73 = .ok (.goto (-27), 3) := by decide +kernel
theorem dX7_frame_76 : decode cX7_frame 76 = .ok (.aload_n 0, 1) := by decide +kernel
theorem dX7_frame_77 : decode cX7_frame 77 = .ok (.sipush 253, 3) := by decide +kernel
theorem dX7_frame_80 : decode cX7_frame 80 = .ok (.iconst 1, 1) := by decide +kernel
theorem dX7_frame_81 : decode cX7_frame 81 = .ok (.invokevirtual 79, 3) := by decide +kernel
theorem dX7_frame_84 : decode cX7_frame 84 = .ok (.pop, 1) := by decide +kernel
theorem dX7_frame_85 : decode cX7_frame 85 = .ok (.aload_n 0, 1) := by decide +kernel
theorem dX7_frame_86 : decode cX7_frame 86 = .ok (.sipush 247, 3) := by decide +kernel
theorem dX7_frame_89 : decode cX7_frame 89 = .ok (.iconst 1, 1) := by decide +kernel
theorem dX7_frame_90 : decode cX7_frame 90 = .ok (.invokevirtual 79, 3) := by decide +kernel
theorem dX7_frame_93 : decode cX7_frame 93 = .ok (.pop, 1) := by decide +kernel
theorem dX7_frame_94 : decode cX7_frame 94 = .ok (.iload_n 1, 1) := by decide +kernel
theorem dX7_frame_95 : decode cX7_frame 95 = .ok (.aload_n 0, 1) := by decide +kernel
theorem dX7_frame_96 : decode cX7_frame 96 = .ok (.getfield 83, 3) := by decide +kernel
theorem dX7_frame_99 : decode cX7_frame 99 = .ok (.iconst 3, 1) := by decide +kernel
theorem dX7_frame_100 : decode cX7_frame 100 = .ok (.iadd, 1) := by decide +kernel
theorem dX7_frame_101 : decode cX7_frame 101 = .ok (.if_icmp .le 12, 3) := by decide +kernel
theorem dX7_frame_104 : decode cX7_frame 104 = .ok (.aload_n 0, 1) := by decide +kernel
theorem dX7_frame_105 : decode cX7_frame 105 = .ok (.sipush 247, 3) := by decide +kernel
theorem dX7_frame_108 : decode cX7_frame 108 = .ok (.iconst 1, 1) := by decide +kernel
theorem dX7_frame_109 : decode cX7_frame 109 = .ok (.invokevirtual 79, 3) := by decide +kernel
theorem dX7_frame_112 : decode cX7_frame 112 = .ok (.pop, 1) := by decide +kernel
theorem dX7_frame_113 : decode cX7_frame 113 = .ok (.aload_n 0, 1) := by decide +kernel
theorem dX7_frame_114 : decode cX7_frame 114 = .ok (.iconst 0, 1) := by decide +kernel
theorem dX7_frame_115 : decode cX7_frame 115 = .ok (.putfield 83, 3) := by decide +kernel
theorem dX7_frame_118 : decode cX7_frame 118 = .ok (.iload_n 1, 1) := by decide +kernel
theorem dX7_frame_119 : decode cX7_frame 119 = .ok (.ireturn, 1) := by decide +kernel
theorem dX7_bit_0 : decode cX7_bit 0 = .ok (.iload_n 1, 1) := by decide +kernel
theorem dX7_bit_1 : decode cX7_bit 1 = .ok (.ifCond .lt 18, 3) := by decide +kernel
theorem dX7_bit_4 : decode cX7_bit 4 = .ok (.iload_n 1, 1) := by decide +kernel
theorem dX7_bit_5 : decode cX7_bit 5 = .ok (.iconst 1, 1) := by decide +kernel
theorem dX7_bit_6 : decode cX7_bit 6 = .ok (.if_icmp .gt 13, 3) := by decide +kernel
theorem dX7_bit_9 : decode cX7_bit 9 = .ok (.aload_n 0, 1) := by decide +kernel
theorem dX7_bit_10 : decode cX7_bit 10 = .ok (.getfield 49, 3) := by decide +kernel
theorem dX7_bit_13 : decode cX7_bit 13 = .ok (.sipush 8000, 3) := by decide +kernel
theorem dX7_bit_16 : decode cX7_bit 16 = .ok (.if_icmp .ne 5, 3) := by decide +kernel
theorem dX7_bit_19 : decode cX7_bit 19 = .ok (.iconst 0, 1) := by decide +kernel
theorem dX7_bit_20 : decode cX7_bit 20 = .ok (.ireturn, 1) := by decide +kernel
theorem dX7_bit_21 : decode cX7_bit 21 = .ok (.aload_n 0, 1) := by decide +kernel
theorem dX7_bit_22 : decode cX7_bit 22 = .ok (.getfield 19, 3) := by decide +kernel
theorem dX7_bit_25 : decode cX7_bit 25 = .ok (.aload_n 0, 1) := by decide +kernel
theorem dX7_bit_26 : decode cX7_bit 26 = .ok (.getfield 49, 3) := by decide +kernel
theorem dX7_bit_29 : decode cX7_bit 29 = .ok (.iload_n 1, 1) := by decide +kernel
theorem dX7_bit_30 : decode cX7_bit 30 = .ok (.i2b, 1) := by decide +kernel
theorem dX7_bit_31 : decode cX7_bit 31 = .ok (.bastore, 1) := by decide +kernel
theorem dX7_bit_32 : decode cX7_bit 32 = .ok (.aload_n 0, 1) := by decide +kernel
theorem dX7_bit_33 : decode cX7_bit 33 = .ok (.dup, 1) := by decide +kernel
theorem dX7_bit_34 : decode cX7_bit 34 = .ok (.getfield 49, 3) := by decide +kernel
theorem dX7_bit_37 : decode cX7_bit 37 = .ok (.iconst 1, 1) := by decide +kernel
theorem dX7_bit_38 : decode cX7_bit 38 = .ok (.iadd, 1) := by decide +kernel
theorem dX7_bit_39 : decode cX7_bit 39 = .ok (.putfield 49, 3) := by decide +kernel
theorem dX7_bit_42 : decode cX7_bit 42 = .ok (.iconst 1, 1) := by decide +kernel
theorem dX7_bit_43 : decode cX7_bit 43 = .ok (.ireturn, 1) := by decide +kernel
theorem dX7_turn_0 : decode cX7_turn 0 = .ok (.iload_n 1, 1) := by decide +kernel
theorem dX7_turn_1 : decode cX7_turn 1 = .ok (.ifCond .lt 11, 3) := by decide +kernel
theorem dX7_turn_4 : decode cX7_turn 4 = .ok (.iload_n 1, 1) := by decide +kernel
theorem dX7_turn_5 : decode cX7_turn 5 = .ok (.aload_n 0, 1) := by decide +kernel
theorem dX7_turn_6 : decode cX7_turn 6 = .ok (.getfield 49, 3) := by decide +kernel
theorem dX7_turn_9 : decode cX7_turn 9 = .ok (.if_icmp .lt 5, 3) := by decide +kernel
theorem dX7_turn_12 : decode cX7_turn 12 = .ok (.iconst 0, 1) := by decide +kernel
theorem dX7_turn_13 : decode cX7_turn 13 = .ok (.ireturn, 1) := by decide +kernel
theorem dX7_turn_14 : decode cX7_turn 14 = .ok (.aload_n 0, 1) := by decide +kernel
theorem dX7_turn_15 : decode cX7_turn 15 = .ok (.getfield 19, 3) := by decide +kernel
theorem dX7_turn_18 : decode cX7_turn 18 = .ok (.iload_n 1, 1) := by decide +kernel
theorem dX7_turn_19 : decode cX7_turn 19 = .ok (.iconst 1, 1) := by decide +kernel
theorem dX7_turn_20 : decode cX7_turn 20 = .ok (.aload_n 0, 1) := by decide +kernel
theorem dX7_turn_21 : decode cX7_turn 21 = .ok (.getfield 19, 3) := by decide +kernel
theorem dX7_turn_24 : decode cX7_turn 24 = .ok (.iload_n 1, 1) := by decide +kernel
theorem dX7_turn_25 : decode cX7_turn 25 = .ok (.baload, 1) := by decide +kernel
theorem dX7_turn_26 : decode cX7_turn 26 = .ok (.isub, 1) := by decide +kernel
theorem dX7_turn_27 : decode cX7_turn 27 = .ok (.i2b, 1) := by decide +kernel
theorem dX7_turn_28 : decode cX7_turn 28 = .ok (.bastore, 1) := by decide +kernel
theorem dX7_turn_29 : decode cX7_turn 29 = .ok (.iconst 1, 1) := by decide +kernel
theorem dX7_turn_30 : decode cX7_turn 30 = .ok (.ireturn, 1) := by decide +kernel
theorem dX7_drop_0 : decode cX7_drop 0 = .ok (.iload_n 1, 1) := by decide +kernel
theorem dX7_drop_1 : decode cX7_drop 1 = .ok (.ifCond .lt 11, 3) := by decide +kernel
theorem dX7_drop_4 : decode cX7_drop 4 = .ok (.iload_n 1, 1) := by decide +kernel
theorem dX7_drop_5 : decode cX7_drop 5 = .ok (.aload_n 0, 1) := by decide +kernel
theorem dX7_drop_6 : decode cX7_drop 6 = .ok (.getfield 49, 3) := by decide +kernel
theorem dX7_drop_9 : decode cX7_drop 9 = .ok (.if_icmp .lt 5, 3) := by decide +kernel
theorem dX7_drop_12 : decode cX7_drop 12 = .ok (.iconst 0, 1) := by decide +kernel
theorem dX7_drop_13 : decode cX7_drop 13 = .ok (.ireturn, 1) := by decide +kernel
theorem dX7_drop_14 : decode cX7_drop 14 = .ok (.aload_n 0, 1) := by decide +kernel
theorem dX7_drop_15 : decode cX7_drop 15 = .ok (.dup, 1) := by decide +kernel
theorem dX7_drop_16 : decode cX7_drop 16 = .ok (.getfield 49, 3) := by decide +kernel
theorem dX7_drop_19 : decode cX7_drop 19 = .ok (.iconst 1, 1) := by decide +kernel
theorem dX7_drop_20 : decode cX7_drop 20 = .ok (.isub, 1) := by decide +kernel
theorem dX7_drop_21 : decode cX7_drop 21 = .ok (.putfield 49, 3) := by decide +kernel
theorem dX7_drop_24 : decode cX7_drop 24 = .ok (.iload_n 1, 1) := by decide +kernel
theorem dX7_drop_25 : decode cX7_drop 25 = .ok (.istore_n 2, 1) := by decide +kernel
theorem dX7_drop_26 : decode cX7_drop 26 = .ok (.iload_n 2, 1) := by decide +kernel
theorem dX7_drop_27 : decode cX7_drop 27 = .ok (.aload_n 0, 1) := by decide +kernel
theorem dX7_drop_28 : decode cX7_drop 28 = .ok (.getfield 49, 3) := by decide +kernel
theorem dX7_drop_31 : decode cX7_drop 31 = .ok (.if_icmp .ge 23, 3) := by decide +kernel
theorem dX7_drop_34 : decode cX7_drop 34 = .ok (.aload_n 0, 1) := by decide +kernel
theorem dX7_drop_35 : decode cX7_drop 35 = .ok (.getfield 19, 3) := by decide +kernel
theorem dX7_drop_38 : decode cX7_drop 38 = .ok (.iload_n 2, 1) := by decide +kernel
theorem dX7_drop_39 : decode cX7_drop 39 = .ok (.aload_n 0, 1) := by decide +kernel
theorem dX7_drop_40 : decode cX7_drop 40 = .ok (.getfield 19, 3) := by decide +kernel
theorem dX7_drop_43 : decode cX7_drop 43 = .ok (.iload_n 2, 1) := by decide +kernel
theorem dX7_drop_44 : decode cX7_drop 44 = .ok (.iconst 1, 1) := by decide +kernel
theorem dX7_drop_45 : decode cX7_drop 45 = .ok (.iadd, 1) := by decide +kernel
theorem dX7_drop_46 : decode cX7_drop 46 = .ok (.baload, 1) := by decide +kernel
theorem dX7_drop_47 : decode cX7_drop 47 = .ok (.bastore, 1) := by decide +kernel
theorem dX7_drop_48 : decode cX7_drop 48 = .ok (.iinc 2 1, 3) := by decide +kernel
theorem dX7_drop_51 : decode cX7_drop 51 = .ok (.goto (-25), 3) := by decide +kernel
theorem dX7_drop_54 : decode cX7_drop 54 = .ok (.iconst 1, 1) := by decide +kernel
theorem dX7_drop_55 : decode cX7_drop 55 = .ok (.ireturn, 1) := by decide +kernel
theorem dX7_line_0 : decode cX7_line 0 = .ok (.iload_n 1, 1) := by decide +kernel
theorem dX7_line_1 : decode cX7_line 1 = .ok (.ifCond .lt 20, 3) := by decide +kernel
theorem dX7_line_4 : decode cX7_line 4 = .ok (.iload_n 1, 1) := by decide +kernel
theorem dX7_line_5 : decode cX7_line 5 = .ok (.aload_n 0, 1) := by decide +kernel
theorem dX7_line_6 : decode cX7_line 6 = .ok (.getfield 49, 3) := by decide +kernel
theorem dX7_line_9 : decode cX7_line 9 = .ok (.if_icmp .ge 12, 3) := by decide +kernel
theorem dX7_line_12 : decode cX7_line 12 = .ok (.aload_n 0, 1) := by decide +kernel
theorem dX7_line_13 : decode cX7_line 13 = .ok (.getfield 19, 3) := by decide +kernel
theorem dX7_line_16 : decode cX7_line 16 = .ok (.iload_n 1, 1) := by decide +kernel
theorem dX7_line_17 : decode cX7_line 17 = .ok (.baload, 1) := by decide +kernel
theorem dX7_line_18 : decode cX7_line 18 = .ok (.goto 4, 3) := by decide +kernel
theorem dX7_line_21 : decode cX7_line 21 = .ok (.iconst (-1), 1) := by decide +kernel
theorem dX7_line_22 : decode cX7_line 22 = .ok (.ireturn, 1) := by decide +kernel
theorem dX7_size_0 : decode cX7_size 0 = .ok (.aload_n 0, 1) := by decide +kernel
theorem dX7_size_1 : decode cX7_size 1 = .ok (.getfield 49, 3) := by decide +kernel
theorem dX7_size_4 : decode cX7_size 4 = .ok (.ireturn, 1) := by decide +kernel
theorem dX7_disparity_0 : decode cX7_disparity 0 = .ok (.iload_n 1, 1) := by decide +kernel
theorem dX7_disparity_1 : decode cX7_disparity 1 = .ok (.ifCond .ne 10, 3) := by decide +kernel
theorem dX7_disparity_4 : decode cX7_disparity 4 = .ok (.aload_n 0, 1) := by decide +kernel
theorem dX7_disparity_5 : decode cX7_disparity 5 = .ok (.getfield 26, 3) := by decide +kernel
theorem dX7_disparity_8 : decode cX7_disparity 8 = .ok (.goto 16, 3) := by decide +kernel
theorem dX7_disparity_11 : decode cX7_disparity 11 = .ok (.iload_n 1, 1) := by decide +kernel
theorem dX7_disparity_12 : decode cX7_disparity 12 = .ok (.iconst 1, 1) := by decide +kernel
theorem dX7_disparity_13 : decode cX7_disparity 13 = .ok (.if_icmp .ne 10, 3) := by decide +kernel
theorem dX7_disparity_16 : decode cX7_disparity 16 = .ok (.aload_n 0, 1) := by decide +kernel
theorem dX7_disparity_17 : decode cX7_disparity 17 = .ok (.getfield 30, 3) := by decide +kernel
theorem dX7_disparity_20 : decode cX7_disparity 20 = .ok (.goto 4, 3) := by decide +kernel
theorem dX7_disparity_23 : decode cX7_disparity 23 = .ok (.iconst 0, 1) := by decide +kernel
theorem dX7_disparity_24 : decode cX7_disparity 24 = .ok (.ireturn, 1) := by decide +kernel
set_option maxRecDepth 20000 in
theorem ggX7_take_X7_takeBit : GoodIn wsX7_take wsX7_takeBit := goodIn_r _ [7, 8, 9, 10, 11, 12, 13, 14, 6, 15, 16, 17, 18, 19, 20, 21, 22, 23, 24, 25, 26, 27, 28, 29, 30, 31, 32, 33, 34, 35, 36, 37, 38, 39, 40, 41, 42, 43, 44, 45, 46, 47, 48, 49, 50, 51, 52, 53, 54, 55, 56, 57, 58, 59, 60, 61, 62, 63, 64, 65, 66, 67, 68, 69, 70, 71, 72, 73, 74, 75, 76, 77, 78, 79, 80, 81, 82, 83, 84, 85, 86, 87, 88, 89, 90, 91, 92, 93, 94, 95, 96, 97, 98, 99, 100, 101, 102, 103, 104, 105, 106, 107] (by decide +kernel) (by decide +kernel)
set_option maxRecDepth 20000 in
theorem gX7_take_X7_takeBit : GoodIn wsX7_take (wsV RX7 86 RX7 yX7_takeBit wsX7_takeBit) := goodIn_app (goodIn_of _ (by decide +kernel)) ggX7_take_X7_takeBit
theorem dX7_take_0 : decode cX7_take 0 = .ok (.iload_n 1, 1) := by decide +kernel
theorem dX7_take_1 : decode cX7_take 1 = .ok (.ifCond .lt 10, 3) := by decide +kernel
theorem dX7_take_4 : decode cX7_take 4 = .ok (.iload_n 1, 1) := by decide +kernel
theorem dX7_take_5 : decode cX7_take 5 = .ok (.sipush 8000, 3) := by decide +kernel
theorem dX7_take_8 : decode cX7_take 8 = .ok (.if_icmp .le 5, 3) := by decide +kernel
theorem dX7_take_11 : decode cX7_take 11 = .ok (.iconst (-1), 1) := by decide +kernel
theorem dX7_take_12 : decode cX7_take 12 = .ok (.ireturn, 1) := by decide +kernel
theorem dX7_take_13 : decode cX7_take 13 = .ok (.iload_n 1, 1) := by decide +kernel
theorem dX7_take_14 : decode cX7_take 14 = .ok (.aload_n 0, 1) := by decide +kernel
theorem dX7_take_15 : decode cX7_take 15 = .ok (.getfield 49, 3) := by decide +kernel
theorem dX7_take_18 : decode cX7_take 18 = .ok (.if_icmp .ge 7, 3) := by decide +kernel
theorem dX7_take_21 : decode cX7_take 21 = .ok (.iload_n 1, 1) := by decide +kernel
theorem dX7_take_22 : decode cX7_take 22 = .ok (.goto 7, 3) := by decide +kernel
theorem dX7_take_25 : decode cX7_take 25 = .ok (.aload_n 0, 1) := by decide +kernel
theorem dX7_take_26 : decode cX7_take 26 = .ok (.getfield 49, 3) := by decide +kernel
theorem dX7_take_29 : decode cX7_take 29 = .ok (.istore_n 2, 1) := by decide +kernel
theorem dX7_take_30 : decode cX7_take 30 = .ok (.iconst 0, 1) := by decide +kernel
theorem dX7_take_31 : decode cX7_take 31 = .ok (.istore_n 3, 1) := by decide +kernel
theorem dX7_take_32 : decode cX7_take 32 = .ok (.iload_n 3, 1) := by decide +kernel
theorem dX7_take_33 : decode cX7_take 33 = .ok (.iload_n 2, 1) := by decide +kernel
theorem dX7_take_34 : decode cX7_take 34 = .ok (.if_icmp .ge 19, 3) := by decide +kernel
theorem dX7_take_37 : decode cX7_take 37 = .ok (.aload_n 0, 1) := by decide +kernel
theorem dX7_take_38 : decode cX7_take 38 = .ok (.aload_n 0, 1) := by decide +kernel
theorem dX7_take_39 : decode cX7_take 39 = .ok (.getfield 19, 3) := by decide +kernel
theorem dX7_take_42 : decode cX7_take 42 = .ok (.iload_n 3, 1) := by decide +kernel
theorem dX7_take_43 : decode cX7_take 43 = .ok (.baload, 1) := by decide +kernel
theorem dX7_take_44 : decode cX7_take 44 = .ok (.invokevirtual 86, 3) := by decide +kernel
theorem dX7_take_47 : decode cX7_take 47 = .ok (.iinc 3 1, 3) := by decide +kernel
theorem dX7_take_50 : decode cX7_take 50 = .ok (.goto (-18), 3) := by decide +kernel
theorem dX7_take_53 : decode cX7_take 53 = .ok (.aload_n 0, 1) := by decide +kernel
theorem dX7_take_54 : decode cX7_take 54 = .ok (.dup, 1) := by decide +kernel
theorem dX7_take_55 : decode cX7_take 55 = .ok (.getfield 49, 3) := by decide +kernel
theorem dX7_take_58 : decode cX7_take 58 = .ok (.iload_n 2, 1) := by decide +kernel
theorem dX7_take_59 : decode cX7_take 59 = .ok (.isub, 1) := by decide +kernel
theorem dX7_take_60 : decode cX7_take 60 = .ok (.putfield 49, 3) := by decide +kernel
theorem dX7_take_63 : decode cX7_take 63 = .ok (.iconst 0, 1) := by decide +kernel
theorem dX7_take_64 : decode cX7_take 64 = .ok (.istore_n 3, 1) := by decide +kernel
theorem dX7_take_65 : decode cX7_take 65 = .ok (.iload_n 3, 1) := by decide +kernel
theorem dX7_take_66 : decode cX7_take 66 = .ok (.aload_n 0, 1) := by decide +kernel
theorem dX7_take_67 : decode cX7_take 67 = .ok (.getfield 49, 3) := by decide +kernel
theorem dX7_take_70 : decode cX7_take 70 = .ok (.if_icmp .ge 23, 3) := by decide +kernel
theorem dX7_take_73 : decode cX7_take 73 = .ok (.aload_n 0, 1) := by decide +kernel
theorem dX7_take_74 : decode cX7_take 74 = .ok (.getfield 19, 3) := by decide +kernel
theorem dX7_take_77 : decode cX7_take 77 = .ok (.iload_n 3, 1) := by decide +kernel
theorem dX7_take_78 : decode cX7_take 78 = .ok (.aload_n 0, 1) := by decide +kernel
theorem dX7_take_79 : decode cX7_take 79 = .ok (.getfield 19, 3) := by decide +kernel
theorem dX7_take_82 : decode cX7_take 82 = .ok (.iload_n 3, 1) := by decide +kernel
theorem dX7_take_83 : decode cX7_take 83 = .ok (.iload_n 2, 1) := by decide +kernel
theorem dX7_take_84 : decode cX7_take 84 = .ok (.iadd, 1) := by decide +kernel
theorem dX7_take_85 : decode cX7_take 85 = .ok (.baload, 1) := by decide +kernel
theorem dX7_take_86 : decode cX7_take 86 = .ok (.bastore, 1) := by decide +kernel
theorem dX7_take_87 : decode cX7_take 87 = .ok (.iinc 3 1, 3) := by decide +kernel
theorem dX7_take_90 : decode cX7_take 90 = .ok (.goto (-25), 3) := by decide +kernel
theorem dX7_take_93 : decode cX7_take 93 = .ok (.iload_n 2, 1) := by decide +kernel
theorem dX7_take_94 : decode cX7_take 94 = .ok (.ireturn, 1) := by decide +kernel
theorem dX7_isComma_0 : decode cX7_isComma 0 = .ok (.iload_n 0, 1) := by decide +kernel
theorem dX7_isComma_1 : decode cX7_isComma 1 = .ok (.iconst 3, 1) := by decide +kernel
theorem dX7_isComma_2 : decode cX7_isComma 2 = .ok (.ishr, 1) := by decide +kernel
theorem dX7_isComma_3 : decode cX7_isComma 3 = .ok (.bipush 31, 2) := by decide +kernel
theorem dX7_isComma_5 : decode cX7_isComma 5 = .ok (.if_icmp .eq 11, 3) := by decide +kernel
theorem dX7_isComma_8 : decode cX7_isComma 8 = .ok (.iload_n 0, 1) := by decide +kernel
theorem dX7_isComma_9 : decode cX7_isComma 9 = .ok (.iconst 3, 1) := by decide +kernel
theorem dX7_isComma_10 : decode cX7_isComma 10 = .ok (.ishr, 1) := by decide +kernel
theorem dX7_isComma_11 : decode cX7_isComma 11 = .ok (.bipush 96, 2) := by decide +kernel
theorem dX7_isComma_13 : decode cX7_isComma 13 = .ok (.if_icmp .ne 7, 3) := by decide +kernel
theorem dX7_isComma_16 : decode cX7_isComma 16 = .ok (.iconst 1, 1) := by decide +kernel
theorem dX7_isComma_17 : decode cX7_isComma 17 = .ok (.goto 4, 3) := by decide +kernel
theorem dX7_isComma_20 : decode cX7_isComma 20 = .ok (.iconst 0, 1) := by decide +kernel
theorem dX7_isComma_21 : decode cX7_isComma 21 = .ok (.ireturn, 1) := by decide +kernel
set_option maxRecDepth 20000 in
theorem ggX7_takeBit_X7_isComma : GoodIn wsX7_takeBit wsX7_isComma := goodIn_r _ [9] (by decide +kernel) (by decide +kernel)
set_option maxRecDepth 20000 in
theorem gX7_takeBit_X7_isComma : GoodIn wsX7_takeBit (va_wsS RX7 99 yX7_isComma wsX7_isComma) := goodIn_app (goodIn_of _ (by decide +kernel)) ggX7_takeBit_X7_isComma
set_option maxRecDepth 20000 in
theorem ggX7_takeBit_X7_takeGroup : GoodIn wsX7_takeBit wsX7_takeGroup := goodIn_r _ [13, 1, 4, 5, 14, 15, 2, 3, 16, 17, 18, 19, 20, 8, 21, 22, 23, 24, 25, 26, 27, 28, 29, 30, 31, 32, 33, 34, 35, 36, 37, 38, 39, 40, 6, 7, 9, 41, 42, 43, 44, 45, 46, 47, 48, 49, 50, 51, 52, 53, 54, 55, 56, 57, 58, 59, 60, 61, 62, 63, 64, 65, 66, 67, 68, 69, 70, 71, 72, 73, 74, 75, 76, 77, 78, 79, 80, 81, 82, 83, 84, 85, 86, 87, 88, 89, 90, 91, 92, 93, 94, 95, 96, 97, 98, 99, 100, 101] (by decide +kernel) (by decide +kernel)
set_option maxRecDepth 20000 in
theorem gX7_takeBit_X7_takeGroup : GoodIn wsX7_takeBit (wsV RX7 106 RX7 yX7_takeGroup wsX7_takeGroup) := goodIn_app (goodIn_of _ (by decide +kernel)) ggX7_takeBit_X7_takeGroup
theorem dX7_takeBit_0 : decode cX7_takeBit 0 = .ok (.aload_n 0, 1) := by decide +kernel
theorem dX7_takeBit_1 : decode cX7_takeBit 1 = .ok (.aload_n 0, 1) := by decide +kernel
theorem dX7_takeBit_2 : decode cX7_takeBit 2 = .ok (.getfield 90, 3) := by decide +kernel
theorem dX7_takeBit_5 : decode cX7_takeBit 5 = .ok (.iconst 1, 1) := by decide +kernel
theorem dX7_takeBit_6 : decode cX7_takeBit 6 = .ok (.ishl, 1) := by decide +kernel
theorem dX7_takeBit_7 : decode cX7_takeBit 7 = .ok (.iload_n 1, 1) := by decide +kernel
theorem dX7_takeBit_8 : decode cX7_takeBit 8 = .ok (.ior, 1) := by decide +kernel
theorem dX7_takeBit_9 : decode cX7_takeBit 9 = .ok (.sipush 1023, 3) := by decide +kernel
theorem dX7_takeBit_12 : decode cX7_takeBit 12 = .ok (.iand, 1) := by decide +kernel
theorem dX7_takeBit_13 : decode cX7_takeBit 13 = .ok (.putfield 90, 3) := by decide +kernel
theorem dX7_takeBit_16 : decode cX7_takeBit 16 = .ok (.aload_n 0, 1) := by decide +kernel
theorem dX7_takeBit_17 : decode cX7_takeBit 17 = .ok (.dup, 1) := by decide +kernel
theorem dX7_takeBit_18 : decode cX7_takeBit 18 = .ok (.getfield 93, 3) := by decide +kernel
theorem dX7_takeBit_21 : decode cX7_takeBit 21 = .ok (.iconst 1, 1) := by decide +kernel
theorem dX7_takeBit_22 : decode cX7_takeBit 22 = .ok (.iadd, 1) := by decide +kernel
theorem dX7_takeBit_23 : decode cX7_takeBit 23 = .ok (.putfield 93, 3) := by decide +kernel
theorem dX7_takeBit_26 : decode cX7_takeBit 26 = .ok (.aload_n 0, 1) := by decide +kernel
theorem dX7_takeBit_27 : decode cX7_takeBit 27 = .ok (.getfield 96, 3) := by decide +kernel
theorem dX7_takeBit_30 : decode cX7_takeBit 30 = .ok (.ifCond .ne 60, 3) := by decide +kernel
theorem dX7_takeBit_33 : decode cX7_takeBit 33 = .ok (.aload_n 0, 1) := by decide +kernel
theorem dX7_takeBit_34 : decode cX7_takeBit 34 = .ok (.getfield 93, 3) := by decide +kernel
theorem dX7_takeBit_37 : decode cX7_takeBit 37 = .ok (.bipush 10, 2) := by decide +kernel
theorem dX7_takeBit_39 : decode cX7_takeBit 39 = .ok (.if_icmp .lt 65, 3) := by decide +kernel
theorem dX7_takeBit_42 : decode cX7_takeBit 42 = .ok (.aload_n 0, 1) := by decide +kernel
theorem dX7_takeBit_43 : decode cX7_takeBit 43 = .ok (.getfield 90, 3) := by decide +kernel
theorem dX7_takeBit_46 : decode cX7_takeBit 46 = .ok (.invokestatic 99, 3) := by decide +kernel
theorem dX7_takeBit_49 : decode cX7_takeBit 49 = .ok (.ifCond .eq 55, 3) := by decide +kernel
theorem dX7_takeBit_52 : decode cX7_takeBit 52 = .ok (.aload_n 0, 1) := by decide +kernel
theorem dX7_takeBit_53 : decode cX7_takeBit 53 = .ok (.aload_n 0, 1) := by decide +kernel
theorem dX7_takeBit_54 : decode cX7_takeBit 54 = .ok (.getfield 90, 3) := by decide +kernel
theorem dX7_takeBit_57 : decode cX7_takeBit 57 = .ok (.iconst 3, 1) := by decide +kernel
theorem dX7_takeBit_58 : decode cX7_takeBit 58 = .ok (.ishr, 1) := by decide +kernel
theorem dX7_takeBit_59 : decode cX7_takeBit 59 = .ok (.bipush 31, 2) := by decide +kernel
theorem dX7_takeBit_61 : decode cX7_takeBit 61 = .ok (.if_icmp .ne 7, 3) := by decide +kernel
theorem dX7_takeBit_64 : decode cX7_takeBit 64 = .ok (.iconst (-1), 1) := by decide +kernel
theorem dX7_takeBit_65 : decode cX7_takeBit 65 = .ok (.goto 4, 3) := by decide +kernel
theorem dX7_takeBit_68 : decode cX7_takeBit 68 = .ok (.iconst 1, 1) := by decide +kernel
theorem dX7_takeBit_69 : decode cX7_takeBit 69 = .ok (.putfield 30, 3) := by decide +kernel
theorem dX7_takeBit_72 : decode cX7_takeBit 72 = .ok (.aload_n 0, 1) := by decide +kernel
theorem dX7_takeBit_73 : decode cX7_takeBit 73 = .ok (.iconst 0, 1) := by decide +kernel
theorem dX7_takeBit_74 : decode cX7_takeBit 74 = .ok (.putfield 102, 3) := by decide +kernel
theorem dX7_takeBit_77 : decode cX7_takeBit 77 = .ok (.aload_n 0, 1) := by decide +kernel
theorem dX7_takeBit_78 : decode cX7_takeBit 78 = .ok (.iconst 1, 1) := by decide +kernel
theorem dX7_takeBit_79 : decode cX7_takeBit 79 = .ok (.putfield 96, 3) := by decide +kernel
theorem dX7_takeBit_82 : decode cX7_takeBit 82 = .ok (.aload_n 0, 1) := by decide +kernel
theorem dX7_takeBit_83 : decode cX7_takeBit 83 = .ok (.iconst 1, 1) := by decide +kernel
theorem dX7_takeBit_84 : decode cX7_takeBit 84 = .ok (.invokevirtual 106, 3) := by decide +kernel
theorem dX7_takeBit_87 : decode cX7_takeBit 87 = .ok (.goto 17, 3) := by decide +kernel
theorem dX7_takeBit_90 : decode cX7_takeBit 90 = .ok (.aload_n 0, 1) := by decide +kernel
theorem dX7_takeBit_91 : decode cX7_takeBit 91 = .ok (.getfield 93, 3) := by decide +kernel
theorem dX7_takeBit_94 : decode cX7_takeBit 94 = .ok (.bipush 10, 2) := by decide +kernel
theorem dX7_takeBit_96 : decode cX7_takeBit 96 = .ok (.if_icmp .ne 8, 3) := by decide +kernel
theorem dX7_takeBit_99 : decode cX7_takeBit 99 = .ok (.aload_n 0, 1) := by decide +kernel
theorem dX7_takeBit_100 : decode cX7_takeBit 100 = .ok (.iconst 0, 1) := by decide +kernel
theorem dX7_takeBit_101 : decode cX7_takeBit 101 = .ok (.invokevirtual 106, 3) := by decide +kernel
theorem dX7_takeBit_104 : decode cX7_takeBit 104 = .ok (.return_, 1) := by decide +kernel
set_option maxRecDepth 20000 in
theorem ggX7_takeGroup_X7_decode : GoodIn wsX7_takeGroup wsX7_decode := goodIn_r _ [14, 15, 16, 17, 13, 18, 19, 20, 21, 22, 23, 24, 25, 26, 27, 28, 29, 30, 31, 32, 33, 66, 67, 68, 69, 70, 71, 72, 73, 74, 75, 76, 77, 78, 79, 80, 81, 82, 83, 84, 85, 86, 87, 88, 89, 90, 91, 92, 93, 94, 95, 96, 97] (by decide +kernel) (by decide +kernel)
set_option maxRecDepth 20000 in
theorem gX7_takeGroup_X7_decode : GoodIn wsX7_takeGroup (wsV RX7 110 RX7 yX7_decode wsX7_decode) := goodIn_app (goodIn_of _ (by decide +kernel)) ggX7_takeGroup_X7_decode
set_option maxRecDepth 20000 in
theorem ggX7_takeGroup_X7_isComma : GoodIn wsX7_takeGroup wsX7_isComma := goodIn_r _ [36] (by decide +kernel) (by decide +kernel)
set_option maxRecDepth 20000 in
theorem gX7_takeGroup_X7_isComma : GoodIn wsX7_takeGroup (va_wsS RX7 99 yX7_isComma wsX7_isComma) := goodIn_app (goodIn_of _ (by decide +kernel)) ggX7_takeGroup_X7_isComma
set_option maxRecDepth 20000 in
theorem ggX7_takeGroup_X7_behindGroup : GoodIn wsX7_takeGroup wsX7_behindGroup := goodIn_r _ [39, 25, 26, 13, 27, 28, 29, 30] (by decide +kernel) (by decide +kernel)
set_option maxRecDepth 20000 in
theorem gX7_takeGroup_X7_behindGroup : GoodIn wsX7_takeGroup (va_wsS RX7 72 yX7_behindGroup wsX7_behindGroup) := goodIn_app (goodIn_of _ (by decide +kernel)) ggX7_takeGroup_X7_behindGroup
set_option maxRecDepth 20000 in
theorem ggX7_takeGroup_X7_searchAgain : GoodIn wsX7_takeGroup wsX7_searchAgain := goodIn_r _ [43, 7, 8, 6, 44, 45, 46, 47, 48, 13, 49, 50, 51, 52, 53, 54, 55, 56, 57, 66, 67, 68, 69, 70, 71, 72, 73, 74, 75, 76, 77, 78, 79, 80, 81, 82, 83, 84, 85, 86, 87, 88, 89, 90, 91, 92, 93, 94, 95, 96, 97] (by decide +kernel) (by decide +kernel)
set_option maxRecDepth 20000 in
theorem gX7_takeGroup_X7_searchAgain : GoodIn wsX7_takeGroup (wsV RX7 119 RX7 yX7_searchAgain wsX7_searchAgain) := goodIn_app (goodIn_of _ (by decide +kernel)) ggX7_takeGroup_X7_searchAgain
set_option maxRecDepth 20000 in
theorem ggX7_takeGroup_X7_receive : GoodIn wsX7_takeGroup wsX7_receive := goodIn_r _ [61, 62, 63, 45, 64, 65, 56, 57, 46, 47, 48, 13, 49, 50, 51, 52, 53, 54, 55, 66, 67, 68, 69, 70, 71, 72, 73, 74, 75, 76, 77, 78, 79, 80, 81, 82, 83, 84, 85, 86, 87, 88, 89, 90, 91, 92, 93, 94, 95, 96, 97] (by decide +kernel) (by decide +kernel)
set_option maxRecDepth 20000 in
theorem gX7_takeGroup_X7_receive : GoodIn wsX7_takeGroup (wsV RX7 128 RX7 yX7_receive wsX7_receive) := goodIn_app (goodIn_of _ (by decide +kernel)) ggX7_takeGroup_X7_receive
theorem dX7_takeGroup_0 : decode cX7_takeGroup 0 = .ok (.aload_n 0, 1) := by decide +kernel
theorem dX7_takeGroup_1 : decode cX7_takeGroup 1 = .ok (.aload_n 0, 1) := by decide +kernel
theorem dX7_takeGroup_2 : decode cX7_takeGroup 2 = .ok (.getfield 90, 3) := by decide +kernel
theorem dX7_takeGroup_5 : decode cX7_takeGroup 5 = .ok (.aload_n 0, 1) := by decide +kernel
theorem dX7_takeGroup_6 : decode cX7_takeGroup 6 = .ok (.getfield 30, 3) := by decide +kernel
theorem dX7_takeGroup_9 : decode cX7_takeGroup 9 = .ok (.invokevirtual 110, 3) := by decide +kernel
theorem dX7_takeGroup_12 : decode cX7_takeGroup 12 = .ok (.istore_n 2, 1) := by decide +kernel
theorem dX7_takeGroup_13 : decode cX7_takeGroup 13 = .ok (.iload_n 2, 1) := by decide +kernel
theorem dX7_takeGroup_14 : decode cX7_takeGroup 14 = .ok (.iconst (-1), 1) := by decide +kernel
theorem dX7_takeGroup_15 : decode cX7_takeGroup 15 = .ok (.if_icmp .eq 7, 3) := by decide +kernel
theorem dX7_takeGroup_18 : decode cX7_takeGroup 18 = .ok (.iconst 1, 1) := by decide +kernel
theorem dX7_takeGroup_19 : decode cX7_takeGroup 19 = .ok (.goto 4, 3) := by decide +kernel
theorem dX7_takeGroup_22 : decode cX7_takeGroup 22 = .ok (.iconst 0, 1) := by decide +kernel
theorem dX7_takeGroup_23 : decode cX7_takeGroup 23 = .ok (.istore_n 3, 1) := by decide +kernel
theorem dX7_takeGroup_24 : decode cX7_takeGroup 24 = .ok (.aload_n 0, 1) := by decide +kernel
theorem dX7_takeGroup_25 : decode cX7_takeGroup 25 = .ok (.getfield 90, 3) := by decide +kernel
theorem dX7_takeGroup_28 : decode cX7_takeGroup 28 = .ok (.invokestatic 99, 3) := by decide +kernel
theorem dX7_takeGroup_31 : decode cX7_takeGroup 31 = .ok (.istore 4, 2) := by decide +kernel
theorem dX7_takeGroup_33 : decode cX7_takeGroup 33 = .ok (.iload_n 3, 1) := by decide +kernel
theorem dX7_takeGroup_34 : decode cX7_takeGroup 34 = .ok (.ifCond .eq 15, 3) := by decide +kernel
theorem dX7_takeGroup_37 : decode cX7_takeGroup 37 = .ok (.iload 4, 2) := by decide +kernel
theorem dX7_takeGroup_39 : decode cX7_takeGroup 39 = .ok (.ifCond .eq 14, 3) := by decide +kernel
theorem dX7_takeGroup_42 : decode cX7_takeGroup 42 = .ok (.aload_n 0, 1) := by decide +kernel
theorem dX7_takeGroup_43 : decode cX7_takeGroup 43 = .ok (.getfield 102, 3) := by decide +kernel
theorem dX7_takeGroup_46 : decode cX7_takeGroup 46 = .ok (.ifCond .eq 7, 3) := by decide +kernel
theorem dX7_takeGroup_49 : decode cX7_takeGroup 49 = .ok (.iconst 1, 1) := by decide +kernel
theorem dX7_takeGroup_50 : decode cX7_takeGroup 50 = .ok (.goto 4, 3) := by decide +kernel
theorem dX7_takeGroup_53 : decode cX7_takeGroup 53 = .ok (.iconst 0, 1) := by decide +kernel
theorem dX7_takeGroup_54 : decode cX7_takeGroup 54 = .ok (.istore 5, 2) := by decide +kernel
theorem dX7_takeGroup_56 : decode cX7_takeGroup 56 = .ok (.aload_n 0, 1) := by decide +kernel
theorem dX7_takeGroup_57 : decode cX7_takeGroup 57 = .ok (.aload_n 0, 1) := by decide +kernel
theorem dX7_takeGroup_58 : decode cX7_takeGroup 58 = .ok (.getfield 90, 3) := by decide +kernel
theorem dX7_takeGroup_61 : decode cX7_takeGroup 61 = .ok (.aload_n 0, 1) := by decide +kernel
theorem dX7_takeGroup_62 : decode cX7_takeGroup 62 = .ok (.getfield 30, 3) := by decide +kernel
theorem dX7_takeGroup_65 : decode cX7_takeGroup 65 = .ok (.invokestatic 72, 3) := by decide +kernel
theorem dX7_takeGroup_68 : decode cX7_takeGroup 68 = .ok (.putfield 30, 3) := by decide +kernel
theorem dX7_takeGroup_71 : decode cX7_takeGroup 71 = .ok (.aload_n 0, 1) := by decide +kernel
theorem dX7_takeGroup_72 : decode cX7_takeGroup 72 = .ok (.dup, 1) := by decide +kernel
theorem dX7_takeGroup_73 : decode cX7_takeGroup 73 = .ok (.getfield 113, 3) := by decide +kernel
theorem dX7_takeGroup_76 : decode cX7_takeGroup 76 = .ok (.iconst 1, 1) := by decide +kernel
theorem dX7_takeGroup_77 : decode cX7_takeGroup 77 = .ok (.iadd, 1) := by decide +kernel
theorem dX7_takeGroup_78 : decode cX7_takeGroup 78 = .ok (.putfield 113, 3) := by decide +kernel
theorem dX7_takeGroup_81 : decode cX7_takeGroup 81 = .ok (.aload_n 0, 1) := by decide +kernel
theorem dX7_takeGroup_82 : decode cX7_takeGroup 82 = .ok (.dup, 1) := by decide +kernel
theorem dX7_takeGroup_83 : decode cX7_takeGroup 83 = .ok (.getfield 116, 3) := by decide +kernel
theorem dX7_takeGroup_86 : decode cX7_takeGroup 86 = .ok (.iload_n 3, 1) := by decide +kernel
theorem dX7_takeGroup_87 : decode cX7_takeGroup 87 = .ok (.ifCond .eq 7, 3) := by decide +kernel
theorem dX7_takeGroup_90 : decode cX7_takeGroup 90 = .ok (.iconst 0, 1) := by decide +kernel
theorem dX7_takeGroup_91 : decode cX7_takeGroup 91 = .ok (.goto 4, 3) := by decide +kernel
theorem dX7_takeGroup_94 : decode cX7_takeGroup 94 = .ok (.iconst 1, 1) := by decide +kernel
theorem dX7_takeGroup_95 : decode cX7_takeGroup 95 = .ok (.iadd, 1) := by decide +kernel
theorem dX7_takeGroup_96 : decode cX7_takeGroup 96 = .ok (.putfield 116, 3) := by decide +kernel
theorem dX7_takeGroup_99 : decode cX7_takeGroup 99 = .ok (.aload_n 0, 1) := by decide +kernel
theorem dX7_takeGroup_100 : decode cX7_takeGroup 100 = .ok (.getfield 102, 3) := by decide +kernel
theorem dX7_takeGroup_103 : decode cX7_takeGroup 103 = .ok (.ifCond .ne 7, 3) := by decide +kernel
theorem dX7_takeGroup_106 : decode cX7_takeGroup 106 = .ok (.iconst 1, 1) := by decide +kernel
theorem dX7_takeGroup_107 : decode cX7_takeGroup 107 = .ok (.goto 4, 3) := by decide +kernel
theorem dX7_takeGroup_110 : decode cX7_takeGroup 110 = .ok (.iconst 0, 1) := by decide +kernel
theorem dX7_takeGroup_111 : decode cX7_takeGroup 111 = .ok (.istore 6, 2) := by decide +kernel
theorem dX7_takeGroup_113 : decode cX7_takeGroup 113 = .ok (.aload_n 0, 1) := by decide +kernel
theorem dX7_takeGroup_114 : decode cX7_takeGroup 114 = .ok (.aload_n 0, 1) := by decide +kernel
theorem dX7_takeGroup_115 : decode cX7_takeGroup 115 = .ok (.getfield 102, 3) := by decide +kernel
theorem dX7_takeGroup_118 : decode cX7_takeGroup 118 = .ok (.ifCond .ne 7, 3) := by decide +kernel
theorem dX7_takeGroup_121 : decode cX7_takeGroup 121 = .ok (.iconst 1, 1) := by decide +kernel
theorem dX7_takeGroup_122 : decode cX7_takeGroup 122 = .ok (.goto 4, 3) := by decide +kernel
theorem dX7_takeGroup_125 : decode cX7_takeGroup 125 = .ok (.iconst 0, 1) := by decide +kernel
theorem dX7_takeGroup_126 : decode cX7_takeGroup 126 = .ok (.putfield 102, 3) := by decide +kernel
theorem dX7_takeGroup_129 : decode cX7_takeGroup 129 = .ok (.aload_n 0, 1) := by decide +kernel
theorem dX7_takeGroup_130 : decode cX7_takeGroup 130 = .ok (.iconst 0, 1) := by decide +kernel
theorem dX7_takeGroup_131 : decode cX7_takeGroup 131 = .ok (.putfield 93, 3) := by decide +kernel
theorem dX7_takeGroup_134 : decode cX7_takeGroup 134 = .ok (.iload_n 1, 1) := by decide +kernel
theorem dX7_takeGroup_135 : decode cX7_takeGroup 135 = .ok (.ifCond .eq 14, 3) := by decide +kernel
theorem dX7_takeGroup_138 : decode cX7_takeGroup 138 = .ok (.iload_n 3, 1) := by decide +kernel
theorem dX7_takeGroup_139 : decode cX7_takeGroup 139 = .ok (.ifCond .ne 159, 3) := by decide +kernel
theorem dX7_takeGroup_142 : decode cX7_takeGroup 142 = .ok (.aload_n 0, 1) := by decide +kernel
theorem dX7_takeGroup_143 : decode cX7_takeGroup 143 = .ok (.invokevirtual 119, 3) := by decide +kernel
theorem dX7_takeGroup_146 : decode cX7_takeGroup 146 = .ok (.goto 152, 3) := by decide +kernel
theorem dX7_takeGroup_149 : decode cX7_takeGroup 149 = .ok (.aload_n 0, 1) := by decide +kernel
theorem dX7_takeGroup_150 : decode cX7_takeGroup 150 = .ok (.getfield 96, 3) := by decide +kernel
theorem dX7_takeGroup_153 : decode cX7_takeGroup 153 = .ok (.iconst 3, 1) := by decide +kernel
theorem dX7_takeGroup_154 : decode cX7_takeGroup 154 = .ok (.if_icmp .ge 60, 3) := by decide +kernel
theorem dX7_takeGroup_157 : decode cX7_takeGroup 157 = .ok (.iload 5, 2) := by decide +kernel
theorem dX7_takeGroup_159 : decode cX7_takeGroup 159 = .ok (.ifCond .eq 10, 3) := by decide +kernel
theorem dX7_takeGroup_162 : decode cX7_takeGroup 162 = .ok (.aload_n 0, 1) := by decide +kernel
theorem dX7_takeGroup_163 : decode cX7_takeGroup 163 = .ok (.invokevirtual 119, 3) := by decide +kernel
theorem dX7_takeGroup_166 : decode cX7_takeGroup 166 = .ok (.goto 132, 3) := by decide +kernel
theorem dX7_takeGroup_169 : decode cX7_takeGroup 169 = .ok (.iload 4, 2) := by decide +kernel
theorem dX7_takeGroup_171 : decode cX7_takeGroup 171 = .ok (.ifCond .eq 127, 3) := by decide +kernel
theorem dX7_takeGroup_174 : decode cX7_takeGroup 174 = .ok (.iload 6, 2) := by decide +kernel
theorem dX7_takeGroup_176 : decode cX7_takeGroup 176 = .ok (.ifCond .eq 122, 3) := by decide +kernel
theorem dX7_takeGroup_179 : decode cX7_takeGroup 179 = .ok (.aload_n 0, 1) := by decide +kernel
theorem dX7_takeGroup_180 : decode cX7_takeGroup 180 = .ok (.dup, 1) := by decide +kernel
theorem dX7_takeGroup_181 : decode cX7_takeGroup 181 = .ok (.getfield 96, 3) := by decide +kernel
theorem dX7_takeGroup_184 : decode cX7_takeGroup 184 = .ok (.iconst 1, 1) := by decide +kernel
theorem dX7_takeGroup_185 : decode cX7_takeGroup 185 = .ok (.iadd, 1) := by decide +kernel
theorem dX7_takeGroup_186 : decode cX7_takeGroup 186 = .ok (.putfield 96, 3) := by decide +kernel
theorem dX7_takeGroup_189 : decode cX7_takeGroup 189 = .ok (.aload_n 0, 1) := by decide +kernel
theorem dX7_takeGroup_190 : decode cX7_takeGroup 190 = .ok (.aload_n 0, 1) := by decide +kernel
theorem dX7_takeGroup_191 : decode cX7_takeGroup 191 = .ok (.getfield 96, 3) := by decide +kernel
theorem dX7_takeGroup_194 : decode cX7_takeGroup 194 = .ok (.iconst 3, 1) := by decide +kernel
theorem dX7_takeGroup_195 : decode cX7_takeGroup 195 = .ok (.if_icmp .ne 7, 3) := by decide +kernel
theorem dX7_takeGroup_198 : decode cX7_takeGroup 198 = .ok (.iconst 4, 1) := by decide +kernel
theorem dX7_takeGroup_199 : decode cX7_takeGroup 199 = .ok (.goto 4, 3) := by decide +kernel
theorem dX7_takeGroup_202 : decode cX7_takeGroup 202 = .ok (.iconst 0, 1) := by decide +kernel
theorem dX7_takeGroup_203 : decode cX7_takeGroup 203 = .ok (.putfield 122, 3) := by decide +kernel
theorem dX7_takeGroup_206 : decode cX7_takeGroup 206 = .ok (.aload_n 0, 1) := by decide +kernel
theorem dX7_takeGroup_207 : decode cX7_takeGroup 207 = .ok (.iconst 0, 1) := by decide +kernel
theorem dX7_takeGroup_208 : decode cX7_takeGroup 208 = .ok (.putfield 125, 3) := by decide +kernel
theorem dX7_takeGroup_211 : decode cX7_takeGroup 211 = .ok (.goto 87, 3) := by decide +kernel
theorem dX7_takeGroup_214 : decode cX7_takeGroup 214 = .ok (.aload_n 0, 1) := by decide +kernel
theorem dX7_takeGroup_215 : decode cX7_takeGroup 215 = .ok (.iload_n 2, 1) := by decide +kernel
theorem dX7_takeGroup_216 : decode cX7_takeGroup 216 = .ok (.invokevirtual 128, 3) := by decide +kernel
theorem dX7_takeGroup_219 : decode cX7_takeGroup 219 = .ok (.iload 5, 2) := by decide +kernel
theorem dX7_takeGroup_221 : decode cX7_takeGroup 221 = .ok (.ifCond .eq 32, 3) := by decide +kernel
theorem dX7_takeGroup_224 : decode cX7_takeGroup 224 = .ok (.aload_n 0, 1) := by decide +kernel
theorem dX7_takeGroup_225 : decode cX7_takeGroup 225 = .ok (.iconst 0, 1) := by decide +kernel
theorem dX7_takeGroup_226 : decode cX7_takeGroup 226 = .ok (.putfield 125, 3) := by decide +kernel
theorem dX7_takeGroup_229 : decode cX7_takeGroup 229 = .ok (.aload_n 0, 1) := by decide +kernel
theorem dX7_takeGroup_230 : decode cX7_takeGroup 230 = .ok (.dup, 1) := by decide +kernel
theorem dX7_takeGroup_231 : decode cX7_takeGroup 231 = .ok (.getfield 122, 3) := by decide +kernel
theorem dX7_takeGroup_234 : decode cX7_takeGroup 234 = .ok (.iconst 1, 1) := by decide +kernel
theorem dX7_takeGroup_235 : decode cX7_takeGroup 235 = .ok (.isub, 1) := by decide +kernel
theorem dX7_takeGroup_236 : decode cX7_takeGroup 236 = .ok (.putfield 122, 3) := by decide +kernel
theorem dX7_takeGroup_239 : decode cX7_takeGroup 239 = .ok (.aload_n 0, 1) := by decide +kernel
theorem dX7_takeGroup_240 : decode cX7_takeGroup 240 = .ok (.getfield 122, 3) := by decide +kernel
theorem dX7_takeGroup_243 : decode cX7_takeGroup 243 = .ok (.ifCond .ne 55, 3) := by decide +kernel
theorem dX7_takeGroup_246 : decode cX7_takeGroup 246 = .ok (.aload_n 0, 1) := by decide +kernel
theorem dX7_takeGroup_247 : decode cX7_takeGroup 247 = .ok (.invokevirtual 119, 3) := by decide +kernel
theorem dX7_takeGroup_250 : decode cX7_takeGroup 250 = .ok (.goto 48, 3) := by decide +kernel
theorem dX7_takeGroup_253 : decode cX7_takeGroup 253 = .ok (.aload_n 0, 1) := by decide +kernel
theorem dX7_takeGroup_254 : decode cX7_takeGroup 254 = .ok (.dup, 1) := by decide +kernel
theorem dX7_takeGroup_255 : decode cX7_takeGroup 255 = .ok (.getfield 125, 3) := by decide +kernel
theorem dX7_takeGroup_258 : decode cX7_takeGroup 258 = .ok (.iconst 1, 1) := by decide +kernel
theorem dX7_takeGroup_259 : decode cX7_takeGroup 259 = .ok (.iadd, 1) := by decide +kernel
theorem dX7_takeGroup_260 : decode cX7_takeGroup 260 = .ok (.putfield 125, 3) := by decide +kernel
theorem dX7_takeGroup_263 : decode cX7_takeGroup 263 = .ok (.aload_n 0, 1) := by decide +kernel
theorem dX7_takeGroup_264 : decode cX7_takeGroup 264 = .ok (.getfield 125, 3) := by decide +kernel
theorem dX7_takeGroup_267 : decode cX7_takeGroup 267 = .ok (.iconst 4, 1) := by decide +kernel
theorem dX7_takeGroup_268 : decode cX7_takeGroup 268 = .ok (.if_icmp .ne 30, 3) := by decide +kernel
theorem dX7_takeGroup_271 : decode cX7_takeGroup 271 = .ok (.aload_n 0, 1) := by decide +kernel
theorem dX7_takeGroup_272 : decode cX7_takeGroup 272 = .ok (.iconst 0, 1) := by decide +kernel
theorem dX7_takeGroup_273 : decode cX7_takeGroup 273 = .ok (.putfield 125, 3) := by decide +kernel
theorem dX7_takeGroup_276 : decode cX7_takeGroup 276 = .ok (.aload_n 0, 1) := by decide +kernel
theorem dX7_takeGroup_277 : decode cX7_takeGroup 277 = .ok (.dup, 1) := by decide +kernel
theorem dX7_takeGroup_278 : decode cX7_takeGroup 278 = .ok (.getfield 122, 3) := by decide +kernel
theorem dX7_takeGroup_281 : decode cX7_takeGroup 281 = .ok (.aload_n 0, 1) := by decide +kernel
theorem dX7_takeGroup_282 : decode cX7_takeGroup 282 = .ok (.getfield 122, 3) := by decide +kernel
theorem dX7_takeGroup_285 : decode cX7_takeGroup 285 = .ok (.iconst 4, 1) := by decide +kernel
theorem dX7_takeGroup_286 : decode cX7_takeGroup 286 = .ok (.if_icmp .ge 7, 3) := by decide +kernel
theorem dX7_takeGroup_289 : decode cX7_takeGroup 289 = .ok (.iconst 1, 1) := by decide +kernel
theorem dX7_takeGroup_290 : decode cX7_takeGroup 290 = .ok (.goto 4, 3) := by decide +kernel
theorem dX7_takeGroup_293 : decode cX7_takeGroup 293 = .ok (.iconst 0, 1) := by decide +kernel
theorem dX7_takeGroup_294 : decode cX7_takeGroup 294 = .ok (.iadd, 1) := by decide +kernel
theorem dX7_takeGroup_295 : decode cX7_takeGroup 295 = .ok (.putfield 122, 3) := by decide +kernel
theorem dX7_takeGroup_298 : decode cX7_takeGroup 298 = .ok (.return_, 1) := by decide +kernel
set_option maxRecDepth 20000 in
theorem ggX7_searchAgain_X7_end : GoodIn wsX7_searchAgain wsX7_end := goodIn_r _ [10, 5, 11, 12, 13, 14, 15, 16, 17, 18, 19, 20, 21, 22, 23, 24, 25, 26, 27, 28, 29, 30, 31, 32, 33, 34, 35, 36, 37, 38, 39, 40, 41, 42, 43, 44, 45, 46, 47, 48, 49, 50] (by decide +kernel) (by decide +kernel)
set_option maxRecDepth 20000 in
theorem gX7_searchAgain_X7_end : GoodIn wsX7_searchAgain (wsV RX7 137 RX7 yX7_end wsX7_end) := goodIn_app (goodIn_of _ (by decide +kernel)) ggX7_searchAgain_X7_end
theorem dX7_searchAgain_0 : decode cX7_searchAgain 0 = .ok (.aload_n 0, 1) := by decide +kernel
theorem dX7_searchAgain_1 : decode cX7_searchAgain 1 = .ok (.iconst 0, 1) := by decide +kernel
theorem dX7_searchAgain_2 : decode cX7_searchAgain 2 = .ok (.putfield 96, 3) := by decide +kernel
theorem dX7_searchAgain_5 : decode cX7_searchAgain 5 = .ok (.aload_n 0, 1) := by decide +kernel
theorem dX7_searchAgain_6 : decode cX7_searchAgain 6 = .ok (.iconst 0, 1) := by decide +kernel
theorem dX7_searchAgain_7 : decode cX7_searchAgain 7 = .ok (.putfield 122, 3) := by decide +kernel
theorem dX7_searchAgain_10 : decode cX7_searchAgain 10 = .ok (.aload_n 0, 1) := by decide +kernel
theorem dX7_searchAgain_11 : decode cX7_searchAgain 11 = .ok (.iconst 0, 1) := by decide +kernel
theorem dX7_searchAgain_12 : decode cX7_searchAgain 12 = .ok (.putfield 93, 3) := by decide +kernel
theorem dX7_searchAgain_15 : decode cX7_searchAgain 15 = .ok (.aload_n 0, 1) := by decide +kernel
theorem dX7_searchAgain_16 : decode cX7_searchAgain 16 = .ok (.dup, 1) := by decide +kernel
theorem dX7_searchAgain_17 : decode cX7_searchAgain 17 = .ok (.getfield 131, 3) := by decide +kernel
theorem dX7_searchAgain_20 : decode cX7_searchAgain 20 = .ok (.iconst 1, 1) := by decide +kernel
theorem dX7_searchAgain_21 : decode cX7_searchAgain 21 = .ok (.iadd, 1) := by decide +kernel
theorem dX7_searchAgain_22 : decode cX7_searchAgain 22 = .ok (.putfield 131, 3) := by decide +kernel
theorem dX7_searchAgain_25 : decode cX7_searchAgain 25 = .ok (.aload_n 0, 1) := by decide +kernel
theorem dX7_searchAgain_26 : decode cX7_searchAgain 26 = .ok (.getfield 134, 3) := by decide +kernel
theorem dX7_searchAgain_29 : decode cX7_searchAgain 29 = .ok (.ifCond .eq 8, 3) := by decide +kernel
theorem dX7_searchAgain_32 : decode cX7_searchAgain 32 = .ok (.aload_n 0, 1) := by decide +kernel
theorem dX7_searchAgain_33 : decode cX7_searchAgain 33 = .ok (.iconst 0, 1) := by decide +kernel
theorem dX7_searchAgain_34 : decode cX7_searchAgain 34 = .ok (.invokevirtual 137, 3) := by decide +kernel
theorem dX7_searchAgain_37 : decode cX7_searchAgain 37 = .ok (.return_, 1) := by decide +kernel
theorem dX7_end_0 : decode cX7_end 0 = .ok (.aload_n 0, 1) := by decide +kernel
theorem dX7_end_1 : decode cX7_end 1 = .ok (.iconst 0, 1) := by decide +kernel
theorem dX7_end_2 : decode cX7_end 2 = .ok (.putfield 134, 3) := by decide +kernel
theorem dX7_end_5 : decode cX7_end 5 = .ok (.aload_n 0, 1) := by decide +kernel
theorem dX7_end_6 : decode cX7_end 6 = .ok (.dup, 1) := by decide +kernel
theorem dX7_end_7 : decode cX7_end 7 = .ok (.getfield 140, 3) := by decide +kernel
theorem dX7_end_10 : decode cX7_end 10 = .ok (.iconst 1, 1) := by decide +kernel
theorem dX7_end_11 : decode cX7_end 11 = .ok (.iadd, 1) := by decide +kernel
theorem dX7_end_12 : decode cX7_end 12 = .ok (.putfield 140, 3) := by decide +kernel
theorem dX7_end_15 : decode cX7_end 15 = .ok (.aload_n 0, 1) := by decide +kernel
theorem dX7_end_16 : decode cX7_end 16 = .ok (.dup, 1) := by decide +kernel
theorem dX7_end_17 : decode cX7_end 17 = .ok (.getfield 143, 3) := by decide +kernel
theorem dX7_end_20 : decode cX7_end 20 = .ok (.iload_n 1, 1) := by decide +kernel
theorem dX7_end_21 : decode cX7_end 21 = .ok (.ifCond .eq 7, 3) := by decide +kernel
theorem dX7_end_24 : decode cX7_end 24 = .ok (.iconst 1, 1) := by decide +kernel
theorem dX7_end_25 : decode cX7_end 25 = .ok (.goto 4, 3) := by decide +kernel
theorem dX7_end_28 : decode cX7_end 28 = .ok (.iconst 0, 1) := by decide +kernel
theorem dX7_end_29 : decode cX7_end 29 = .ok (.iadd, 1) := by decide +kernel
theorem dX7_end_30 : decode cX7_end 30 = .ok (.putfield 143, 3) := by decide +kernel
theorem dX7_end_33 : decode cX7_end 33 = .ok (.aload_n 0, 1) := by decide +kernel
theorem dX7_end_34 : decode cX7_end 34 = .ok (.getfield 146, 3) := by decide +kernel
theorem dX7_end_37 : decode cX7_end 37 = .ok (.bipush 40, 2) := by decide +kernel
theorem dX7_end_39 : decode cX7_end 39 = .ok (.if_icmp .ne 93, 3) := by decide +kernel
theorem dX7_end_42 : decode cX7_end 42 = .ok (.aload_n 0, 1) := by decide +kernel
theorem dX7_end_43 : decode cX7_end 43 = .ok (.dup, 1) := by decide +kernel
theorem dX7_end_44 : decode cX7_end 44 = .ok (.getfield 146, 3) := by decide +kernel
theorem dX7_end_47 : decode cX7_end 47 = .ok (.iconst 1, 1) := by decide +kernel
theorem dX7_end_48 : decode cX7_end 48 = .ok (.isub, 1) := by decide +kernel
theorem dX7_end_49 : decode cX7_end 49 = .ok (.putfield 146, 3) := by decide +kernel
theorem dX7_end_52 : decode cX7_end 52 = .ok (.iconst 0, 1) := by decide +kernel
theorem dX7_end_53 : decode cX7_end 53 = .ok (.istore_n 2, 1) := by decide +kernel
theorem dX7_end_54 : decode cX7_end 54 = .ok (.iload_n 2, 1) := by decide +kernel
theorem dX7_end_55 : decode cX7_end 55 = .ok (.aload_n 0, 1) := by decide +kernel
theorem dX7_end_56 : decode cX7_end 56 = .ok (.getfield 146, 3) := by decide +kernel
theorem dX7_end_59 : decode cX7_end 59 = .ok (.if_icmp .ge 37, 3) := by decide +kernel
theorem dX7_end_62 : decode cX7_end 62 = .ok (.aload_n 0, 1) := by decide +kernel
theorem dX7_end_63 : decode cX7_end 63 = .ok (.getfield 39, 3) := by decide +kernel
theorem dX7_end_66 : decode cX7_end 66 = .ok (.iload_n 2, 1) := by decide +kernel
theorem dX7_end_67 : decode cX7_end 67 = .ok (.aload_n 0, 1) := by decide +kernel
theorem dX7_end_68 : decode cX7_end 68 = .ok (.getfield 39, 3) := by decide +kernel
theorem dX7_end_71 : decode cX7_end 71 = .ok (.iload_n 2, 1) := by decide +kernel
theorem dX7_end_72 : decode cX7_end 72 = .ok (.iconst 1, 1) := by decide +kernel
theorem dX7_end_73 : decode cX7_end 73 = .ok (.iadd, 1) := by decide +kernel
theorem dX7_end_74 : decode cX7_end 74 = .ok (.iaload, 1) := by decide +kernel
theorem dX7_end_75 : decode cX7_end 75 = .ok (.iastore, 1) := by decide +kernel
theorem dX7_end_76 : decode cX7_end 76 = .ok (.aload_n 0, 1) := by decide +kernel
theorem dX7_end_77 : decode cX7_end 77 = .ok (.getfield 42, 3) := by decide +kernel
theorem dX7_end_80 : decode cX7_end 80 = .ok (.iload_n 2, 1) := by decide +kernel
theorem dX7_end_81 : decode cX7_end 81 = .ok (.aload_n 0, 1) := by decide +kernel
theorem dX7_end_82 : decode cX7_end 82 = .ok (.getfield 42, 3) := by decide +kernel
theorem dX7_end_85 : decode cX7_end 85 = .ok (.iload_n 2, 1) := by decide +kernel
theorem dX7_end_86 : decode cX7_end 86 = .ok (.iconst 1, 1) := by decide +kernel
theorem dX7_end_87 : decode cX7_end 87 = .ok (.iadd, 1) := by decide +kernel
theorem dX7_end_88 : decode cX7_end 88 = .ok (.baload, 1) := by decide +kernel
theorem dX7_end_89 : decode cX7_end 89 = .ok (.bastore, 1) := by decide +kernel
theorem dX7_end_90 : decode cX7_end 90 = .ok (.iinc 2 1, 3) := by decide +kernel
theorem dX7_end_93 : decode cX7_end 93 = .ok (.goto (-39), 3) := by decide +kernel
theorem dX7_end_96 : decode cX7_end 96 = .ok (.iconst 0, 1) := by decide +kernel
theorem dX7_end_97 : decode cX7_end 97 = .ok (.istore_n 2, 1) := by decide +kernel
theorem dX7_end_98 : decode cX7_end 98 = .ok (.iload_n 2, 1) := by decide +kernel
theorem dX7_end_99 : decode cX7_end 99 = .ok (.sipush 300, 3) := by decide +kernel
theorem dX7_end_102 : decode cX7_end 102 = .ok (.aload_n 0, 1) := by decide +kernel
theorem dX7_end_103 : decode cX7_end 103 = .ok (.getfield 146, 3) := by decide +kernel
theorem dX7_end_106 : decode cX7_end 106 = .ok (.imul, 1) := by decide +kernel
theorem dX7_end_107 : decode cX7_end 107 = .ok (.if_icmp .ge 25, 3) := by decide +kernel
theorem dX7_end_110 : decode cX7_end 110 = .ok (.aload_n 0, 1) := by decide +kernel
theorem dX7_end_111 : decode cX7_end 111 = .ok (.getfield 46, 3) := by decide +kernel
theorem dX7_end_114 : decode cX7_end 114 = .ok (.iload_n 2, 1) := by decide +kernel
theorem dX7_end_115 : decode cX7_end 115 = .ok (.aload_n 0, 1) := by decide +kernel
theorem dX7_end_116 : decode cX7_end 116 = .ok (.getfield 46, 3) := by decide +kernel
theorem dX7_end_119 : decode cX7_end 119 = .ok (.iload_n 2, 1) := by decide +kernel
theorem dX7_end_120 : decode cX7_end 120 = .ok (.sipush 300, 3) := by decide +kernel
theorem dX7_end_123 : decode cX7_end 123 = .ok (.iadd, 1) := by decide +kernel
theorem dX7_end_124 : decode cX7_end 124 = .ok (.baload, 1) := by decide +kernel
theorem dX7_end_125 : decode cX7_end 125 = .ok (.bastore, 1) := by decide +kernel
theorem dX7_end_126 : decode cX7_end 126 = .ok (.iinc 2 1, 3) := by decide +kernel
theorem dX7_end_129 : decode cX7_end 129 = .ok (.goto (-31), 3) := by decide +kernel
theorem dX7_end_132 : decode cX7_end 132 = .ok (.aload_n 0, 1) := by decide +kernel
theorem dX7_end_133 : decode cX7_end 133 = .ok (.getfield 39, 3) := by decide +kernel
theorem dX7_end_136 : decode cX7_end 136 = .ok (.aload_n 0, 1) := by decide +kernel
theorem dX7_end_137 : decode cX7_end 137 = .ok (.getfield 146, 3) := by decide +kernel
theorem dX7_end_140 : decode cX7_end 140 = .ok (.aload_n 0, 1) := by decide +kernel
theorem dX7_end_141 : decode cX7_end 141 = .ok (.getfield 149, 3) := by decide +kernel
theorem dX7_end_144 : decode cX7_end 144 = .ok (.iastore, 1) := by decide +kernel
theorem dX7_end_145 : decode cX7_end 145 = .ok (.aload_n 0, 1) := by decide +kernel
theorem dX7_end_146 : decode cX7_end 146 = .ok (.getfield 42, 3) := by decide +kernel
theorem dX7_end_149 : decode cX7_end 149 = .ok (.aload_n 0, 1) := by decide +kernel
theorem dX7_end_150 : decode cX7_end 150 = .ok (.getfield 146, 3) := by decide +kernel
theorem dX7_end_153 : decode cX7_end 153 = .ok (.iload_n 1, 1) := by decide +kernel
theorem dX7_end_154 : decode cX7_end 154 = .ok (.bastore, 1) := by decide +kernel
theorem dX7_end_155 : decode cX7_end 155 = .ok (.iconst 0, 1) := by decide +kernel
theorem dX7_end_156 : decode cX7_end 156 = .ok (.istore_n 2, 1) := by decide +kernel
theorem dX7_end_157 : decode cX7_end 157 = .ok (.iload_n 2, 1) := by decide +kernel
theorem dX7_end_158 : decode cX7_end 158 = .ok (.aload_n 0, 1) := by decide +kernel
theorem dX7_end_159 : decode cX7_end 159 = .ok (.getfield 149, 3) := by decide +kernel
theorem dX7_end_162 : decode cX7_end 162 = .ok (.if_icmp .ge 30, 3) := by decide +kernel
theorem dX7_end_165 : decode cX7_end 165 = .ok (.aload_n 0, 1) := by decide +kernel
theorem dX7_end_166 : decode cX7_end 166 = .ok (.getfield 46, 3) := by decide +kernel
theorem dX7_end_169 : decode cX7_end 169 = .ok (.sipush 300, 3) := by decide +kernel
theorem dX7_end_172 : decode cX7_end 172 = .ok (.aload_n 0, 1) := by decide +kernel
theorem dX7_end_173 : decode cX7_end 173 = .ok (.getfield 146, 3) := by decide +kernel
theorem dX7_end_176 : decode cX7_end 176 = .ok (.imul, 1) := by decide +kernel
theorem dX7_end_177 : decode cX7_end 177 = .ok (.iload_n 2, 1) := by decide +kernel
theorem dX7_end_178 : decode cX7_end 178 = .ok (.iadd, 1) := by decide +kernel
theorem dX7_end_179 : decode cX7_end 179 = .ok (.aload_n 0, 1) := by decide +kernel
theorem dX7_end_180 : decode cX7_end 180 = .ok (.getfield 36, 3) := by decide +kernel
theorem dX7_end_183 : decode cX7_end 183 = .ok (.iload_n 2, 1) := by decide +kernel
theorem dX7_end_184 : decode cX7_end 184 = .ok (.baload, 1) := by decide +kernel
theorem dX7_end_185 : decode cX7_end 185 = .ok (.bastore, 1) := by decide +kernel
theorem dX7_end_186 : decode cX7_end 186 = .ok (.iinc 2 1, 3) := by decide +kernel
theorem dX7_end_189 : decode cX7_end 189 = .ok (.goto (-32), 3) := by decide +kernel
theorem dX7_end_192 : decode cX7_end 192 = .ok (.aload_n 0, 1) := by decide +kernel
theorem dX7_end_193 : decode cX7_end 193 = .ok (.dup, 1) := by decide +kernel
theorem dX7_end_194 : decode cX7_end 194 = .ok (.getfield 146, 3) := by decide +kernel
theorem dX7_end_197 : decode cX7_end 197 = .ok (.iconst 1, 1) := by decide +kernel
theorem dX7_end_198 : decode cX7_end 198 = .ok (.iadd, 1) := by decide +kernel
theorem dX7_end_199 : decode cX7_end 199 = .ok (.putfield 146, 3) := by decide +kernel
theorem dX7_end_202 : decode cX7_end 202 = .ok (.return_, 1) := by decide +kernel
set_option maxRecDepth 20000 in
theorem ggX7_receive_X7_end : GoodIn wsX7_receive wsX7_end := goodIn_r _ [12, 3, 13, 14, 15, 16, 17, 18, 6, 7, 19, 20, 21, 22, 23, 24, 25, 26, 27, 28, 29, 30, 31, 32, 33, 34, 35, 36, 37, 38, 39, 40, 41, 42, 43, 44, 45, 46, 47, 48, 49, 50] (by decide +kernel) (by decide +kernel)
set_option maxRecDepth 20000 in
theorem gX7_receive_X7_end : GoodIn wsX7_receive (wsV RX7 137 RX7 yX7_end wsX7_end) := goodIn_app (goodIn_of _ (by decide +kernel)) ggX7_receive_X7_end
theorem dX7_receive_0 : decode cX7_receive 0 = .ok (.aload_n 0, 1) := by decide +kernel
theorem dX7_receive_1 : decode cX7_receive 1 = .ok (.dup, 1) := by decide +kernel
theorem dX7_receive_2 : decode cX7_receive 2 = .ok (.getfield 152, 3) := by decide +kernel
theorem dX7_receive_5 : decode cX7_receive 5 = .ok (.iconst 1, 1) := by decide +kernel
theorem dX7_receive_6 : decode cX7_receive 6 = .ok (.iadd, 1) := by decide +kernel
theorem dX7_receive_7 : decode cX7_receive 7 = .ok (.putfield 152, 3) := by decide +kernel
theorem dX7_receive_10 : decode cX7_receive 10 = .ok (.iconst 0, 1) := by decide +kernel
theorem dX7_receive_11 : decode cX7_receive 11 = .ok (.istore_n 2, 1) := by decide +kernel
theorem dX7_receive_12 : decode cX7_receive 12 = .ok (.iload_n 2, 1) := by decide +kernel
theorem dX7_receive_13 : decode cX7_receive 13 = .ok (.bipush 99, 2) := by decide +kernel
theorem dX7_receive_15 : decode cX7_receive 15 = .ok (.if_icmp .ge 23, 3) := by decide +kernel
theorem dX7_receive_18 : decode cX7_receive 18 = .ok (.aload_n 0, 1) := by decide +kernel
theorem dX7_receive_19 : decode cX7_receive 19 = .ok (.getfield 33, 3) := by decide +kernel
theorem dX7_receive_22 : decode cX7_receive 22 = .ok (.iload_n 2, 1) := by decide +kernel
theorem dX7_receive_23 : decode cX7_receive 23 = .ok (.aload_n 0, 1) := by decide +kernel
theorem dX7_receive_24 : decode cX7_receive 24 = .ok (.getfield 33, 3) := by decide +kernel
theorem dX7_receive_27 : decode cX7_receive 27 = .ok (.iload_n 2, 1) := by decide +kernel
theorem dX7_receive_28 : decode cX7_receive 28 = .ok (.iconst 1, 1) := by decide +kernel
theorem dX7_receive_29 : decode cX7_receive 29 = .ok (.iadd, 1) := by decide +kernel
theorem dX7_receive_30 : decode cX7_receive 30 = .ok (.iaload, 1) := by decide +kernel
theorem dX7_receive_31 : decode cX7_receive 31 = .ok (.iastore, 1) := by decide +kernel
theorem dX7_receive_32 : decode cX7_receive 32 = .ok (.iinc 2 1, 3) := by decide +kernel
theorem dX7_receive_35 : decode cX7_receive 35 = .ok (.goto (-23), 3) := by decide +kernel
theorem dX7_receive_38 : decode cX7_receive 38 = .ok (.aload_n 0, 1) := by decide +kernel
theorem dX7_receive_39 : decode cX7_receive 39 = .ok (.getfield 33, 3) := by decide +kernel
theorem dX7_receive_42 : decode cX7_receive 42 = .ok (.bipush 99, 2) := by decide +kernel
theorem dX7_receive_44 : decode cX7_receive 44 = .ok (.iload_n 1, 1) := by decide +kernel
theorem dX7_receive_45 : decode cX7_receive 45 = .ok (.iconst (-1), 1) := by decide +kernel
theorem dX7_receive_46 : decode cX7_receive 46 = .ok (.if_icmp .ne 9, 3) := by decide +kernel
theorem dX7_receive_49 : decode cX7_receive 49 = .ok (.sipush 512, 3) := by decide +kernel
theorem dX7_receive_52 : decode cX7_receive 52 = .ok (.goto 4, 3) := by decide +kernel
theorem dX7_receive_55 : decode cX7_receive 55 = .ok (.iload_n 1, 1) := by decide +kernel
theorem dX7_receive_56 : decode cX7_receive 56 = .ok (.iastore, 1) := by decide +kernel
theorem dX7_receive_57 : decode cX7_receive 57 = .ok (.aload_n 0, 1) := by decide +kernel
theorem dX7_receive_58 : decode cX7_receive 58 = .ok (.getfield 134, 3) := by decide +kernel
theorem dX7_receive_61 : decode cX7_receive 61 = .ok (.ifCond .eq 33, 3) := by decide +kernel
theorem dX7_receive_64 : decode cX7_receive 64 = .ok (.aload_n 0, 1) := by decide +kernel
theorem dX7_receive_65 : decode cX7_receive 65 = .ok (.getfield 155, 3) := by decide +kernel
theorem dX7_receive_68 : decode cX7_receive 68 = .ok (.ifCond .eq 26, 3) := by decide +kernel
theorem dX7_receive_71 : decode cX7_receive 71 = .ok (.aload_n 0, 1) := by decide +kernel
theorem dX7_receive_72 : decode cX7_receive 72 = .ok (.iload_n 1, 1) := by decide +kernel
theorem dX7_receive_73 : decode cX7_receive 73 = .ok (.sipush 503, 3) := by decide +kernel
theorem dX7_receive_76 : decode cX7_receive 76 = .ok (.if_icmp .ne 14, 3) := by decide +kernel
theorem dX7_receive_79 : decode cX7_receive 79 = .ok (.aload_n 0, 1) := by decide +kernel
theorem dX7_receive_80 : decode cX7_receive 80 = .ok (.getfield 158, 3) := by decide +kernel
theorem dX7_receive_83 : decode cX7_receive 83 = .ok (.ifCond .ne 7, 3) := by decide +kernel
theorem dX7_receive_86 : decode cX7_receive 86 = .ok (.iconst 1, 1) := by decide +kernel
theorem dX7_receive_87 : decode cX7_receive 87 = .ok (.goto 4, 3) := by decide +kernel
theorem dX7_receive_90 : decode cX7_receive 90 = .ok (.iconst 0, 1) := by decide +kernel
theorem dX7_receive_91 : decode cX7_receive 91 = .ok (.invokevirtual 137, 3) := by decide +kernel
theorem dX7_receive_94 : decode cX7_receive 94 = .ok (.iload_n 1, 1) := by decide +kernel
theorem dX7_receive_95 : decode cX7_receive 95 = .ok (.sipush 507, 3) := by decide +kernel
theorem dX7_receive_98 : decode cX7_receive 98 = .ok (.if_icmp .ne 38, 3) := by decide +kernel
theorem dX7_receive_101 : decode cX7_receive 101 = .ok (.aload_n 0, 1) := by decide +kernel
theorem dX7_receive_102 : decode cX7_receive 102 = .ok (.getfield 134, 3) := by decide +kernel
theorem dX7_receive_105 : decode cX7_receive 105 = .ok (.ifCond .eq 8, 3) := by decide +kernel
theorem dX7_receive_108 : decode cX7_receive 108 = .ok (.aload_n 0, 1) := by decide +kernel
theorem dX7_receive_109 : decode cX7_receive 109 = .ok (.iconst 0, 1) := by decide +kernel
theorem dX7_receive_110 : decode cX7_receive 110 = .ok (.invokevirtual 137, 3) := by decide +kernel
theorem dX7_receive_113 : decode cX7_receive 113 = .ok (.aload_n 0, 1) := by decide +kernel
theorem dX7_receive_114 : decode cX7_receive 114 = .ok (.iconst 1, 1) := by decide +kernel
theorem dX7_receive_115 : decode cX7_receive 115 = .ok (.putfield 134, 3) := by decide +kernel
theorem dX7_receive_118 : decode cX7_receive 118 = .ok (.aload_n 0, 1) := by decide +kernel
theorem dX7_receive_119 : decode cX7_receive 119 = .ok (.iconst 0, 1) := by decide +kernel
theorem dX7_receive_120 : decode cX7_receive 120 = .ok (.putfield 158, 3) := by decide +kernel
theorem dX7_receive_123 : decode cX7_receive 123 = .ok (.aload_n 0, 1) := by decide +kernel
theorem dX7_receive_124 : decode cX7_receive 124 = .ok (.iconst 0, 1) := by decide +kernel
theorem dX7_receive_125 : decode cX7_receive 125 = .ok (.putfield 155, 3) := by decide +kernel
theorem dX7_receive_128 : decode cX7_receive 128 = .ok (.aload_n 0, 1) := by decide +kernel
theorem dX7_receive_129 : decode cX7_receive 129 = .ok (.iconst 0, 1) := by decide +kernel
theorem dX7_receive_130 : decode cX7_receive 130 = .ok (.putfield 149, 3) := by decide +kernel
theorem dX7_receive_133 : decode cX7_receive 133 = .ok (.goto 113, 3) := by decide +kernel
theorem dX7_receive_136 : decode cX7_receive 136 = .ok (.aload_n 0, 1) := by decide +kernel
theorem dX7_receive_137 : decode cX7_receive 137 = .ok (.getfield 134, 3) := by decide +kernel
theorem dX7_receive_140 : decode cX7_receive 140 = .ok (.ifCond .eq 16, 3) := by decide +kernel
theorem dX7_receive_143 : decode cX7_receive 143 = .ok (.iload_n 1, 1) := by decide +kernel
theorem dX7_receive_144 : decode cX7_receive 144 = .ok (.iconst (-1), 1) := by decide +kernel
theorem dX7_receive_145 : decode cX7_receive 145 = .ok (.if_icmp .ne 11, 3) := by decide +kernel
theorem dX7_receive_148 : decode cX7_receive 148 = .ok (.aload_n 0, 1) := by decide +kernel
theorem dX7_receive_149 : decode cX7_receive 149 = .ok (.iconst 1, 1) := by decide +kernel
theorem dX7_receive_150 : decode cX7_receive 150 = .ok (.putfield 158, 3) := by decide +kernel
theorem dX7_receive_153 : decode cX7_receive 153 = .ok (.goto 93, 3) := by decide +kernel
theorem dX7_receive_156 : decode cX7_receive 156 = .ok (.aload_n 0, 1) := by decide +kernel
theorem dX7_receive_157 : decode cX7_receive 157 = .ok (.getfield 134, 3) := by decide +kernel
theorem dX7_receive_160 : decode cX7_receive 160 = .ok (.ifCond .eq 52, 3) := by decide +kernel
theorem dX7_receive_163 : decode cX7_receive 163 = .ok (.iload_n 1, 1) := by decide +kernel
theorem dX7_receive_164 : decode cX7_receive 164 = .ok (.sipush 256, 3) := by decide +kernel
theorem dX7_receive_167 : decode cX7_receive 167 = .ok (.if_icmp .ge 45, 3) := by decide +kernel
theorem dX7_receive_170 : decode cX7_receive 170 = .ok (.aload_n 0, 1) := by decide +kernel
theorem dX7_receive_171 : decode cX7_receive 171 = .ok (.getfield 149, 3) := by decide +kernel
theorem dX7_receive_174 : decode cX7_receive 174 = .ok (.sipush 300, 3) := by decide +kernel
theorem dX7_receive_177 : decode cX7_receive 177 = .ok (.if_icmp .ne 11, 3) := by decide +kernel
theorem dX7_receive_180 : decode cX7_receive 180 = .ok (.aload_n 0, 1) := by decide +kernel
theorem dX7_receive_181 : decode cX7_receive 181 = .ok (.iconst 1, 1) := by decide +kernel
theorem dX7_receive_182 : decode cX7_receive 182 = .ok (.putfield 158, 3) := by decide +kernel
theorem dX7_receive_185 : decode cX7_receive 185 = .ok (.goto 61, 3) := by decide +kernel
theorem dX7_receive_188 : decode cX7_receive 188 = .ok (.aload_n 0, 1) := by decide +kernel
theorem dX7_receive_189 : decode cX7_receive 189 = .ok (.getfield 36, 3) := by decide +kernel
theorem dX7_receive_192 : decode cX7_receive 192 = .ok (.aload_n 0, 1) := by decide +kernel
theorem dX7_receive_193 : decode cX7_receive 193 = .ok (.getfield 149, 3) := by decide +kernel
theorem dX7_receive_196 : decode cX7_receive 196 = .ok (.iload_n 1, 1) := by decide +kernel
theorem dX7_receive_197 : decode cX7_receive 197 = .ok (.i2b, 1) := by decide +kernel
theorem dX7_receive_198 : decode cX7_receive 198 = .ok (.bastore, 1) := by decide +kernel
theorem dX7_receive_199 : decode cX7_receive 199 = .ok (.aload_n 0, 1) := by decide +kernel
theorem dX7_receive_200 : decode cX7_receive 200 = .ok (.dup, 1) := by decide +kernel
theorem dX7_receive_201 : decode cX7_receive 201 = .ok (.getfield 149, 3) := by decide +kernel
theorem dX7_receive_204 : decode cX7_receive 204 = .ok (.iconst 1, 1) := by decide +kernel
theorem dX7_receive_205 : decode cX7_receive 205 = .ok (.iadd, 1) := by decide +kernel
theorem dX7_receive_206 : decode cX7_receive 206 = .ok (.putfield 149, 3) := by decide +kernel
theorem dX7_receive_209 : decode cX7_receive 209 = .ok (.goto 37, 3) := by decide +kernel
theorem dX7_receive_212 : decode cX7_receive 212 = .ok (.aload_n 0, 1) := by decide +kernel
theorem dX7_receive_213 : decode cX7_receive 213 = .ok (.getfield 134, 3) := by decide +kernel
theorem dX7_receive_216 : decode cX7_receive 216 = .ok (.ifCond .eq 18, 3) := by decide +kernel
theorem dX7_receive_219 : decode cX7_receive 219 = .ok (.iload_n 1, 1) := by decide +kernel
theorem dX7_receive_220 : decode cX7_receive 220 = .ok (.sipush 509, 3) := by decide +kernel
theorem dX7_receive_223 : decode cX7_receive 223 = .ok (.if_icmp .ne 11, 3) := by decide +kernel
theorem dX7_receive_226 : decode cX7_receive 226 = .ok (.aload_n 0, 1) := by decide +kernel
theorem dX7_receive_227 : decode cX7_receive 227 = .ok (.iconst 1, 1) := by decide +kernel
theorem dX7_receive_228 : decode cX7_receive 228 = .ok (.putfield 155, 3) := by decide +kernel
theorem dX7_receive_231 : decode cX7_receive 231 = .ok (.goto 15, 3) := by decide +kernel
theorem dX7_receive_234 : decode cX7_receive 234 = .ok (.aload_n 0, 1) := by decide +kernel
theorem dX7_receive_235 : decode cX7_receive 235 = .ok (.getfield 134, 3) := by decide +kernel
theorem dX7_receive_238 : decode cX7_receive 238 = .ok (.ifCond .eq 8, 3) := by decide +kernel
theorem dX7_receive_241 : decode cX7_receive 241 = .ok (.aload_n 0, 1) := by decide +kernel
theorem dX7_receive_242 : decode cX7_receive 242 = .ok (.iconst 0, 1) := by decide +kernel
theorem dX7_receive_243 : decode cX7_receive 243 = .ok (.invokevirtual 137, 3) := by decide +kernel
theorem dX7_receive_246 : decode cX7_receive 246 = .ok (.return_, 1) := by decide +kernel
theorem dX7_level_0 : decode cX7_level 0 = .ok (.aload_n 0, 1) := by decide +kernel
theorem dX7_level_1 : decode cX7_level 1 = .ok (.getfield 96, 3) := by decide +kernel
theorem dX7_level_4 : decode cX7_level 4 = .ok (.ireturn, 1) := by decide +kernel
theorem dX7_trust_0 : decode cX7_trust 0 = .ok (.aload_n 0, 1) := by decide +kernel
theorem dX7_trust_1 : decode cX7_trust 1 = .ok (.getfield 122, 3) := by decide +kernel
theorem dX7_trust_4 : decode cX7_trust 4 = .ok (.ireturn, 1) := by decide +kernel
theorem dX7_symbol_0 : decode cX7_symbol 0 = .ok (.iload_n 1, 1) := by decide +kernel
theorem dX7_symbol_1 : decode cX7_symbol 1 = .ok (.ifCond .lt 29, 3) := by decide +kernel
theorem dX7_symbol_4 : decode cX7_symbol 4 = .ok (.iload_n 1, 1) := by decide +kernel
theorem dX7_symbol_5 : decode cX7_symbol 5 = .ok (.bipush 100, 2) := by decide +kernel
theorem dX7_symbol_7 : decode cX7_symbol 7 = .ok (.if_icmp .ge 23, 3) := by decide +kernel
theorem dX7_symbol_10 : decode cX7_symbol 10 = .ok (.iload_n 1, 1) := by decide +kernel
theorem dX7_symbol_11 : decode cX7_symbol 11 = .ok (.aload_n 0, 1) := by decide +kernel
theorem dX7_symbol_12 : decode cX7_symbol 12 = .ok (.getfield 152, 3) := by decide +kernel
theorem dX7_symbol_15 : decode cX7_symbol 15 = .ok (.if_icmp .ge 15, 3) := by decide +kernel
theorem dX7_symbol_18 : decode cX7_symbol 18 = .ok (.aload_n 0, 1) := by decide +kernel
theorem dX7_symbol_19 : decode cX7_symbol 19 = .ok (.getfield 33, 3) := by decide +kernel
theorem dX7_symbol_22 : decode cX7_symbol 22 = .ok (.bipush 99, 2) := by decide +kernel
theorem dX7_symbol_24 : decode cX7_symbol 24 = .ok (.iload_n 1, 1) := by decide +kernel
theorem dX7_symbol_25 : decode cX7_symbol 25 = .ok (.isub, 1) := by decide +kernel
theorem dX7_symbol_26 : decode cX7_symbol 26 = .ok (.iaload, 1) := by decide +kernel
theorem dX7_symbol_27 : decode cX7_symbol 27 = .ok (.goto 4, 3) := by decide +kernel
theorem dX7_symbol_30 : decode cX7_symbol 30 = .ok (.iconst (-1), 1) := by decide +kernel
theorem dX7_symbol_31 : decode cX7_symbol 31 = .ok (.ireturn, 1) := by decide +kernel
theorem dX7_isFrame_0 : decode cX7_isFrame 0 = .ok (.iload_n 1, 1) := by decide +kernel
theorem dX7_isFrame_1 : decode cX7_isFrame 1 = .ok (.ifCond .lt 15, 3) := by decide +kernel
theorem dX7_isFrame_4 : decode cX7_isFrame 4 = .ok (.iload_n 1, 1) := by decide +kernel
theorem dX7_isFrame_5 : decode cX7_isFrame 5 = .ok (.aload_n 0, 1) := by decide +kernel
theorem dX7_isFrame_6 : decode cX7_isFrame 6 = .ok (.getfield 146, 3) := by decide +kernel
theorem dX7_isFrame_9 : decode cX7_isFrame 9 = .ok (.if_icmp .ge 7, 3) := by decide +kernel
theorem dX7_isFrame_12 : decode cX7_isFrame 12 = .ok (.iconst 1, 1) := by decide +kernel
theorem dX7_isFrame_13 : decode cX7_isFrame 13 = .ok (.goto 4, 3) := by decide +kernel
theorem dX7_isFrame_16 : decode cX7_isFrame 16 = .ok (.iconst 0, 1) := by decide +kernel
theorem dX7_isFrame_17 : decode cX7_isFrame 17 = .ok (.ireturn, 1) := by decide +kernel
set_option maxRecDepth 20000 in
theorem ggX7_length_X7_isFrame : GoodIn wsX7_length wsX7_isFrame := goodIn_r _ [6, 7, 8, 9, 10, 11, 12, 13, 14, 15, 16, 17, 18, 19, 20, 21, 22, 23, 24, 25, 26, 27, 28, 29, 30, 31, 32, 33, 34, 35, 36, 37, 38, 39] (by decide +kernel) (by decide +kernel)
set_option maxRecDepth 20000 in
theorem gX7_length_X7_isFrame : GoodIn wsX7_length (wsV RX7 161 RX7 yX7_isFrame wsX7_isFrame) := goodIn_app (goodIn_of _ (by decide +kernel)) ggX7_length_X7_isFrame
theorem dX7_length_0 : decode cX7_length 0 = .ok (.aload_n 0, 1) := by decide +kernel
theorem dX7_length_1 : decode cX7_length 1 = .ok (.iload_n 1, 1) := by decide +kernel
theorem dX7_length_2 : decode cX7_length 2 = .ok (.invokevirtual 161, 3) := by decide +kernel
theorem dX7_length_5 : decode cX7_length 5 = .ok (.ifCond .eq 12, 3) := by decide +kernel
theorem dX7_length_8 : decode cX7_length 8 = .ok (.aload_n 0, 1) := by decide +kernel
theorem dX7_length_9 : decode cX7_length 9 = .ok (.getfield 39, 3) := by decide +kernel
theorem dX7_length_12 : decode cX7_length 12 = .ok (.iload_n 1, 1) := by decide +kernel
theorem dX7_length_13 : decode cX7_length 13 = .ok (.iaload, 1) := by decide +kernel
theorem dX7_length_14 : decode cX7_length 14 = .ok (.goto 4, 3) := by decide +kernel
theorem dX7_length_17 : decode cX7_length 17 = .ok (.iconst (-1), 1) := by decide +kernel
theorem dX7_length_18 : decode cX7_length 18 = .ok (.ireturn, 1) := by decide +kernel
set_option maxRecDepth 20000 in
theorem ggX7_whole_X7_isFrame : GoodIn wsX7_whole wsX7_isFrame := goodIn_r _ [6, 7, 8, 9, 10, 11, 12, 13, 14, 15, 16, 17, 18, 19, 20, 21, 22, 23, 24, 25, 26, 27, 28, 29, 30, 31, 32, 33, 34, 35, 36, 37, 38, 39] (by decide +kernel) (by decide +kernel)
set_option maxRecDepth 20000 in
theorem gX7_whole_X7_isFrame : GoodIn wsX7_whole (wsV RX7 161 RX7 yX7_isFrame wsX7_isFrame) := goodIn_app (goodIn_of _ (by decide +kernel)) ggX7_whole_X7_isFrame
theorem dX7_whole_0 : decode cX7_whole 0 = .ok (.aload_n 0, 1) := by decide +kernel
theorem dX7_whole_1 : decode cX7_whole 1 = .ok (.iload_n 1, 1) := by decide +kernel
theorem dX7_whole_2 : decode cX7_whole 2 = .ok (.invokevirtual 161, 3) := by decide +kernel
theorem dX7_whole_5 : decode cX7_whole 5 = .ok (.ifCond .eq 16, 3) := by decide +kernel
theorem dX7_whole_8 : decode cX7_whole 8 = .ok (.aload_n 0, 1) := by decide +kernel
theorem dX7_whole_9 : decode cX7_whole 9 = .ok (.getfield 42, 3) := by decide +kernel
theorem dX7_whole_12 : decode cX7_whole 12 = .ok (.iload_n 1, 1) := by decide +kernel
theorem dX7_whole_13 : decode cX7_whole 13 = .ok (.baload, 1) := by decide +kernel
theorem dX7_whole_14 : decode cX7_whole 14 = .ok (.ifCond .eq 7, 3) := by decide +kernel
theorem dX7_whole_17 : decode cX7_whole 17 = .ok (.iconst 1, 1) := by decide +kernel
theorem dX7_whole_18 : decode cX7_whole 18 = .ok (.goto 4, 3) := by decide +kernel
theorem dX7_whole_21 : decode cX7_whole 21 = .ok (.iconst 0, 1) := by decide +kernel
theorem dX7_whole_22 : decode cX7_whole 22 = .ok (.ireturn, 1) := by decide +kernel
set_option maxRecDepth 20000 in
theorem ggX7_at_X7_isFrame : GoodIn wsX7_at wsX7_isFrame := goodIn_r _ [7, 8, 9, 10, 11, 12, 13, 14, 15, 16, 17, 18, 19, 20, 21, 22, 23, 24, 25, 26, 27, 28, 29, 30, 31, 32, 33, 34, 35, 36, 37, 38, 39, 40] (by decide +kernel) (by decide +kernel)
set_option maxRecDepth 20000 in
theorem gX7_at_X7_isFrame : GoodIn wsX7_at (wsV RX7 161 RX7 yX7_isFrame wsX7_isFrame) := goodIn_app (goodIn_of _ (by decide +kernel)) ggX7_at_X7_isFrame
theorem dX7_at_0 : decode cX7_at 0 = .ok (.aload_n 0, 1) := by decide +kernel
theorem dX7_at_1 : decode cX7_at 1 = .ok (.iload_n 1, 1) := by decide +kernel
theorem dX7_at_2 : decode cX7_at 2 = .ok (.invokevirtual 161, 3) := by decide +kernel
theorem dX7_at_5 : decode cX7_at 5 = .ok (.ifCond .eq 36, 3) := by decide +kernel
theorem dX7_at_8 : decode cX7_at 8 = .ok (.iload_n 2, 1) := by decide +kernel
theorem dX7_at_9 : decode cX7_at 9 = .ok (.ifCond .lt 32, 3) := by decide +kernel
theorem dX7_at_12 : decode cX7_at 12 = .ok (.iload_n 2, 1) := by decide +kernel
theorem dX7_at_13 : decode cX7_at 13 = .ok (.aload_n 0, 1) := by decide +kernel
theorem dX7_at_14 : decode cX7_at 14 = .ok (.getfield 39, 3) := by decide +kernel
theorem dX7_at_17 : decode cX7_at 17 = .ok (.iload_n 1, 1) := by decide +kernel
theorem dX7_at_18 : decode cX7_at 18 = .ok (.iaload, 1) := by decide +kernel
theorem dX7_at_19 : decode cX7_at 19 = .ok (.if_icmp .ge 22, 3) := by decide +kernel
theorem dX7_at_22 : decode cX7_at 22 = .ok (.aload_n 0, 1) := by decide +kernel
theorem dX7_at_23 : decode cX7_at 23 = .ok (.getfield 46, 3) := by decide +kernel
theorem dX7_at_26 : decode cX7_at 26 = .ok (.sipush 300, 3) := by decide +kernel
theorem dX7_at_29 : decode cX7_at 29 = .ok (.iload_n 1, 1) := by decide +kernel
theorem dX7_at_30 : decode cX7_at 30 = .ok (.imul, 1) := by decide +kernel
theorem dX7_at_31 : decode cX7_at 31 = .ok (.iload_n 2, 1) := by decide +kernel
theorem dX7_at_32 : decode cX7_at 32 = .ok (.iadd, 1) := by decide +kernel
theorem dX7_at_33 : decode cX7_at 33 = .ok (.baload, 1) := by decide +kernel
theorem dX7_at_34 : decode cX7_at 34 = .ok (.sipush 255, 3) := by decide +kernel
theorem dX7_at_37 : decode cX7_at 37 = .ok (.iand, 1) := by decide +kernel
theorem dX7_at_38 : decode cX7_at 38 = .ok (.goto 4, 3) := by decide +kernel
theorem dX7_at_41 : decode cX7_at 41 = .ok (.iconst (-1), 1) := by decide +kernel
theorem dX7_at_42 : decode cX7_at 42 = .ok (.ireturn, 1) := by decide +kernel
theorem dX7_count_0 : decode cX7_count 0 = .ok (.iload_n 1, 1) := by decide +kernel
theorem dX7_count_1 : decode cX7_count 1 = .ok (.tableswitch 87 0 7 #[47, 52, 57, 62, 67, 72, 77, 82], 47) := by decide +kernel
theorem dX7_count_48 : decode cX7_count 48 = .ok (.aload_n 0, 1) := by decide +kernel
theorem dX7_count_49 : decode cX7_count 49 = .ok (.getfield 76, 3) := by decide +kernel
theorem dX7_count_52 : decode cX7_count 52 = .ok (.ireturn, 1) := by decide +kernel
theorem dX7_count_53 : decode cX7_count 53 = .ok (.aload_n 0, 1) := by decide +kernel
theorem dX7_count_54 : decode cX7_count 54 = .ok (.getfield 113, 3) := by decide +kernel
theorem dX7_count_57 : decode cX7_count 57 = .ok (.ireturn, 1) := by decide +kernel
theorem dX7_count_58 : decode cX7_count 58 = .ok (.aload_n 0, 1) := by decide +kernel
theorem dX7_count_59 : decode cX7_count 59 = .ok (.getfield 116, 3) := by decide +kernel
theorem dX7_count_62 : decode cX7_count 62 = .ok (.ireturn, 1) := by decide +kernel
theorem dX7_count_63 : decode cX7_count 63 = .ok (.aload_n 0, 1) := by decide +kernel
theorem dX7_count_64 : decode cX7_count 64 = .ok (.getfield 131, 3) := by decide +kernel
theorem dX7_count_67 : decode cX7_count 67 = .ok (.ireturn, 1) := by decide +kernel
theorem dX7_count_68 : decode cX7_count 68 = .ok (.aload_n 0, 1) := by decide +kernel
theorem dX7_count_69 : decode cX7_count 69 = .ok (.getfield 146, 3) := by decide +kernel
theorem dX7_count_72 : decode cX7_count 72 = .ok (.ireturn, 1) := by decide +kernel
theorem dX7_count_73 : decode cX7_count 73 = .ok (.aload_n 0, 1) := by decide +kernel
theorem dX7_count_74 : decode cX7_count 74 = .ok (.getfield 140, 3) := by decide +kernel
theorem dX7_count_77 : decode cX7_count 77 = .ok (.ireturn, 1) := by decide +kernel
theorem dX7_count_78 : decode cX7_count 78 = .ok (.aload_n 0, 1) := by decide +kernel
theorem dX7_count_79 : decode cX7_count 79 = .ok (.getfield 143, 3) := by decide +kernel
theorem dX7_count_82 : decode cX7_count 82 = .ok (.ireturn, 1) := by decide +kernel
theorem dX7_count_83 : decode cX7_count 83 = .ok (.aload_n 0, 1) := by decide +kernel
theorem dX7_count_84 : decode cX7_count 84 = .ok (.getfield 152, 3) := by decide +kernel
theorem dX7_count_87 : decode cX7_count 87 = .ok (.ireturn, 1) := by decide +kernel
theorem dX7_count_88 : decode cX7_count 88 = .ok (.iconst (-1), 1) := by decide +kernel
theorem dX7_count_89 : decode cX7_count 89 = .ok (.ireturn, 1) := by decide +kernel
theorem dJ6_bitCount_0f7a4_0 : decode cJ6_bitCount_0f7a4 0 = .ok (.iload_n 0, 1) := by decide +kernel
theorem dJ6_bitCount_0f7a4_1 : decode cJ6_bitCount_0f7a4 1 = .ok (.iload_n 0, 1) := by decide +kernel
theorem dJ6_bitCount_0f7a4_2 : decode cJ6_bitCount_0f7a4 2 = .ok (.iconst 1, 1) := by decide +kernel
theorem dJ6_bitCount_0f7a4_3 : decode cJ6_bitCount_0f7a4 3 = .ok (.iushr, 1) := by decide +kernel
theorem dJ6_bitCount_0f7a4_4 : decode cJ6_bitCount_0f7a4 4 = .ok (.ldc_w 265, 3) := by decide +kernel
theorem dJ6_bitCount_0f7a4_7 : decode cJ6_bitCount_0f7a4 7 = .ok (.iand, 1) := by decide +kernel
theorem dJ6_bitCount_0f7a4_8 : decode cJ6_bitCount_0f7a4 8 = .ok (.isub, 1) := by decide +kernel
theorem dJ6_bitCount_0f7a4_9 : decode cJ6_bitCount_0f7a4 9 = .ok (.istore_n 0, 1) := by decide +kernel
theorem dJ6_bitCount_0f7a4_10 : decode cJ6_bitCount_0f7a4 10 = .ok (.iload_n 0, 1) := by decide +kernel
theorem dJ6_bitCount_0f7a4_11 : decode cJ6_bitCount_0f7a4 11 = .ok (.ldc_w 266, 3) := by decide +kernel
theorem dJ6_bitCount_0f7a4_14 : decode cJ6_bitCount_0f7a4 14 = .ok (.iand, 1) := by decide +kernel
theorem dJ6_bitCount_0f7a4_15 : decode cJ6_bitCount_0f7a4 15 = .ok (.iload_n 0, 1) := by decide +kernel
theorem dJ6_bitCount_0f7a4_16 : decode cJ6_bitCount_0f7a4 16 = .ok (.iconst 2, 1) := by decide +kernel
theorem dJ6_bitCount_0f7a4_17 : decode cJ6_bitCount_0f7a4 17 = .ok (.iushr, 1) := by decide +kernel
theorem dJ6_bitCount_0f7a4_18 : decode cJ6_bitCount_0f7a4 18 = .ok (.ldc_w 266, 3) := by decide +kernel
theorem dJ6_bitCount_0f7a4_21 : decode cJ6_bitCount_0f7a4 21 = .ok (.iand, 1) := by decide +kernel
theorem dJ6_bitCount_0f7a4_22 : decode cJ6_bitCount_0f7a4 22 = .ok (.iadd, 1) := by decide +kernel
theorem dJ6_bitCount_0f7a4_23 : decode cJ6_bitCount_0f7a4 23 = .ok (.istore_n 0, 1) := by decide +kernel
theorem dJ6_bitCount_0f7a4_24 : decode cJ6_bitCount_0f7a4 24 = .ok (.iload_n 0, 1) := by decide +kernel
theorem dJ6_bitCount_0f7a4_25 : decode cJ6_bitCount_0f7a4 25 = .ok (.iload_n 0, 1) := by decide +kernel
theorem dJ6_bitCount_0f7a4_26 : decode cJ6_bitCount_0f7a4 26 = .ok (.iconst 4, 1) := by decide +kernel
theorem dJ6_bitCount_0f7a4_27 : decode cJ6_bitCount_0f7a4 27 = .ok (.iushr, 1) := by decide +kernel
theorem dJ6_bitCount_0f7a4_28 : decode cJ6_bitCount_0f7a4 28 = .ok (.iadd, 1) := by decide +kernel
theorem dJ6_bitCount_0f7a4_29 : decode cJ6_bitCount_0f7a4 29 = .ok (.ldc_w 267, 3) := by decide +kernel
theorem dJ6_bitCount_0f7a4_32 : decode cJ6_bitCount_0f7a4 32 = .ok (.iand, 1) := by decide +kernel
theorem dJ6_bitCount_0f7a4_33 : decode cJ6_bitCount_0f7a4 33 = .ok (.istore_n 0, 1) := by decide +kernel
theorem dJ6_bitCount_0f7a4_34 : decode cJ6_bitCount_0f7a4 34 = .ok (.iload_n 0, 1) := by decide +kernel
theorem dJ6_bitCount_0f7a4_35 : decode cJ6_bitCount_0f7a4 35 = .ok (.iload_n 0, 1) := by decide +kernel
theorem dJ6_bitCount_0f7a4_36 : decode cJ6_bitCount_0f7a4 36 = .ok (.bipush 8, 2) := by decide +kernel
theorem dJ6_bitCount_0f7a4_38 : decode cJ6_bitCount_0f7a4 38 = .ok (.iushr, 1) := by decide +kernel
theorem dJ6_bitCount_0f7a4_39 : decode cJ6_bitCount_0f7a4 39 = .ok (.iadd, 1) := by decide +kernel
theorem dJ6_bitCount_0f7a4_40 : decode cJ6_bitCount_0f7a4 40 = .ok (.istore_n 0, 1) := by decide +kernel
theorem dJ6_bitCount_0f7a4_41 : decode cJ6_bitCount_0f7a4 41 = .ok (.iload_n 0, 1) := by decide +kernel
theorem dJ6_bitCount_0f7a4_42 : decode cJ6_bitCount_0f7a4 42 = .ok (.iload_n 0, 1) := by decide +kernel
theorem dJ6_bitCount_0f7a4_43 : decode cJ6_bitCount_0f7a4 43 = .ok (.bipush 16, 2) := by decide +kernel
theorem dJ6_bitCount_0f7a4_45 : decode cJ6_bitCount_0f7a4 45 = .ok (.iushr, 1) := by decide +kernel
theorem dJ6_bitCount_0f7a4_46 : decode cJ6_bitCount_0f7a4 46 = .ok (.iadd, 1) := by decide +kernel
theorem dJ6_bitCount_0f7a4_47 : decode cJ6_bitCount_0f7a4 47 = .ok (.istore_n 0, 1) := by decide +kernel
theorem dJ6_bitCount_0f7a4_48 : decode cJ6_bitCount_0f7a4 48 = .ok (.iload_n 0, 1) := by decide +kernel
theorem dJ6_bitCount_0f7a4_49 : decode cJ6_bitCount_0f7a4 49 = .ok (.bipush 63, 2) := by decide +kernel
theorem dJ6_bitCount_0f7a4_51 : decode cJ6_bitCount_0f7a4 51 = .ok (.iand, 1) := by decide +kernel
theorem dJ6_bitCount_0f7a4_52 : decode cJ6_bitCount_0f7a4 52 = .ok (.ireturn, 1) := by decide +kernel
theorem dJ9_floorMod_7cf53_0 : decode cJ9_floorMod_7cf53 0 = .ok (.iload_n 0, 1) := by decide +kernel
theorem dJ9_floorMod_7cf53_1 : decode cJ9_floorMod_7cf53 1 = .ok (.iload_n 1, 1) := by decide +kernel
theorem dJ9_floorMod_7cf53_2 : decode cJ9_floorMod_7cf53 2 = .ok (.irem, 1) := by decide +kernel
theorem dJ9_floorMod_7cf53_3 : decode cJ9_floorMod_7cf53 3 = .ok (.istore_n 2, 1) := by decide +kernel
theorem dJ9_floorMod_7cf53_4 : decode cJ9_floorMod_7cf53 4 = .ok (.iload_n 0, 1) := by decide +kernel
theorem dJ9_floorMod_7cf53_5 : decode cJ9_floorMod_7cf53 5 = .ok (.iload_n 1, 1) := by decide +kernel
theorem dJ9_floorMod_7cf53_6 : decode cJ9_floorMod_7cf53 6 = .ok (.ixor, 1) := by decide +kernel
theorem dJ9_floorMod_7cf53_7 : decode cJ9_floorMod_7cf53 7 = .ok (.ifCond .ge 11, 3) := by decide +kernel
theorem dJ9_floorMod_7cf53_10 : decode cJ9_floorMod_7cf53 10 = .ok (.iload_n 2, 1) := by decide +kernel
theorem dJ9_floorMod_7cf53_11 : decode cJ9_floorMod_7cf53 11 = .ok (.ifCond .eq 7, 3) := by decide +kernel
theorem dJ9_floorMod_7cf53_14 : decode cJ9_floorMod_7cf53 14 = .ok (.iload_n 2, 1) := by decide +kernel
theorem dJ9_floorMod_7cf53_15 : decode cJ9_floorMod_7cf53 15 = .ok (.iload_n 1, 1) := by decide +kernel
theorem dJ9_floorMod_7cf53_16 : decode cJ9_floorMod_7cf53 16 = .ok (.iadd, 1) := by decide +kernel
theorem dJ9_floorMod_7cf53_17 : decode cJ9_floorMod_7cf53 17 = .ok (.ireturn, 1) := by decide +kernel
theorem dJ9_floorMod_7cf53_18 : decode cJ9_floorMod_7cf53 18 = .ok (.iload_n 2, 1) := by decide +kernel
theorem dJ9_floorMod_7cf53_19 : decode cJ9_floorMod_7cf53 19 = .ok (.ireturn, 1) := by decide +kernel
theorem dJ9_min_7cf53_0 : decode cJ9_min_7cf53 0 = .ok (.iload_n 0, 1) := by decide +kernel
theorem dJ9_min_7cf53_1 : decode cJ9_min_7cf53 1 = .ok (.iload_n 1, 1) := by decide +kernel
theorem dJ9_min_7cf53_2 : decode cJ9_min_7cf53 2 = .ok (.if_icmp .gt 7, 3) := by decide +kernel
theorem dJ9_min_7cf53_5 : decode cJ9_min_7cf53 5 = .ok (.iload_n 0, 1) := by decide +kernel
theorem dJ9_min_7cf53_6 : decode cJ9_min_7cf53 6 = .ok (.goto 4, 3) := by decide +kernel
theorem dJ9_min_7cf53_9 : decode cJ9_min_7cf53 9 = .ok (.iload_n 1, 1) := by decide +kernel
theorem dJ9_min_7cf53_10 : decode cJ9_min_7cf53 10 = .ok (.ireturn, 1) := by decide +kernel
