theorem dX12_monthsFrom_72 : decode cX12_monthsFrom 72 = .ok (.iconst 1, 1) := by decide +kernel
theorem dX12_monthsFrom_73 : decode cX12_monthsFrom 73 = .ok (.iadd, 1) := by decide +kernel
theorem dX12_monthsFrom_74 : decode cX12_monthsFrom 74 = .ok (.bipush 100, 2) := by decide +kernel
theorem dX12_monthsFrom_76 : decode cX12_monthsFrom 76 = .ok (.imul, 1) := by decide +kernel
theorem dX12_monthsFrom_77 : decode cX12_monthsFrom 77 = .ok (.iadd, 1) := by decide +kernel
theorem dX12_monthsFrom_78 : decode cX12_monthsFrom 78 = .ok (.iload 5, 2) := by decide +kernel
theorem dX12_monthsFrom_80 : decode cX12_monthsFrom 80 = .ok (.iadd, 1) := by decide +kernel
theorem dX12_monthsFrom_81 : decode cX12_monthsFrom 81 = .ok (.ireturn, 1) := by decide +kernel
set_option maxRecDepth 20000 in
theorem ggX12_weekdayOf_X12_dayOf : GoodIn wsX12_weekdayOf wsX12_dayOf := goodIn_r _ [6, 7, 8, 5, 9] (by decide +kernel) (by decide +kernel)
set_option maxRecDepth 20000 in
theorem gX12_weekdayOf_X12_dayOf : GoodIn wsX12_weekdayOf (va_wsS RX12 143 yX12_dayOf wsX12_dayOf) := goodIn_app (goodIn_of _ (by decide +kernel)) ggX12_weekdayOf_X12_dayOf
theorem dX12_weekdayOf_0 : decode cX12_weekdayOf 0 = .ok (.iload_n 0, 1) := by decide +kernel
theorem dX12_weekdayOf_1 : decode cX12_weekdayOf 1 = .ok (.ldc 130, 2) := by decide +kernel
theorem dX12_weekdayOf_3 : decode cX12_weekdayOf 3 = .ok (.invokestatic 143, 3) := by decide +kernel
theorem dX12_weekdayOf_6 : decode cX12_weekdayOf 6 = .ok (.isub, 1) := by decide +kernel
theorem dX12_weekdayOf_7 : decode cX12_weekdayOf 7 = .ok (.ldc 146, 2) := by decide +kernel
theorem dX12_weekdayOf_9 : decode cX12_weekdayOf 9 = .ok (.iadd, 1) := by decide +kernel
theorem dX12_weekdayOf_10 : decode cX12_weekdayOf 10 = .ok (.bipush 7, 2) := by decide +kernel
theorem dX12_weekdayOf_12 : decode cX12_weekdayOf 12 = .ok (.irem, 1) := by decide +kernel
theorem dX12_weekdayOf_13 : decode cX12_weekdayOf 13 = .ok (.ireturn, 1) := by decide +kernel
theorem dX12_common_0 : decode cX12_common 0 = .ok (.lload_n 0, 1) := by decide +kernel
theorem dX12_common_1 : decode cX12_common 1 = .ok (.lconst 0, 1) := by decide +kernel
theorem dX12_common_2 : decode cX12_common 2 = .ok (.lcmp, 1) := by decide +kernel
theorem dX12_common_3 : decode cX12_common 3 = .ok (.ifCond .ge 8, 3) := by decide +kernel
theorem dX12_common_6 : decode cX12_common 6 = .ok (.lload_n 0, 1) := by decide +kernel
theorem dX12_common_7 : decode cX12_common 7 = .ok (.lneg, 1) := by decide +kernel
theorem dX12_common_8 : decode cX12_common 8 = .ok (.goto 4, 3) := by decide +kernel
theorem dX12_common_11 : decode cX12_common 11 = .ok (.lload_n 0, 1) := by decide +kernel
theorem dX12_common_12 : decode cX12_common 12 = .ok (.lstore 4, 2) := by decide +kernel
theorem dX12_common_14 : decode cX12_common 14 = .ok (.lload_n 2, 1) := by decide +kernel
theorem dX12_common_15 : decode cX12_common 15 = .ok (.lstore 6, 2) := by decide +kernel
theorem dX12_common_17 : decode cX12_common 17 = .ok (.lload 6, 2) := by decide +kernel
theorem dX12_common_19 : decode cX12_common 19 = .ok (.lconst 0, 1) := by decide +kernel
theorem dX12_common_20 : decode cX12_common 20 = .ok (.lcmp, 1) := by decide +kernel
theorem dX12_common_21 : decode cX12_common 21 = .ok (.ifCond .eq 21, 3) := by decide +kernel
theorem dX12_common_24 : decode cX12_common 24 = .ok (.lload 4, 2) := by decide +kernel
theorem dX12_common_26 : decode cX12_common 26 = .ok (.lload 6, 2) := by decide +kernel
theorem dX12_common_28 : decode cX12_common 28 = .ok (.lrem, 1) := by decide +kernel
theorem dX12_common_29 : decode cX12_common 29 = .ok (.lstore 8, 2) := by decide +kernel
theorem dX12_common_31 : decode cX12_common 31 = .ok (.lload 6, 2) := by decide +kernel
theorem dX12_common_33 : decode cX12_common 33 = .ok (.lstore 4, 2) := by decide +kernel
theorem dX12_common_35 : decode cX12_common 35 = .ok (.lload 8, 2) := by decide +kernel
theorem dX12_common_37 : decode cX12_common 37 = .ok (.lstore 6, 2) := by decide +kernel
theorem dX12_common_39 : decode cX12_common 39 = .ok (.goto (-22), 3) := by decide +kernel
theorem dX12_common_42 : decode cX12_common 42 = .ok (.lload 4, 2) := by decide +kernel
theorem dX12_common_44 : decode cX12_common 44 = .ok (.lreturn, 1) := by decide +kernel
theorem dX12_thirties_0 : decode cX12_thirties 0 = .ok (.iload_n 0, 1) := by decide +kernel
theorem dX12_thirties_1 : decode cX12_thirties 1 = .ok (.bipush 100, 2) := by decide +kernel
theorem dX12_thirties_3 : decode cX12_thirties 3 = .ok (.irem, 1) := by decide +kernel
theorem dX12_thirties_4 : decode cX12_thirties 4 = .ok (.bipush 31, 2) := by decide +kernel
theorem dX12_thirties_6 : decode cX12_thirties 6 = .ok (.if_icmp .ne 8, 3) := by decide +kernel
theorem dX12_thirties_9 : decode cX12_thirties 9 = .ok (.bipush 30, 2) := by decide +kernel
theorem dX12_thirties_11 : decode cX12_thirties 11 = .ok (.goto 7, 3) := by decide +kernel
theorem dX12_thirties_14 : decode cX12_thirties 14 = .ok (.iload_n 0, 1) := by decide +kernel
theorem dX12_thirties_15 : decode cX12_thirties 15 = .ok (.bipush 100, 2) := by decide +kernel
theorem dX12_thirties_17 : decode cX12_thirties 17 = .ok (.irem, 1) := by decide +kernel
theorem dX12_thirties_18 : decode cX12_thirties 18 = .ok (.istore_n 3, 1) := by decide +kernel
theorem dX12_thirties_19 : decode cX12_thirties 19 = .ok (.iload_n 1, 1) := by decide +kernel
theorem dX12_thirties_20 : decode cX12_thirties 20 = .ok (.bipush 100, 2) := by decide +kernel
theorem dX12_thirties_22 : decode cX12_thirties 22 = .ok (.irem, 1) := by decide +kernel
theorem dX12_thirties_23 : decode cX12_thirties 23 = .ok (.bipush 31, 2) := by decide +kernel
theorem dX12_thirties_25 : decode cX12_thirties 25 = .ok (.if_icmp .ne 18, 3) := by decide +kernel
theorem dX12_thirties_28 : decode cX12_thirties 28 = .ok (.iload_n 2, 1) := by decide +kernel
theorem dX12_thirties_29 : decode cX12_thirties 29 = .ok (.ifCond .ne 9, 3) := by decide +kernel
theorem dX12_thirties_32 : decode cX12_thirties 32 = .ok (.iload_n 3, 1) := by decide +kernel
theorem dX12_thirties_33 : decode cX12_thirties 33 = .ok (.bipush 30, 2) := by decide +kernel
theorem dX12_thirties_35 : decode cX12_thirties 35 = .ok (.if_icmp .ne 8, 3) := by decide +kernel
theorem dX12_thirties_38 : decode cX12_thirties 38 = .ok (.bipush 30, 2) := by decide +kernel
theorem dX12_thirties_40 : decode cX12_thirties 40 = .ok (.goto 7, 3) := by decide +kernel
theorem dX12_thirties_43 : decode cX12_thirties 43 = .ok (.iload_n 1, 1) := by decide +kernel
theorem dX12_thirties_44 : decode cX12_thirties 44 = .ok (.bipush 100, 2) := by decide +kernel
theorem dX12_thirties_46 : decode cX12_thirties 46 = .ok (.irem, 1) := by decide +kernel
theorem dX12_thirties_47 : decode cX12_thirties 47 = .ok (.istore 4, 2) := by decide +kernel
theorem dX12_thirties_49 : decode cX12_thirties 49 = .ok (.sipush 360, 3) := by decide +kernel
theorem dX12_thirties_52 : decode cX12_thirties 52 = .ok (.iload_n 1, 1) := by decide +kernel
theorem dX12_thirties_53 : decode cX12_thirties 53 = .ok (.sipush 10000, 3) := by decide +kernel
theorem dX12_thirties_56 : decode cX12_thirties 56 = .ok (.idiv, 1) := by decide +kernel
theorem dX12_thirties_57 : decode cX12_thirties 57 = .ok (.iload_n 0, 1) := by decide +kernel
theorem dX12_thirties_58 : decode cX12_thirties 58 = .ok (.sipush 10000, 3) := by decide +kernel
theorem dX12_thirties_61 : decode cX12_thirties 61 = .ok (.idiv, 1) := by decide +kernel
theorem dX12_thirties_62 : decode cX12_thirties 62 = .ok (.isub, 1) := by decide +kernel
theorem dX12_thirties_63 : decode cX12_thirties 63 = .ok (.imul, 1) := by decide +kernel
theorem dX12_thirties_64 : decode cX12_thirties 64 = .ok (.bipush 30, 2) := by decide +kernel
theorem dX12_thirties_66 : decode cX12_thirties 66 = .ok (.iload_n 1, 1) := by decide +kernel
theorem dX12_thirties_67 : decode cX12_thirties 67 = .ok (.bipush 100, 2) := by decide +kernel
theorem dX12_thirties_69 : decode cX12_thirties 69 = .ok (.idiv, 1) := by decide +kernel
theorem dX12_thirties_70 : decode cX12_thirties 70 = .ok (.bipush 100, 2) := by decide +kernel
theorem dX12_thirties_72 : decode cX12_thirties 72 = .ok (.irem, 1) := by decide +kernel
theorem dX12_thirties_73 : decode cX12_thirties 73 = .ok (.iload_n 0, 1) := by decide +kernel
theorem dX12_thirties_74 : decode cX12_thirties 74 = .ok (.bipush 100, 2) := by decide +kernel
theorem dX12_thirties_76 : decode cX12_thirties 76 = .ok (.idiv, 1) := by decide +kernel
theorem dX12_thirties_77 : decode cX12_thirties 77 = .ok (.bipush 100, 2) := by decide +kernel
theorem dX12_thirties_79 : decode cX12_thirties 79 = .ok (.irem, 1) := by decide +kernel
theorem dX12_thirties_80 : decode cX12_thirties 80 = .ok (.isub, 1) := by decide +kernel
theorem dX12_thirties_81 : decode cX12_thirties 81 = .ok (.imul, 1) := by decide +kernel
theorem dX12_thirties_82 : decode cX12_thirties 82 = .ok (.iadd, 1) := by decide +kernel
theorem dX12_thirties_83 : decode cX12_thirties 83 = .ok (.iload 4, 2) := by decide +kernel
theorem dX12_thirties_85 : decode cX12_thirties 85 = .ok (.iadd, 1) := by decide +kernel
theorem dX12_thirties_86 : decode cX12_thirties 86 = .ok (.iload_n 3, 1) := by decide +kernel
theorem dX12_thirties_87 : decode cX12_thirties 87 = .ok (.isub, 1) := by decide +kernel
theorem dX12_thirties_88 : decode cX12_thirties 88 = .ok (.ireturn, 1) := by decide +kernel
theorem dJ9_floorMod_7cf53_0 : decode cJ9_floorMod_7cf53 0 = .ok (.iload_n 0, 1) := by decide +kernel
theorem dJ9_floorMod_7cf53_1 : decode cJ9_floorMod_7cf53 1 = .ok (.iload_n 1, 1) := by decide +kernel
theorem dJ9_floorMod_7cf53_2 : decode cJ9_floorMod_7cf53 2 = .ok (.irem, 1) := by decide +kernel
theorem dJ9_floorMod_7cf53_3 : decode cJ9_floorMod_7cf53 3 = .ok (.istore_n 2, 1) := by decide +kernel
theorem dJ9_floorMod_7cf53_4 : decode cJ9_floorMod_7cf53 4 = .ok (.iload_n 0, 1) := by decide +kernel
theorem dJ9_floorMod_7cf53_5 : decode cJ9_floorMod_7cf53 5 = .ok (.iload_n 1, 1) := by decide +kernel
theorem dJ9_floorMod_7cf53_6 : decode cJ9_floorMod_7cf53 6 = .ok (.ixor, 1) := by decide +kernel
theorem dJ9_floorMod_7cf53_7 : decode cJ9_floorMod_7cf53 7 = .ok (.ifCond .ge 11, 3) := by decide +kernel
theorem dJ9_floorMod_7cf53_10 : decode cJ9_floorMod_7cf53 10 = .ok (.iload_n 2, 1) := by decide +kernel
theorem dJ9_floorMod_7cf53_11 : decode cJ9_floorMod_7cf53 11 = .ok (.ifCond .eq 7, 3) := by decide +kernel
theorem dJ9_floorMod_7cf53_14 : decode cJ9_floorMod_7cf53 14 = .ok (.iload_n 2, 1) := by decide +kernel
theorem dJ9_floorMod_7cf53_15 : decode cJ9_floorMod_7cf53 15 = .ok (.iload_n 1, 1) := by decide +kernel
theorem dJ9_floorMod_7cf53_16 : decode cJ9_floorMod_7cf53 16 = .ok (.iadd, 1) := by decide +kernel
theorem dJ9_floorMod_7cf53_17 : decode cJ9_floorMod_7cf53 17 = .ok (.ireturn, 1) := by decide +kernel
theorem dJ9_floorMod_7cf53_18 : decode cJ9_floorMod_7cf53 18 = .ok (.iload_n 2, 1) := by decide +kernel
theorem dJ9_floorMod_7cf53_19 : decode cJ9_floorMod_7cf53 19 = .ok (.ireturn, 1) := by decide +kernel
set_option maxRecDepth 20000 in
theorem ggJ0_length_8abf5_J0_coder_7d493 : GoodIn wsJ0_length_8abf5 wsJ0_coder_7d493 := goodIn_r _ [6, 7, 8] (by decide +kernel) (by decide +kernel)
set_option maxRecDepth 20000 in
theorem gJ0_length_8abf5_J0_coder_7d493 : GoodIn wsJ0_length_8abf5 (wsV RJ0 335 RJ0 yJ0_coder_7d493 wsJ0_coder_7d493) := goodIn_app (goodIn_of _ (by decide +kernel)) ggJ0_length_8abf5_J0_coder_7d493
theorem dJ0_length_8abf5_0 : decode cJ0_length_8abf5 0 = .ok (.aload_n 0, 1) := by decide +kernel
theorem dJ0_length_8abf5_1 : decode cJ0_length_8abf5 1 = .ok (.getfield 9, 3) := by decide +kernel
theorem dJ0_length_8abf5_4 : decode cJ0_length_8abf5 4 = .ok (.arraylength, 1) := by decide +kernel
theorem dJ0_length_8abf5_5 : decode cJ0_length_8abf5 5 = .ok (.aload_n 0, 1) := by decide +kernel
theorem dJ0_length_8abf5_6 : decode cJ0_length_8abf5 6 = .ok (.invokevirtual 335, 3) := by decide +kernel
theorem dJ0_length_8abf5_9 : decode cJ0_length_8abf5 9 = .ok (.ishr, 1) := by decide +kernel
theorem dJ0_length_8abf5_10 : decode cJ0_length_8abf5 10 = .ok (.ireturn, 1) := by decide +kernel
set_option maxRecDepth 20000 in
theorem ggJ0_charAt_5068e_J0_isLatin1_aae02 : GoodIn wsJ0_charAt_5068e wsJ0_isLatin1_aae02 := goodIn_r _ [6, 7, 8] (by decide +kernel) (by decide +kernel)
set_option maxRecDepth 20000 in
theorem gJ0_charAt_5068e_J0_isLatin1_aae02 : GoodIn wsJ0_charAt_5068e (wsV RJ0 492 RJ0 yJ0_isLatin1_aae02 wsJ0_isLatin1_aae02) := goodIn_app (goodIn_of _ (by decide +kernel)) ggJ0_charAt_5068e_J0_isLatin1_aae02
set_option maxRecDepth 20000 in
theorem ggJ0_charAt_5068e_J1_charAt_3b067 : GoodIn wsJ0_charAt_5068e wsJ1_charAt_3b067 := goodIn_r _ [12, 13, 14, 5, 15, 16, 17, 18, 19, 20] (by decide +kernel) (by decide +kernel)
set_option maxRecDepth 20000 in
theorem gJ0_charAt_5068e_J1_charAt_3b067 : GoodIn wsJ0_charAt_5068e (va_wsS RJ0 495 yJ1_charAt_3b067 wsJ1_charAt_3b067) := goodIn_app (goodIn_of _ (by decide +kernel)) ggJ0_charAt_5068e_J1_charAt_3b067
theorem dJ0_charAt_5068e_0 : decode cJ0_charAt_5068e 0 = .ok (.aload_n 0, 1) := by decide +kernel
theorem dJ0_charAt_5068e_1 : decode cJ0_charAt_5068e 1 = .ok (.invokevirtual 492, 3) := by decide +kernel
theorem dJ0_charAt_5068e_4 : decode cJ0_charAt_5068e 4 = .ok (.ifCond .eq 12, 3) := by decide +kernel
theorem dJ0_charAt_5068e_7 : decode cJ0_charAt_5068e 7 = .ok (.aload_n 0, 1) := by decide +kernel
theorem dJ0_charAt_5068e_8 : decode cJ0_charAt_5068e 8 = .ok (.getfield 9, 3) := by decide +kernel
theorem dJ0_charAt_5068e_11 : decode cJ0_charAt_5068e 11 = .ok (.iload_n 1, 1) := by decide +kernel
theorem dJ0_charAt_5068e_12 : decode cJ0_charAt_5068e 12 = .ok (.invokestatic 495, 3) := by decide +kernel
theorem dJ0_charAt_5068e_15 : decode cJ0_charAt_5068e 15 = .ok (.ireturn, 1) := by decide +kernel
theorem dJ0_charAt_5068e_16 : decode cJ0_charAt_5068e 16 = .ok (.aload_n 0, 1) := by decide +kernel
theorem dJ0_charAt_5068e_17 : decode cJ0_charAt_5068e 17 = .ok (.getfield 9, 3) := by decide +kernel
theorem dJ0_charAt_5068e_20 : decode cJ0_charAt_5068e 20 = .ok (.iload_n 1, 1) := by decide +kernel
theorem dJ0_charAt_5068e_21 : decode cJ0_charAt_5068e 21 = .ok (.invokestatic 498, 3) := by decide +kernel
theorem dJ0_charAt_5068e_24 : decode cJ0_charAt_5068e 24 = .ok (.ireturn, 1) := by decide +kernel
theorem dJ0_coder_7d493_0 : decode cJ0_coder_7d493 0 = .ok (.getstatic 38, 3) := by decide +kernel
theorem dJ0_coder_7d493_3 : decode cJ0_coder_7d493 3 = .ok (.ifCond .eq 10, 3) := by decide +kernel
theorem dJ0_coder_7d493_6 : decode cJ0_coder_7d493 6 = .ok (.aload_n 0, 1) := by decide +kernel
theorem dJ0_coder_7d493_7 : decode cJ0_coder_7d493 7 = .ok (.getfield 15, 3) := by decide +kernel
theorem dJ0_coder_7d493_10 : decode cJ0_coder_7d493 10 = .ok (.goto 4, 3) := by decide +kernel
theorem dJ0_coder_7d493_13 : decode cJ0_coder_7d493 13 = .ok (.iconst 1, 1) := by decide +kernel
theorem dJ0_coder_7d493_14 : decode cJ0_coder_7d493 14 = .ok (.ireturn, 1) := by decide +kernel
theorem dJ0_isLatin1_aae02_0 : decode cJ0_isLatin1_aae02 0 = .ok (.getstatic 38, 3) := by decide +kernel
theorem dJ0_isLatin1_aae02_3 : decode cJ0_isLatin1_aae02 3 = .ok (.ifCond .eq 14, 3) := by decide +kernel
theorem dJ0_isLatin1_aae02_6 : decode cJ0_isLatin1_aae02 6 = .ok (.aload_n 0, 1) := by decide +kernel
theorem dJ0_isLatin1_aae02_7 : decode cJ0_isLatin1_aae02 7 = .ok (.getfield 15, 3) := by decide +kernel
theorem dJ0_isLatin1_aae02_10 : decode cJ0_isLatin1_aae02 10 = .ok (.ifCond .ne 7, 3) := by decide +kernel
theorem dJ0_isLatin1_aae02_13 : decode cJ0_isLatin1_aae02 13 = .ok (.iconst 1, 1) := by decide +kernel
theorem dJ0_isLatin1_aae02_14 : decode cJ0_isLatin1_aae02 14 = .ok (.goto 4, 3) := by decide +kernel
theorem dJ0_isLatin1_aae02_17 : decode cJ0_isLatin1_aae02 17 = .ok (.iconst 0, 1) := by decide +kernel
theorem dJ0_isLatin1_aae02_18 : decode cJ0_isLatin1_aae02 18 = .ok (.ireturn, 1) := by decide +kernel
set_option maxRecDepth 20000 in
theorem ggJ0_checkIndex_df160_J3_checkIndex_8e157 : GoodIn wsJ0_checkIndex_df160 wsJ3_checkIndex_8e157 := goodIn_r _ [5] (by decide +kernel) (by decide +kernel)
set_option maxRecDepth 20000 in
theorem gJ0_checkIndex_df160_J3_checkIndex_8e157 : GoodIn wsJ0_checkIndex_df160 (va_wsS RJ0 1059 yJ3_checkIndex_8e157 wsJ3_checkIndex_8e157) := goodIn_app (goodIn_of _ (by decide +kernel)) ggJ0_checkIndex_df160_J3_checkIndex_8e157
theorem dJ0_checkIndex_df160_0 : decode cJ0_checkIndex_df160 0 = .ok (.iload_n 0, 1) := by decide +kernel
theorem dJ0_checkIndex_df160_1 : decode cJ0_checkIndex_df160 1 = .ok (.iload_n 1, 1) := by decide +kernel
theorem dJ0_checkIndex_df160_2 : decode cJ0_checkIndex_df160 2 = .ok (.getstatic 1053, 3) := by decide +kernel
theorem dJ0_checkIndex_df160_5 : decode cJ0_checkIndex_df160 5 = .ok (.invokestatic 1059, 3) := by decide +kernel
theorem dJ0_checkIndex_df160_8 : decode cJ0_checkIndex_df160 8 = .ok (.pop, 1) := by decide +kernel
theorem dJ0_checkIndex_df160_9 : decode cJ0_checkIndex_df160 9 = .ok (.return_, 1) := by decide +kernel
set_option maxRecDepth 20000 in
theorem ggJ1_charAt_3b067_J0_checkIndex_df160 : GoodIn wsJ1_charAt_3b067 wsJ0_checkIndex_df160 := goodIn_r _ [4, 5, 6, 7, 8, 9] (by decide +kernel) (by decide +kernel)
set_option maxRecDepth 20000 in
theorem gJ1_charAt_3b067_J0_checkIndex_df160 : GoodIn wsJ1_charAt_3b067 (va_wsS RJ1 9 yJ0_checkIndex_df160 wsJ0_checkIndex_df160) := goodIn_app (goodIn_of _ (by decide +kernel)) ggJ1_charAt_3b067_J0_checkIndex_df160
theorem dJ1_charAt_3b067_0 : decode cJ1_charAt_3b067 0 = .ok (.iload_n 1, 1) := by decide +kernel
theorem dJ1_charAt_3b067_1 : decode cJ1_charAt_3b067 1 = .ok (.aload_n 0, 1) := by decide +kernel
theorem dJ1_charAt_3b067_2 : decode cJ1_charAt_3b067 2 = .ok (.arraylength, 1) := by decide +kernel
theorem dJ1_charAt_3b067_3 : decode cJ1_charAt_3b067 3 = .ok (.invokestatic 9, 3) := by decide +kernel
theorem dJ1_charAt_3b067_6 : decode cJ1_charAt_3b067 6 = .ok (.aload_n 0, 1) := by decide +kernel
theorem dJ1_charAt_3b067_7 : decode cJ1_charAt_3b067 7 = .ok (.iload_n 1, 1) := by decide +kernel
theorem dJ1_charAt_3b067_8 : decode cJ1_charAt_3b067 8 = .ok (.baload, 1) := by decide +kernel
theorem dJ1_charAt_3b067_9 : decode cJ1_charAt_3b067 9 = .ok (.sipush 255, 3) := by decide +kernel
theorem dJ1_charAt_3b067_12 : decode cJ1_charAt_3b067 12 = .ok (.iand, 1) := by decide +kernel
theorem dJ1_charAt_3b067_13 : decode cJ1_charAt_3b067 13 = .ok (.i2c, 1) := by decide +kernel
theorem dJ1_charAt_3b067_14 : decode cJ1_charAt_3b067 14 = .ok (.ireturn, 1) := by decide +kernel
theorem dJ3_checkIndex_8e157_0 : decode cJ3_checkIndex_8e157 0 = .ok (.iload_n 0, 1) := by decide +kernel
theorem dJ3_checkIndex_8e157_1 : decode cJ3_checkIndex_8e157 1 = .ok (.ifCond .lt 8, 3) := by decide +kernel
theorem dJ3_checkIndex_8e157_4 : decode cJ3_checkIndex_8e157 4 = .ok (.iload_n 0, 1) := by decide +kernel
theorem dJ3_checkIndex_8e157_5 : decode cJ3_checkIndex_8e157 5 = .ok (.iload_n 1, 1) := by decide +kernel
theorem dJ3_checkIndex_8e157_6 : decode cJ3_checkIndex_8e157 6 = .ok (.if_icmp .lt 10, 3) := by decide +kernel
theorem dJ3_checkIndex_8e157_9 : decode cJ3_checkIndex_8e157 9 = .ok (.aload_n 2, 1) := by decide +kernel
theorem dJ3_checkIndex_8e157_10 : decode cJ3_checkIndex_8e157 10 = .ok (.iload_n 0, 1) := by decide +kernel
theorem dJ3_checkIndex_8e157_11 : decode cJ3_checkIndex_8e157 11 = .ok (.iload_n 1, 1) := by decide +kernel
theorem dJ3_checkIndex_8e157_12 : decode cJ3_checkIndex_8e157 12 = .ok (.invokestatic 95, 3) := by decide +kernel
theorem dJ3_checkIndex_8e157_15 : decode cJ3_checkIndex_8e157 15 = .ok (.athrow, 1) := by decide +kernel
theorem dJ3_checkIndex_8e157_16 : decode cJ3_checkIndex_8e157 16 = .ok (.iload_n 0, 1) := by decide +kernel
theorem dJ3_checkIndex_8e157_17 : decode cJ3_checkIndex_8e157 17 = .ok (.ireturn, 1) := by decide +kernel
set_option maxRecDepth 20000 in
theorem ggL_holiday_X11_holiday : GoodIn wsL_holiday wsX11_holiday := goodIn_ca (goodIn_r _ [6, 7, 8, 9, 10, 11, 12, 13, 14, 15, 16, 17, 18, 19, 20, 21, 22, 23, 24, 25, 26, 27, 28, 29, 30, 31, 32, 33, 34, 35, 36, 37, 38, 39, 40, 41, 42, 43, 44, 45, 46, 47, 48, 49] (by decide +kernel) (by decide +kernel)) (goodIn_sub (fun _ h => List.mem_cons_of_mem _ (List.mem_append_right _ h)) (by decide +kernel))
set_option maxRecDepth 20000 in
theorem gL_holiday_X11_holiday : GoodIn wsL_holiday (wsV RL 7 RX11 yX11_holiday wsX11_holiday) := goodIn_app (goodIn_of _ (by decide +kernel)) ggL_holiday_X11_holiday
theorem dL_holiday_0 : decode cL_holiday 0 = .ok (.aload_n 2, 1) := by decide +kernel
theorem dL_holiday_1 : decode cL_holiday 1 = .ok (.iconst 0, 1) := by decide +kernel
theorem dL_holiday_2 : decode cL_holiday 2 = .ok (.aload_n 0, 1) := by decide +kernel
theorem dL_holiday_3 : decode cL_holiday 3 = .ok (.iload_n 1, 1) := by decide +kernel
theorem dL_holiday_4 : decode cL_holiday 4 = .ok (.invokevirtual 7, 3) := by decide +kernel
theorem dL_holiday_7 : decode cL_holiday 7 = .ok (.i2l, 1) := by decide +kernel
theorem dL_holiday_8 : decode cL_holiday 8 = .ok (.lastore, 1) := by decide +kernel
theorem dL_holiday_9 : decode cL_holiday 9 = .ok (.goto 6, 3) := by decide +kernel
theorem dL_holiday_12 : decode cL_holiday 12 = .ok (.astore_n 3, 1) := by decide +kernel
theorem dL_holiday_13 : decode cL_holiday 13 = .ok (.iconst 1, 1) := by decide +kernel
theorem dL_holiday_14 : decode cL_holiday 14 = .ok (.ireturn, 1) := by decide +kernel
theorem dL_holiday_15 : decode cL_holiday 15 = .ok (.iconst 0, 1) := by decide +kernel
theorem dL_holiday_16 : decode cL_holiday 16 = .ok (.ireturn, 1) := by decide +kernel
