theorem dX9_putSign_0 : decode cX9_putSign 0 = .ok (.aload_n 0, 1) := by decide +kernel
theorem dX9_putSign_1 : decode cX9_putSign 1 = .ok (.getfield 13, 3) := by decide +kernel
theorem dX9_putSign_4 : decode cX9_putSign 4 = .ok (.bipush 64, 2) := by decide +kernel
theorem dX9_putSign_6 : decode cX9_putSign 6 = .ok (.if_icmp .ge 23, 3) := by decide +kernel
theorem dX9_putSign_9 : decode cX9_putSign 9 = .ok (.aload_n 0, 1) := by decide +kernel
theorem dX9_putSign_10 : decode cX9_putSign 10 = .ok (.getfield 9, 3) := by decide +kernel
theorem dX9_putSign_13 : decode cX9_putSign 13 = .ok (.aload_n 0, 1) := by decide +kernel
theorem dX9_putSign_14 : decode cX9_putSign 14 = .ok (.getfield 13, 3) := by decide +kernel
theorem dX9_putSign_17 : decode cX9_putSign 17 = .ok (.iload_n 1, 1) := by decide +kernel
theorem dX9_putSign_18 : decode cX9_putSign 18 = .ok (.castore, 1) := by decide +kernel
theorem dX9_putSign_19 : decode cX9_putSign 19 = .ok (.aload_n 0, 1) := by decide +kernel
theorem dX9_putSign_20 : decode cX9_putSign 20 = .ok (.dup, 1) := by decide +kernel
theorem dX9_putSign_21 : decode cX9_putSign 21 = .ok (.getfield 13, 3) := by decide +kernel
theorem dX9_putSign_24 : decode cX9_putSign 24 = .ok (.iconst 1, 1) := by decide +kernel
theorem dX9_putSign_25 : decode cX9_putSign 25 = .ok (.iadd, 1) := by decide +kernel
theorem dX9_putSign_26 : decode cX9_putSign 26 = .ok (.putfield 13, 3) := by decide +kernel
theorem dX9_putSign_29 : decode cX9_putSign 29 = .ok (.return_, 1) := by decide +kernel
set_option maxRecDepth 20000 in
theorem ggX9_putNumber_X9_putSign : GoodIn wsX9_putNumber wsX9_putSign := goodIn_r _ [7, 8, 9, 10, 11] (by decide +kernel) (by decide +kernel)
set_option maxRecDepth 20000 in
theorem gX9_putNumber_X9_putSign : GoodIn wsX9_putNumber (wsV RX9 21 RX9 yX9_putSign wsX9_putSign) := goodIn_app (goodIn_of _ (by decide +kernel)) ggX9_putNumber_X9_putSign
theorem dX9_putNumber_0 : decode cX9_putNumber 0 = .ok (.lconst 1, 1) := by decide +kernel
theorem dX9_putNumber_1 : decode cX9_putNumber 1 = .ok (.lstore 4, 2) := by decide +kernel
theorem dX9_putNumber_3 : decode cX9_putNumber 3 = .ok (.iconst 1, 1) := by decide +kernel
theorem dX9_putNumber_4 : decode cX9_putNumber 4 = .ok (.istore 6, 2) := by decide +kernel
theorem dX9_putNumber_6 : decode cX9_putNumber 6 = .ok (.iload 6, 2) := by decide +kernel
theorem dX9_putNumber_8 : decode cX9_putNumber 8 = .ok (.bipush 18, 2) := by decide +kernel
theorem dX9_putNumber_10 : decode cX9_putNumber 10 = .ok (.if_icmp .ge 34, 3) := by decide +kernel
theorem dX9_putNumber_13 : decode cX9_putNumber 13 = .ok (.iload 6, 2) := by decide +kernel
theorem dX9_putNumber_15 : decode cX9_putNumber 15 = .ok (.iload_n 3, 1) := by decide +kernel
theorem dX9_putNumber_16 : decode cX9_putNumber 16 = .ok (.if_icmp .lt 14, 3) := by decide +kernel
theorem dX9_putNumber_19 : decode cX9_putNumber 19 = .ok (.lload_n 1, 1) := by decide +kernel
theorem dX9_putNumber_20 : decode cX9_putNumber 20 = .ok (.lload 4, 2) := by decide +kernel
theorem dX9_putNumber_22 : decode cX9_putNumber 22 = .ok (.ldiv, 1) := by decide +kernel
theorem dX9_putNumber_23 : decode cX9_putNumber 23 = .ok (.ldc2_w 17, 3) := by decide +kernel
theorem dX9_putNumber_26 : decode cX9_putNumber 26 = .ok (.lcmp, 1) := by decide +kernel
theorem dX9_putNumber_27 : decode cX9_putNumber 27 = .ok (.ifCond .lt 17, 3) := by decide +kernel
theorem dX9_putNumber_30 : decode cX9_putNumber 30 = .ok (.lload 4, 2) := by decide +kernel
theorem dX9_putNumber_32 : decode cX9_putNumber 32 = .ok (.ldc2_w 17, 3) := by decide +kernel
theorem dX9_putNumber_35 : decode cX9_putNumber 35 = .ok (.lmul, 1) := by decide +kernel
theorem dX9_putNumber_36 : decode cX9_putNumber 36 = .ok (.lstore 4, 2) := by decide +kernel
theorem dX9_putNumber_38 : decode cX9_putNumber 38 = .ok (.iinc 6 1, 3) := by decide +kernel
theorem dX9_putNumber_41 : decode cX9_putNumber 41 = .ok (.goto (-35), 3) := by decide +kernel
theorem dX9_putNumber_44 : decode cX9_putNumber 44 = .ok (.iconst 0, 1) := by decide +kernel
theorem dX9_putNumber_45 : decode cX9_putNumber 45 = .ok (.istore 7, 2) := by decide +kernel
theorem dX9_putNumber_47 : decode cX9_putNumber 47 = .ok (.iload 7, 2) := by decide +kernel
theorem dX9_putNumber_49 : decode cX9_putNumber 49 = .ok (.iload 6, 2) := by decide +kernel
theorem dX9_putNumber_51 : decode cX9_putNumber 51 = .ok (.if_icmp .ge 42, 3) := by decide +kernel
theorem dX9_putNumber_54 : decode cX9_putNumber 54 = .ok (.lload 4, 2) := by decide +kernel
theorem dX9_putNumber_56 : decode cX9_putNumber 56 = .ok (.lconst 0, 1) := by decide +kernel
theorem dX9_putNumber_57 : decode cX9_putNumber 57 = .ok (.lcmp, 1) := by decide +kernel
theorem dX9_putNumber_58 : decode cX9_putNumber 58 = .ok (.ifCond .le 35, 3) := by decide +kernel
theorem dX9_putNumber_61 : decode cX9_putNumber 61 = .ok (.aload_n 0, 1) := by decide +kernel
theorem dX9_putNumber_62 : decode cX9_putNumber 62 = .ok (.ldc2_w 19, 3) := by decide +kernel
theorem dX9_putNumber_65 : decode cX9_putNumber 65 = .ok (.lload_n 1, 1) := by decide +kernel
theorem dX9_putNumber_66 : decode cX9_putNumber 66 = .ok (.lload 4, 2) := by decide +kernel
theorem dX9_putNumber_68 : decode cX9_putNumber 68 = .ok (.ldiv, 1) := by decide +kernel
theorem dX9_putNumber_69 : decode cX9_putNumber 69 = .ok (.ldc2_w 17, 3) := by decide +kernel
theorem dX9_putNumber_72 : decode cX9_putNumber 72 = .ok (.lrem, 1) := by decide +kernel
theorem dX9_putNumber_73 : decode cX9_putNumber 73 = .ok (.ladd, 1) := by decide +kernel
theorem dX9_putNumber_74 : decode cX9_putNumber 74 = .ok (.l2i, 1) := by decide +kernel
theorem dX9_putNumber_75 : decode cX9_putNumber 75 = .ok (.i2c, 1) := by decide +kernel
theorem dX9_putNumber_76 : decode cX9_putNumber 76 = .ok (.invokevirtual 21, 3) := by decide +kernel
theorem dX9_putNumber_79 : decode cX9_putNumber 79 = .ok (.lload 4, 2) := by decide +kernel
theorem dX9_putNumber_81 : decode cX9_putNumber 81 = .ok (.ldc2_w 17, 3) := by decide +kernel
theorem dX9_putNumber_84 : decode cX9_putNumber 84 = .ok (.ldiv, 1) := by decide +kernel
theorem dX9_putNumber_85 : decode cX9_putNumber 85 = .ok (.lstore 4, 2) := by decide +kernel
theorem dX9_putNumber_87 : decode cX9_putNumber 87 = .ok (.iinc 7 1, 3) := by decide +kernel
theorem dX9_putNumber_90 : decode cX9_putNumber 90 = .ok (.goto (-43), 3) := by decide +kernel
theorem dX9_putNumber_93 : decode cX9_putNumber 93 = .ok (.return_, 1) := by decide +kernel
