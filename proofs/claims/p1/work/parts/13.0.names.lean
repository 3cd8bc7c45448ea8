theorem dX4_clear_0 : decode cX4_clear 0 = .ok (.aload_n 0, 1) := by decide +kernel
theorem dX4_clear_1 : decode cX4_clear 1 = .ok (.getfield 21, 3) := by decide +kernel
theorem dX4_clear_4 : decode cX4_clear 4 = .ok (.iconst 0, 1) := by decide +kernel
theorem dX4_clear_5 : decode cX4_clear 5 = .ok (.putfield 65, 3) := by decide +kernel
theorem dX4_clear_8 : decode cX4_clear 8 = .ok (.aload_n 0, 1) := by decide +kernel
theorem dX4_clear_9 : decode cX4_clear 9 = .ok (.iconst 0, 1) := by decide +kernel
theorem dX4_clear_10 : decode cX4_clear 10 = .ok (.putfield 31, 3) := by decide +kernel
theorem dX4_clear_13 : decode cX4_clear 13 = .ok (.aload_n 0, 1) := by decide +kernel
theorem dX4_clear_14 : decode cX4_clear 14 = .ok (.iconst 0, 1) := by decide +kernel
theorem dX4_clear_15 : decode cX4_clear 15 = .ok (.putfield 50, 3) := by decide +kernel
theorem dX4_clear_18 : decode cX4_clear 18 = .ok (.aload_n 0, 1) := by decide +kernel
theorem dX4_clear_19 : decode cX4_clear 19 = .ok (.iconst (-1), 1) := by decide +kernel
theorem dX4_clear_20 : decode cX4_clear 20 = .ok (.putfield 53, 3) := by decide +kernel
theorem dX4_clear_23 : decode cX4_clear 23 = .ok (.return_, 1) := by decide +kernel
set_option maxRecDepth 20000 in
theorem ggX7_read_X4_clear : GoodIn wsX7_read wsX4_clear := goodIn_r _ [9, 10, 11, 12, 13, 14, 248, 249, 250, 251, 252, 253, 254, 255, 256, 257, 258, 259, 260, 261] (by decide +kernel) (by decide +kernel)
set_option maxRecDepth 20000 in
theorem gX7_read_X4_clear : GoodIn wsX7_read (wsV RX7 32 RX4 yX4_clear wsX4_clear) := goodIn_app (goodIn_of _ (by decide +kernel)) ggX7_read_X4_clear
set_option maxRecDepth 20000 in
theorem ggX7_read_X10_rewind : GoodIn wsX7_read wsX10_rewind := goodIn_r _ [19, 20, 21, 22, 23, 24, 25, 26, 27, 28, 29, 18, 30, 31, 32, 33, 262, 263, 264, 265, 266, 267, 268] (by decide +kernel) (by decide +kernel)
set_option maxRecDepth 20000 in
theorem gX7_read_X10_rewind : GoodIn wsX7_read (wsV RX7 37 RX10 yX10_rewind wsX10_rewind) := goodIn_app (goodIn_of _ (by decide +kernel)) ggX7_read_X10_rewind
set_option maxRecDepth 20000 in
theorem ggX7_read_X7_readLine : GoodIn wsX7_read wsX7_readLine := goodIn_r _ [38, 4, 3, 39, 40, 41, 42, 18, 43, 33, 26, 31, 20, 44, 45, 46, 47, 48, 49, 50, 51, 52, 53, 54, 55, 56, 57, 58, 59, 60, 61, 62, 63, 64, 65, 66, 67, 68, 69, 70, 71, 72, 73, 74, 75, 76, 77, 78, 79, 80, 81, 82, 83, 84, 85, 86, 87, 88, 89, 90, 91, 92, 93, 94, 95, 37, 96, 1, 2, 97, 98, 99, 100, 101, 102, 103, 104, 28, 29, 30, 25, 32, 105, 106, 107, 108, 109, 110, 111, 112, 113, 114, 115, 116, 117, 118, 119, 120, 121, 122, 123, 124, 125, 126, 127, 128, 129, 130, 131, 132, 133, 134, 135, 136, 137, 138, 139, 140, 141, 142, 143, 144, 145, 146, 147, 148, 149, 150, 151, 152, 153, 154, 155, 156, 157, 158, 159, 160, 161, 162, 163, 164, 165, 166, 167, 168, 169, 170, 171, 172, 173, 174, 175, 176, 177, 178, 179, 180, 181, 182, 183, 184, 185, 186, 187, 188, 189, 190, 191, 192, 193, 194, 195, 196, 197, 198, 199, 200, 201, 202, 203, 204, 205, 206, 207, 208, 209, 210, 211, 212, 213, 214, 215, 216, 217, 218, 219, 220, 221, 222, 223, 224, 225, 226, 227, 228, 229, 230, 231, 232, 233, 234, 235, 236, 237, 238, 243, 244, 245, 246, 247, 262, 263, 264, 265, 266, 267, 268, 248, 249, 250, 251, 252, 253, 254, 255, 256, 257, 258, 259, 260, 261, 269, 270, 271, 272, 273, 274, 275, 276, 277, 278, 279, 280, 281, 282, 283, 284] (by decide +kernel) (by decide +kernel)
set_option maxRecDepth 20000 in
theorem gX7_read_X7_readLine : GoodIn wsX7_read (wsV RX7 41 RX7 yX7_readLine wsX7_readLine) := goodIn_app (goodIn_of _ (by decide +kernel)) ggX7_read_X7_readLine
theorem dX7_read_0 : decode cX7_read 0 = .ok (.aload_n 0, 1) := by decide +kernel
theorem dX7_read_1 : decode cX7_read 1 = .ok (.iconst 0, 1) := by decide +kernel
theorem dX7_read_2 : decode cX7_read 2 = .ok (.putfield 18, 3) := by decide +kernel
theorem dX7_read_5 : decode cX7_read 5 = .ok (.aload_n 0, 1) := by decide +kernel
theorem dX7_read_6 : decode cX7_read 6 = .ok (.iconst (-1), 1) := by decide +kernel
theorem dX7_read_7 : decode cX7_read 7 = .ok (.putfield 22, 3) := by decide +kernel
theorem dX7_read_10 : decode cX7_read 10 = .ok (.aload_n 0, 1) := by decide +kernel
theorem dX7_read_11 : decode cX7_read 11 = .ok (.iconst 0, 1) := by decide +kernel
theorem dX7_read_12 : decode cX7_read 12 = .ok (.putfield 25, 3) := by decide +kernel
theorem dX7_read_15 : decode cX7_read 15 = .ok (.aload_n 2, 1) := by decide +kernel
theorem dX7_read_16 : decode cX7_read 16 = .ok (.invokevirtual 32, 3) := by decide +kernel
theorem dX7_read_19 : decode cX7_read 19 = .ok (.aload_n 0, 1) := by decide +kernel
theorem dX7_read_20 : decode cX7_read 20 = .ok (.getfield 12, 3) := by decide +kernel
theorem dX7_read_23 : decode cX7_read 23 = .ok (.iload_n 1, 1) := by decide +kernel
theorem dX7_read_24 : decode cX7_read 24 = .ok (.invokevirtual 37, 3) := by decide +kernel
theorem dX7_read_27 : decode cX7_read 27 = .ok (.iconst 1, 1) := by decide +kernel
theorem dX7_read_28 : decode cX7_read 28 = .ok (.istore_n 3, 1) := by decide +kernel
theorem dX7_read_29 : decode cX7_read 29 = .ok (.iconst 0, 1) := by decide +kernel
theorem dX7_read_30 : decode cX7_read 30 = .ok (.istore 4, 2) := by decide +kernel
theorem dX7_read_32 : decode cX7_read 32 = .ok (.iload 4, 2) := by decide +kernel
theorem dX7_read_34 : decode cX7_read 34 = .ok (.sipush 900, 3) := by decide +kernel
theorem dX7_read_37 : decode cX7_read 37 = .ok (.if_icmp .gt 34, 3) := by decide +kernel
theorem dX7_read_40 : decode cX7_read 40 = .ok (.iload_n 3, 1) := by decide +kernel
theorem dX7_read_41 : decode cX7_read 41 = .ok (.ifCond .eq 30, 3) := by decide +kernel
theorem dX7_read_44 : decode cX7_read 44 = .ok (.aload_n 0, 1) := by decide +kernel
theorem dX7_read_45 : decode cX7_read 45 = .ok (.aload_n 2, 1) := by decide +kernel
theorem dX7_read_46 : decode cX7_read 46 = .ok (.invokevirtual 41, 3) := by decide +kernel
theorem dX7_read_49 : decode cX7_read 49 = .ok (.ifCond .eq 14, 3) := by decide +kernel
theorem dX7_read_63 : decode cX7_read 63 = .ok (.iconst 0, 1) := by decide +kernel
theorem dX7_read_64 : decode cX7_read 64 = .ok (.istore_n 3, 1) := by decide +kernel
theorem dX7_read_65 : decode cX7_read 65 = .ok (.iinc 4 1, 3) := by decide +kernel
theorem dX7_read_68 : decode cX7_read 68 = .ok (.goto (-36), 3) := by decide +kernel
theorem dX7_read_71 : decode cX7_read 71 = .ok (.return_, 1) := by decide +kernel
set_option maxRecDepth 20000 in
theorem ggX7_readLine_X10_isWord : GoodIn wsX7_readLine wsX10_isWord := goodIn_r _ [8, 9, 10, 11, 12, 13, 14, 15, 16, 17, 18, 19, 20, 21, 22, 23, 24, 25, 26, 27, 28, 29, 30, 31, 32, 33, 34, 35, 36, 37, 38, 39, 40, 41, 42, 43, 44, 45, 46, 47, 48, 49, 50, 51, 52, 53, 54, 55, 56, 57, 58, 59, 60, 61, 221, 222, 223, 224, 225, 226, 227] (by decide +kernel) (by decide +kernel)
set_option maxRecDepth 20000 in
theorem gX7_readLine_X10_isWord : GoodIn wsX7_readLine (wsV RX7 64 RX10 yX10_isWord wsX10_isWord) := goodIn_app (goodIn_of _ (by decide +kernel)) ggX7_readLine_X10_isWord
set_option maxRecDepth 20000 in
theorem ggX7_readLine_X7_fail : GoodIn wsX7_readLine wsX7_fail := goodIn_r _ [66, 67, 68, 216, 217, 218, 219, 220] (by decide +kernel) (by decide +kernel)
set_option maxRecDepth 20000 in
theorem gX7_readLine_X7_fail : GoodIn wsX7_readLine (wsV RX7 55 RX7 yX7_fail wsX7_fail) := goodIn_app (goodIn_of _ (by decide +kernel)) ggX7_readLine_X7_fail
theorem dX7_readLine_0 : decode cX7_readLine 0 = .ok (.aload_n 0, 1) := by decide +kernel
theorem dX7_readLine_1 : decode cX7_readLine 1 = .ok (.getfield 12, 3) := by decide +kernel
theorem dX7_readLine_4 : decode cX7_readLine 4 = .ok (.ldc 62, 2) := by decide +kernel
theorem dX7_readLine_6 : decode cX7_readLine 6 = .ok (.invokevirtual 64, 3) := by decide +kernel
theorem dX7_readLine_9 : decode cX7_readLine 9 = .ok (.ifCond .eq 31, 3) := by decide +kernel
theorem dX7_readLine_40 : decode cX7_readLine 40 = .ok (.aload_n 0, 1) := by decide +kernel
theorem dX7_readLine_41 : decode cX7_readLine 41 = .ok (.getfield 12, 3) := by decide +kernel
theorem dX7_readLine_44 : decode cX7_readLine 44 = .ok (.ldc 71, 2) := by decide +kernel
theorem dX7_readLine_46 : decode cX7_readLine 46 = .ok (.invokevirtual 64, 3) := by decide +kernel
theorem dX7_readLine_49 : decode cX7_readLine 49 = .ok (.istore_n 2, 1) := by decide +kernel
theorem dX7_readLine_50 : decode cX7_readLine 50 = .ok (.aload_n 0, 1) := by decide +kernel
theorem dX7_readLine_51 : decode cX7_readLine 51 = .ok (.getfield 12, 3) := by decide +kernel
theorem dX7_readLine_54 : decode cX7_readLine 54 = .ok (.ldc 73, 2) := by decide +kernel
theorem dX7_readLine_56 : decode cX7_readLine 56 = .ok (.invokevirtual 64, 3) := by decide +kernel
theorem dX7_readLine_59 : decode cX7_readLine 59 = .ok (.istore_n 3, 1) := by decide +kernel
theorem dX7_readLine_60 : decode cX7_readLine 60 = .ok (.iload_n 2, 1) := by decide +kernel
theorem dX7_readLine_61 : decode cX7_readLine 61 = .ok (.ifCond .ne 32, 3) := by decide +kernel
theorem dX7_readLine_64 : decode cX7_readLine 64 = .ok (.iload_n 3, 1) := by decide +kernel
theorem dX7_readLine_65 : decode cX7_readLine 65 = .ok (.ifCond .ne 28, 3) := by decide +kernel
theorem dX7_readLine_68 : decode cX7_readLine 68 = .ok (.aload_n 0, 1) := by decide +kernel
theorem dX7_readLine_69 : decode cX7_readLine 69 = .ok (.getfield 12, 3) := by decide +kernel
theorem dX7_readLine_72 : decode cX7_readLine 72 = .ok (.ldc 75, 2) := by decide +kernel
theorem dX7_readLine_74 : decode cX7_readLine 74 = .ok (.invokevirtual 64, 3) := by decide +kernel
theorem dX7_readLine_77 : decode cX7_readLine 77 = .ok (.ifCond .ne 16, 3) := by decide +kernel
theorem dX7_readLine_80 : decode cX7_readLine 80 = .ok (.aload_n 0, 1) := by decide +kernel
theorem dX7_readLine_81 : decode cX7_readLine 81 = .ok (.iconst 1, 1) := by decide +kernel
theorem dX7_readLine_82 : decode cX7_readLine 82 = .ok (.aload_n 0, 1) := by decide +kernel
theorem dX7_readLine_83 : decode cX7_readLine 83 = .ok (.getfield 12, 3) := by decide +kernel
theorem dX7_readLine_86 : decode cX7_readLine 86 = .ok (.getfield 52, 3) := by decide +kernel
theorem dX7_readLine_89 : decode cX7_readLine 89 = .ok (.invokevirtual 55, 3) := by decide +kernel
theorem dX7_readLine_92 : decode cX7_readLine 92 = .ok (.ireturn, 1) := by decide +kernel
theorem dX7_fail_0 : decode cX7_fail 0 = .ok (.aload_n 0, 1) := by decide +kernel
theorem dX7_fail_1 : decode cX7_fail 1 = .ok (.iload_n 1, 1) := by decide +kernel
theorem dX7_fail_2 : decode cX7_fail 2 = .ok (.putfield 18, 3) := by decide +kernel
theorem dX7_fail_5 : decode cX7_fail 5 = .ok (.aload_n 0, 1) := by decide +kernel
theorem dX7_fail_6 : decode cX7_fail 6 = .ok (.iload_n 2, 1) := by decide +kernel
theorem dX7_fail_7 : decode cX7_fail 7 = .ok (.putfield 22, 3) := by decide +kernel
theorem dX7_fail_10 : decode cX7_fail 10 = .ok (.iconst 0, 1) := by decide +kernel
theorem dX7_fail_11 : decode cX7_fail 11 = .ok (.ireturn, 1) := by decide +kernel
set_option maxRecDepth 20000 in
theorem ggX10_rewind_X10_advance : GoodIn wsX10_rewind wsX10_advance := goodIn_r _ [12, 7, 6, 1, 13, 14, 15, 16, 17, 18, 19, 20, 21, 22] (by decide +kernel) (by decide +kernel)
set_option maxRecDepth 20000 in
theorem gX10_rewind_X10_advance : GoodIn wsX10_rewind (wsV RX10 38 RX10 yX10_advance wsX10_advance) := goodIn_app (goodIn_of _ (by decide +kernel)) ggX10_rewind_X10_advance
theorem dX10_rewind_0 : decode cX10_rewind 0 = .ok (.aload_n 0, 1) := by decide +kernel
theorem dX10_rewind_1 : decode cX10_rewind 1 = .ok (.iload_n 1, 1) := by decide +kernel
theorem dX10_rewind_2 : decode cX10_rewind 2 = .ok (.aload_n 0, 1) := by decide +kernel
theorem dX10_rewind_3 : decode cX10_rewind 3 = .ok (.getfield 9, 3) := by decide +kernel
theorem dX10_rewind_6 : decode cX10_rewind 6 = .ok (.arraylength, 1) := by decide +kernel
theorem dX10_rewind_7 : decode cX10_rewind 7 = .ok (.invokestatic 32, 3) := by decide +kernel
theorem dX10_rewind_10 : decode cX10_rewind 10 = .ok (.putfield 26, 3) := by decide +kernel
theorem dX10_rewind_13 : decode cX10_rewind 13 = .ok (.aload_n 0, 1) := by decide +kernel
theorem dX10_rewind_14 : decode cX10_rewind 14 = .ok (.iconst 0, 1) := by decide +kernel
theorem dX10_rewind_15 : decode cX10_rewind 15 = .ok (.putfield 29, 3) := by decide +kernel
theorem dX10_rewind_18 : decode cX10_rewind 18 = .ok (.aload_n 0, 1) := by decide +kernel
theorem dX10_rewind_19 : decode cX10_rewind 19 = .ok (.invokevirtual 38, 3) := by decide +kernel
theorem dX10_rewind_22 : decode cX10_rewind 22 = .ok (.return_, 1) := by decide +kernel
theorem dX10_advance_0 : decode cX10_advance 0 = .ok (.aload_n 0, 1) := by decide +kernel
theorem dX10_advance_1 : decode cX10_advance 1 = .ok (.getfield 29, 3) := by decide +kernel
theorem dX10_advance_4 : decode cX10_advance 4 = .ok (.aload_n 0, 1) := by decide +kernel
theorem dX10_advance_5 : decode cX10_advance 5 = .ok (.getfield 26, 3) := by decide +kernel
theorem dX10_advance_8 : decode cX10_advance 8 = .ok (.if_icmp .ge 30, 3) := by decide +kernel
theorem dX10_advance_38 : decode cX10_advance 38 = .ok (.aload_n 0, 1) := by decide +kernel
theorem dX10_advance_39 : decode cX10_advance 39 = .ok (.aload_n 0, 1) := by decide +kernel
theorem dX10_advance_40 : decode cX10_advance 40 = .ok (.getfield 29, 3) := by decide +kernel
theorem dX10_advance_43 : decode cX10_advance 43 = .ok (.putfield 20, 3) := by decide +kernel
theorem dX10_advance_46 : decode cX10_advance 46 = .ok (.aload_n 0, 1) := by decide +kernel
theorem dX10_advance_47 : decode cX10_advance 47 = .ok (.iconst 0, 1) := by decide +kernel
theorem dX10_advance_48 : decode cX10_advance 48 = .ok (.putfield 23, 3) := by decide +kernel
theorem dX10_advance_51 : decode cX10_advance 51 = .ok (.aload_n 0, 1) := by decide +kernel
theorem dX10_advance_52 : decode cX10_advance 52 = .ok (.getfield 29, 3) := by decide +kernel
theorem dX10_advance_55 : decode cX10_advance 55 = .ok (.aload_n 0, 1) := by decide +kernel
theorem dX10_advance_56 : decode cX10_advance 56 = .ok (.getfield 26, 3) := by decide +kernel
theorem dX10_advance_59 : decode cX10_advance 59 = .ok (.if_icmp .lt 9, 3) := by decide +kernel
theorem dX10_advance_62 : decode cX10_advance 62 = .ok (.aload_n 0, 1) := by decide +kernel
theorem dX10_advance_63 : decode cX10_advance 63 = .ok (.iconst 0, 1) := by decide +kernel
theorem dX10_advance_64 : decode cX10_advance 64 = .ok (.putfield 17, 3) := by decide +kernel
theorem dX10_advance_67 : decode cX10_advance 67 = .ok (.return_, 1) := by decide +kernel
theorem dX10_isWord_0 : decode cX10_isWord 0 = .ok (.aload_n 0, 1) := by decide +kernel
theorem dX10_isWord_1 : decode cX10_isWord 1 = .ok (.getfield 17, 3) := by decide +kernel
theorem dX10_isWord_4 : decode cX10_isWord 4 = .ok (.iconst 1, 1) := by decide +kernel
theorem dX10_isWord_5 : decode cX10_isWord 5 = .ok (.if_icmp .ne 31, 3) := by decide +kernel
theorem dX10_isWord_36 : decode cX10_isWord 36 = .ok (.iconst 0, 1) := by decide +kernel
theorem dX10_isWord_37 : decode cX10_isWord 37 = .ok (.ireturn, 1) := by decide +kernel
set_option maxRecDepth 20000 in
theorem ggX11_desk_X11_refuse : GoodIn wsX11_desk wsX11_refuse := goodIn_r _ [21, 15, 409, 410, 411, 412, 413, 414, 415, 416, 417, 418, 419, 420, 421, 422, 423] (by decide +kernel) (by decide +kernel)
set_option maxRecDepth 20000 in
theorem gX11_desk_X11_refuse : GoodIn wsX11_desk (wsV RX11 97 RX11 yX11_refuse wsX11_refuse) := goodIn_app (goodIn_of _ (by decide +kernel)) ggX11_desk_X11_refuse
set_option maxRecDepth 20000 in
theorem ggX11_desk_X7_read : GoodIn wsX11_desk wsX7_read := goodIn_r _ [26, 27, 28, 29, 30, 31, 32, 33, 34, 35, 36, 37, 38, 39, 40, 41, 42, 43, 44, 45, 46, 47, 48, 49, 50, 51, 52, 53, 54, 55, 56, 57, 58, 59, 60, 61, 62, 25, 63, 64, 65, 66, 67, 68, 69, 70, 71, 72, 73, 74, 75, 76, 77, 78, 79, 80, 81, 82, 83, 84, 85, 86, 87, 88, 89, 90, 91, 92, 93, 94, 95, 96, 97, 98, 99, 100, 101, 102, 103, 104, 105, 106, 107, 108, 109, 110, 111, 112, 113, 114, 115, 116, 117, 118, 119, 120, 121, 122, 123, 124, 125, 126, 127, 128, 129, 130, 131, 132, 133, 134, 135, 136, 137, 138, 139, 140, 141, 142, 143, 144, 145, 146, 147, 148, 149, 150, 151, 152, 153, 154, 155, 156, 157, 158, 159, 160, 161, 162, 163, 164, 165, 166, 167, 168, 169, 170, 171, 172, 173, 174, 175, 176, 177, 178, 179, 180, 181, 182, 183, 184, 185, 186, 187, 188, 189, 190, 191, 192, 193, 194, 195, 196, 197, 198, 199, 200, 201, 202, 203, 204, 205, 206, 207, 208, 209, 210, 211, 212, 213, 214, 215, 216, 217, 218, 219, 220, 221, 222, 223, 224, 225, 226, 227, 228, 229, 230, 231, 232, 233, 234, 235, 236, 237, 238, 239, 240, 241, 242, 243, 244, 245, 246, 247, 248, 249, 250, 251, 252, 253, 254, 255, 256, 257, 258, 259, 260, 261, 262, 263, 264, 265, 266, 267, 424, 425, 426, 427, 428, 436, 437, 438, 439, 440, 441, 442, 443, 444, 445, 446, 447, 448, 449, 429, 430, 431, 432, 433, 434, 435, 450, 451, 452, 453, 454, 455, 456, 457, 458, 459, 460, 461, 462, 463, 464, 465] (by decide +kernel) (by decide +kernel)
set_option maxRecDepth 20000 in
theorem gX11_desk_X7_read : GoodIn wsX11_desk (wsV RX11 101 RX7 yX7_read wsX7_read) := goodIn_app (goodIn_of _ (by decide +kernel)) ggX11_desk_X7_read
theorem dX11_desk_0 : decode cX11_desk 0 = .ok (.iload_n 1, 1) := by decide +kernel
theorem dX11_desk_1 : decode cX11_desk 1 = .ok (.ifCond .lt 17, 3) := by decide +kernel
theorem dX11_desk_4 : decode cX11_desk 4 = .ok (.iload_n 1, 1) := by decide +kernel
theorem dX11_desk_5 : decode cX11_desk 5 = .ok (.aload_n 0, 1) := by decide +kernel
theorem dX11_desk_6 : decode cX11_desk 6 = .ok (.getfield 10, 3) := by decide +kernel
theorem dX11_desk_9 : decode cX11_desk 9 = .ok (.getfield 84, 3) := by decide +kernel
theorem dX11_desk_12 : decode cX11_desk 12 = .ok (.getfield 88, 3) := by decide +kernel
theorem dX11_desk_15 : decode cX11_desk 15 = .ok (.if_icmp .le 9, 3) := by decide +kernel
theorem dX11_desk_18 : decode cX11_desk 18 = .ok (.aload_n 0, 1) := by decide +kernel
theorem dX11_desk_19 : decode cX11_desk 19 = .ok (.iconst 2, 1) := by decide +kernel
theorem dX11_desk_20 : decode cX11_desk 20 = .ok (.invokevirtual 97, 3) := by decide +kernel
theorem dX11_desk_23 : decode cX11_desk 23 = .ok (.ireturn, 1) := by decide +kernel
theorem dX11_desk_24 : decode cX11_desk 24 = .ok (.aload_n 0, 1) := by decide +kernel
theorem dX11_desk_25 : decode cX11_desk 25 = .ok (.getfield 10, 3) := by decide +kernel
theorem dX11_desk_28 : decode cX11_desk 28 = .ok (.iload_n 1, 1) := by decide +kernel
theorem dX11_desk_29 : decode cX11_desk 29 = .ok (.aload_n 0, 1) := by decide +kernel
theorem dX11_desk_30 : decode cX11_desk 30 = .ok (.getfield 64, 3) := by decide +kernel
theorem dX11_desk_33 : decode cX11_desk 33 = .ok (.invokevirtual 101, 3) := by decide +kernel
theorem dX11_desk_36 : decode cX11_desk 36 = .ok (.aload_n 0, 1) := by decide +kernel
theorem dX11_desk_37 : decode cX11_desk 37 = .ok (.getfield 10, 3) := by decide +kernel
theorem dX11_desk_40 : decode cX11_desk 40 = .ok (.getfield 84, 3) := by decide +kernel
theorem dX11_desk_43 : decode cX11_desk 43 = .ok (.iconst 0, 1) := by decide +kernel
theorem dX11_desk_44 : decode cX11_desk 44 = .ok (.putfield 88, 3) := by decide +kernel
theorem dX11_desk_47 : decode cX11_desk 47 = .ok (.aload_n 0, 1) := by decide +kernel
theorem dX11_desk_48 : decode cX11_desk 48 = .ok (.aload_n 0, 1) := by decide +kernel
theorem dX11_desk_49 : decode cX11_desk 49 = .ok (.getfield 10, 3) := by decide +kernel
theorem dX11_desk_52 : decode cX11_desk 52 = .ok (.getfield 105, 3) := by decide +kernel
theorem dX11_desk_55 : decode cX11_desk 55 = .ok (.putfield 78, 3) := by decide +kernel
theorem dX11_desk_58 : decode cX11_desk 58 = .ok (.aload_n 0, 1) := by decide +kernel
theorem dX11_desk_59 : decode cX11_desk 59 = .ok (.aload_n 0, 1) := by decide +kernel
theorem dX11_desk_60 : decode cX11_desk 60 = .ok (.getfield 10, 3) := by decide +kernel
theorem dX11_desk_63 : decode cX11_desk 63 = .ok (.getfield 108, 3) := by decide +kernel
theorem dX11_desk_66 : decode cX11_desk 66 = .ok (.putfield 81, 3) := by decide +kernel
theorem dX11_desk_69 : decode cX11_desk 69 = .ok (.aload_n 0, 1) := by decide +kernel
theorem dX11_desk_70 : decode cX11_desk 70 = .ok (.getfield 78, 3) := by decide +kernel
theorem dX11_desk_73 : decode cX11_desk 73 = .ok (.ifCond .eq 9, 3) := by decide +kernel
theorem dX11_desk_76 : decode cX11_desk 76 = .ok (.aload_n 0, 1) := by decide +kernel
theorem dX11_desk_77 : decode cX11_desk 77 = .ok (.iconst 4, 1) := by decide +kernel
theorem dX11_desk_78 : decode cX11_desk 78 = .ok (.invokevirtual 97, 3) := by decide +kernel
theorem dX11_desk_81 : decode cX11_desk 81 = .ok (.ireturn, 1) := by decide +kernel
