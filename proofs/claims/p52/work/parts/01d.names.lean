theorem dX8_passes_102 : decode cX8_passes 102 = .ok (.goto 4, 3) := by decide +kernel
theorem dX8_passes_105 : decode cX8_passes 105 = .ok (.iconst 0, 1) := by decide +kernel
theorem dX8_passes_106 : decode cX8_passes 106 = .ok (.ireturn, 1) := by decide +kernel
set_option maxRecDepth 20000 in
theorem ggX8_mapped_X3_key : GoodIn wsX8_mapped wsX3_key := goodIn_r _ [5, 6] (by decide +kernel) (by decide +kernel)
set_option maxRecDepth 20000 in
theorem gX8_mapped_X3_key : GoodIn wsX8_mapped (va_wsS RX8 163 yX3_key wsX3_key) := goodIn_app (goodIn_of _ (by decide +kernel)) ggX8_mapped_X3_key
set_option maxRecDepth 20000 in
theorem ggX8_mapped_X3_value : GoodIn wsX8_mapped wsX3_value := goodIn_r _ [9] (by decide +kernel) (by decide +kernel)
set_option maxRecDepth 20000 in
theorem gX8_mapped_X3_value : GoodIn wsX8_mapped (va_wsS RX8 154 yX3_value wsX3_value) := goodIn_app (goodIn_of _ (by decide +kernel)) ggX8_mapped_X3_value
set_option maxRecDepth 20000 in
theorem ggX8_mapped_X3_time : GoodIn wsX8_mapped wsX3_time := goodIn_r _ [12, 13] (by decide +kernel) (by decide +kernel)
set_option maxRecDepth 20000 in
theorem gX8_mapped_X3_time : GoodIn wsX8_mapped (va_wsS RX8 127 yX3_time wsX3_time) := goodIn_app (goodIn_of _ (by decide +kernel)) ggX8_mapped_X3_time
set_option maxRecDepth 20000 in
theorem ggX8_mapped_X3_event : GoodIn wsX8_mapped wsX3_event := goodIn_r _ [16, 17] (by decide +kernel) (by decide +kernel)
set_option maxRecDepth 20000 in
theorem gX8_mapped_X3_event : GoodIn wsX8_mapped (va_wsS RX8 172 yX3_event wsX3_event) := goodIn_app (goodIn_of _ (by decide +kernel)) ggX8_mapped_X3_event
set_option maxRecDepth 20000 in
theorem ggX8_mapped_J9_floorMod_7cf53 : GoodIn wsX8_mapped wsJ9_floorMod_7cf53 := goodIn_r _ [21] (by decide +kernel) (by decide +kernel)
set_option maxRecDepth 20000 in
theorem gX8_mapped_J9_floorMod_7cf53 : GoodIn wsX8_mapped (va_wsS RX8 166 yJ9_floorMod_7cf53 wsJ9_floorMod_7cf53) := goodIn_app (goodIn_of _ (by decide +kernel)) ggX8_mapped_J9_floorMod_7cf53
theorem dX8_mapped_0 : decode cX8_mapped 0 = .ok (.lload_n 1, 1) := by decide +kernel
theorem dX8_mapped_1 : decode cX8_mapped 1 = .ok (.invokestatic 163, 3) := by decide +kernel
theorem dX8_mapped_4 : decode cX8_mapped 4 = .ok (.istore_n 3, 1) := by decide +kernel
theorem dX8_mapped_5 : decode cX8_mapped 5 = .ok (.lload_n 1, 1) := by decide +kernel
theorem dX8_mapped_6 : decode cX8_mapped 6 = .ok (.invokestatic 154, 3) := by decide +kernel
theorem dX8_mapped_9 : decode cX8_mapped 9 = .ok (.istore 4, 2) := by decide +kernel
theorem dX8_mapped_11 : decode cX8_mapped 11 = .ok (.lload_n 1, 1) := by decide +kernel
theorem dX8_mapped_12 : decode cX8_mapped 12 = .ok (.invokestatic 127, 3) := by decide +kernel
theorem dX8_mapped_15 : decode cX8_mapped 15 = .ok (.istore 5, 2) := by decide +kernel
theorem dX8_mapped_17 : decode cX8_mapped 17 = .ok (.aload_n 0, 1) := by decide +kernel
theorem dX8_mapped_18 : decode cX8_mapped 18 = .ok (.getfield 38, 3) := by decide +kernel
theorem dX8_mapped_21 : decode cX8_mapped 21 = .ok (.getfield 157, 3) := by decide +kernel
theorem dX8_mapped_24 : decode cX8_mapped 24 = .ok (.istore 6, 2) := by decide +kernel
theorem dX8_mapped_26 : decode cX8_mapped 26 = .ok (.aload_n 0, 1) := by decide +kernel
theorem dX8_mapped_27 : decode cX8_mapped 27 = .ok (.getfield 38, 3) := by decide +kernel
theorem dX8_mapped_30 : decode cX8_mapped 30 = .ok (.getfield 160, 3) := by decide +kernel
theorem dX8_mapped_33 : decode cX8_mapped 33 = .ok (.tableswitch 76 0 2 #[27, 39, 51], 27) := by decide +kernel
theorem dX8_mapped_60 : decode cX8_mapped 60 = .ok (.iload_n 3, 1) := by decide +kernel
theorem dX8_mapped_61 : decode cX8_mapped 61 = .ok (.iload 4, 2) := by decide +kernel
theorem dX8_mapped_63 : decode cX8_mapped 63 = .ok (.iload 6, 2) := by decide +kernel
theorem dX8_mapped_65 : decode cX8_mapped 65 = .ok (.iadd, 1) := by decide +kernel
theorem dX8_mapped_66 : decode cX8_mapped 66 = .ok (.iload 5, 2) := by decide +kernel
theorem dX8_mapped_68 : decode cX8_mapped 68 = .ok (.invokestatic 172, 3) := by decide +kernel
theorem dX8_mapped_71 : decode cX8_mapped 71 = .ok (.lreturn, 1) := by decide +kernel
theorem dX8_mapped_72 : decode cX8_mapped 72 = .ok (.iload_n 3, 1) := by decide +kernel
theorem dX8_mapped_73 : decode cX8_mapped 73 = .ok (.iload 4, 2) := by decide +kernel
theorem dX8_mapped_75 : decode cX8_mapped 75 = .ok (.iload 6, 2) := by decide +kernel
theorem dX8_mapped_77 : decode cX8_mapped 77 = .ok (.imul, 1) := by decide +kernel
theorem dX8_mapped_78 : decode cX8_mapped 78 = .ok (.iload 5, 2) := by decide +kernel
theorem dX8_mapped_80 : decode cX8_mapped 80 = .ok (.invokestatic 172, 3) := by decide +kernel
theorem dX8_mapped_83 : decode cX8_mapped 83 = .ok (.lreturn, 1) := by decide +kernel
theorem dX8_mapped_84 : decode cX8_mapped 84 = .ok (.iload 6, 2) := by decide +kernel
theorem dX8_mapped_86 : decode cX8_mapped 86 = .ok (.iconst 1, 1) := by decide +kernel
theorem dX8_mapped_87 : decode cX8_mapped 87 = .ok (.if_icmp .ge 7, 3) := by decide +kernel
theorem dX8_mapped_90 : decode cX8_mapped 90 = .ok (.iload_n 3, 1) := by decide +kernel
theorem dX8_mapped_91 : decode cX8_mapped 91 = .ok (.goto 10, 3) := by decide +kernel
theorem dX8_mapped_94 : decode cX8_mapped 94 = .ok (.iload 4, 2) := by decide +kernel
theorem dX8_mapped_96 : decode cX8_mapped 96 = .ok (.iload 6, 2) := by decide +kernel
theorem dX8_mapped_98 : decode cX8_mapped 98 = .ok (.invokestatic 166, 3) := by decide +kernel
theorem dX8_mapped_101 : decode cX8_mapped 101 = .ok (.iload 4, 2) := by decide +kernel
theorem dX8_mapped_103 : decode cX8_mapped 103 = .ok (.iload 5, 2) := by decide +kernel
theorem dX8_mapped_105 : decode cX8_mapped 105 = .ok (.invokestatic 172, 3) := by decide +kernel
theorem dX8_mapped_108 : decode cX8_mapped 108 = .ok (.lreturn, 1) := by decide +kernel
theorem dX8_mapped_109 : decode cX8_mapped 109 = .ok (.iload_n 3, 1) := by decide +kernel
theorem dX8_mapped_110 : decode cX8_mapped 110 = .ok (.iload_n 3, 1) := by decide +kernel
theorem dX8_mapped_111 : decode cX8_mapped 111 = .ok (.iload 5, 2) := by decide +kernel
theorem dX8_mapped_113 : decode cX8_mapped 113 = .ok (.invokestatic 172, 3) := by decide +kernel
theorem dX8_mapped_116 : decode cX8_mapped 116 = .ok (.lreturn, 1) := by decide +kernel
set_option maxRecDepth 20000 in
theorem ggX8_putOut_X6_add : GoodIn wsX8_putOut wsX6_add := goodIn_r _ [8, 9, 10, 11, 12, 13, 14, 15, 16, 17, 18, 19, 20, 21, 22, 23, 24, 25, 26, 27, 28, 29, 30, 54, 55] (by decide +kernel) (by decide +kernel)
set_option maxRecDepth 20000 in
theorem gX8_putOut_X6_add : GoodIn wsX8_putOut (wsV RX8 116 RX6 yX6_add wsX6_add) := goodIn_app (goodIn_of _ (by decide +kernel)) ggX8_putOut_X6_add
theorem dX8_putOut_0 : decode cX8_putOut 0 = .ok (.aload_n 0, 1) := by decide +kernel
theorem dX8_putOut_1 : decode cX8_putOut 1 = .ok (.getfield 28, 3) := by decide +kernel
theorem dX8_putOut_4 : decode cX8_putOut 4 = .ok (.dup, 1) := by decide +kernel
theorem dX8_putOut_5 : decode cX8_putOut 5 = .ok (.getfield 176, 3) := by decide +kernel
theorem dX8_putOut_8 : decode cX8_putOut 8 = .ok (.iconst 1, 1) := by decide +kernel
theorem dX8_putOut_9 : decode cX8_putOut 9 = .ok (.iadd, 1) := by decide +kernel
theorem dX8_putOut_10 : decode cX8_putOut 10 = .ok (.putfield 176, 3) := by decide +kernel
theorem dX8_putOut_13 : decode cX8_putOut 13 = .ok (.aload_n 0, 1) := by decide +kernel
theorem dX8_putOut_14 : decode cX8_putOut 14 = .ok (.getfield 52, 3) := by decide +kernel
theorem dX8_putOut_17 : decode cX8_putOut 17 = .ok (.ifCond .ne 11, 3) := by decide +kernel
theorem dX8_putOut_20 : decode cX8_putOut 20 = .ok (.aload_n 0, 1) := by decide +kernel
theorem dX8_putOut_21 : decode cX8_putOut 21 = .ok (.getfield 21, 3) := by decide +kernel
theorem dX8_putOut_24 : decode cX8_putOut 24 = .ok (.lload_n 1, 1) := by decide +kernel
theorem dX8_putOut_25 : decode cX8_putOut 25 = .ok (.invokevirtual 116, 3) := by decide +kernel
theorem dX8_putOut_28 : decode cX8_putOut 28 = .ok (.return_, 1) := by decide +kernel
set_option maxRecDepth 20000 in
theorem ggX8_takeIntoWindows_X3_time : GoodIn wsX8_takeIntoWindows wsX3_time := goodIn_r _ [6, 7] (by decide +kernel) (by decide +kernel)
set_option maxRecDepth 20000 in
theorem gX8_takeIntoWindows_X3_time : GoodIn wsX8_takeIntoWindows (va_wsS RX8 127 yX3_time wsX3_time) := goodIn_app (goodIn_of _ (by decide +kernel)) ggX8_takeIntoWindows_X3_time
set_option maxRecDepth 20000 in
theorem ggX8_takeIntoWindows_J9_floorDiv_7cf53 : GoodIn wsX8_takeIntoWindows wsJ9_floorDiv_7cf53 := goodIn_r _ [11] (by decide +kernel) (by decide +kernel)
set_option maxRecDepth 20000 in
theorem gX8_takeIntoWindows_J9_floorDiv_7cf53 : GoodIn wsX8_takeIntoWindows (va_wsS RX8 182 yJ9_floorDiv_7cf53 wsJ9_floorDiv_7cf53) := goodIn_app (goodIn_of _ (by decide +kernel)) ggX8_takeIntoWindows_J9_floorDiv_7cf53
set_option maxRecDepth 20000 in
theorem ggX8_takeIntoWindows_X8_takeIntoWindow : GoodIn wsX8_takeIntoWindows wsX8_takeIntoWindow := goodIn_r _ [16, 2, 1, 17, 18, 5, 19, 20, 21, 22, 23, 24, 25, 26, 27, 28, 29, 30, 31, 32, 33, 34, 35, 36, 37, 38, 39, 40, 41, 42, 43, 44, 45, 46, 47, 48, 4, 6, 7, 49, 50, 51, 52, 53, 54, 55, 56, 57, 58, 59, 60, 61, 62, 63, 64, 65, 66, 67, 68, 69, 70, 71, 72, 73, 74, 75, 76, 77, 78, 79, 80, 81, 82, 83, 84, 85, 86, 87, 88, 89, 90, 91, 92, 93, 94, 95, 96, 97, 98, 99, 100, 101, 102, 103, 104, 105, 106, 107, 108, 109, 110, 111, 150, 151, 152, 153, 154, 155, 156, 157, 158, 159, 160, 161, 177, 178, 179, 180, 181, 182, 183, 184, 185, 186, 187, 162, 163, 164, 165, 166, 167, 168, 169, 170, 171, 172, 173, 174, 175, 176, 188, 189, 190, 191] (by decide +kernel) (by decide +kernel)
set_option maxRecDepth 20000 in
theorem gX8_takeIntoWindows_X8_takeIntoWindow : GoodIn wsX8_takeIntoWindows (wsV RX8 190 RX8 yX8_takeIntoWindow wsX8_takeIntoWindow) := goodIn_app (goodIn_of _ (by decide +kernel)) ggX8_takeIntoWindows_X8_takeIntoWindow
set_option maxRecDepth 20000 in
theorem ggX8_takeIntoWindows_X8_fire : GoodIn wsX8_takeIntoWindows wsX8_fire := goodIn_r _ [115, 1, 2, 57, 58, 59, 23, 60, 61, 36, 37, 38, 33, 39, 35, 40, 116, 117, 43, 118, 75, 76, 77, 72, 73, 74, 119, 120, 121, 122, 29, 123, 124, 125, 126, 127, 128, 129, 5, 130, 131, 132, 133, 134, 15, 135, 136, 137, 138, 139, 140, 141, 142, 143, 144, 145, 146, 147, 148, 149, 94, 99, 100, 101, 102, 103, 104, 105, 106, 107, 108, 109, 110, 66, 67, 68, 111, 96, 97, 98, 150, 151, 152, 153, 154, 155, 156, 157, 158, 159, 160, 161, 162, 163, 164, 165, 166, 167, 168, 169, 170, 171, 172, 173, 174, 175, 176, 177, 178, 179, 180, 181, 182, 183, 184, 185, 186, 187, 188, 189, 190, 191, 192, 193, 194, 195, 196] (by decide +kernel) (by decide +kernel)
set_option maxRecDepth 20000 in
theorem gX8_takeIntoWindows_X8_fire : GoodIn wsX8_takeIntoWindows (wsV RX8 194 RX8 yX8_fire wsX8_fire) := goodIn_app (goodIn_of _ (by decide +kernel)) ggX8_takeIntoWindows_X8_fire
theorem dX8_takeIntoWindows_0 : decode cX8_takeIntoWindows 0 = .ok (.lload_n 1, 1) := by decide +kernel
theorem dX8_takeIntoWindows_1 : decode cX8_takeIntoWindows 1 = .ok (.invokestatic 127, 3) := by decide +kernel
theorem dX8_takeIntoWindows_4 : decode cX8_takeIntoWindows 4 = .ok (.istore_n 3, 1) := by decide +kernel
theorem dX8_takeIntoWindows_5 : decode cX8_takeIntoWindows 5 = .ok (.aload_n 0, 1) := by decide +kernel
theorem dX8_takeIntoWindows_6 : decode cX8_takeIntoWindows 6 = .ok (.getfield 38, 3) := by decide +kernel
theorem dX8_takeIntoWindows_9 : decode cX8_takeIntoWindows 9 = .ok (.getfield 179, 3) := by decide +kernel
theorem dX8_takeIntoWindows_12 : decode cX8_takeIntoWindows 12 = .ok (.iconst 1, 1) := by decide +kernel
theorem dX8_takeIntoWindows_13 : decode cX8_takeIntoWindows 13 = .ok (.if_icmp .ge 7, 3) := by decide +kernel
theorem dX8_takeIntoWindows_16 : decode cX8_takeIntoWindows 16 = .ok (.iload_n 3, 1) := by decide +kernel
theorem dX8_takeIntoWindows_17 : decode cX8_takeIntoWindows 17 = .ok (.goto 22, 3) := by decide +kernel
theorem dX8_takeIntoWindows_20 : decode cX8_takeIntoWindows 20 = .ok (.iload_n 3, 1) := by decide +kernel
theorem dX8_takeIntoWindows_21 : decode cX8_takeIntoWindows 21 = .ok (.aload_n 0, 1) := by decide +kernel
theorem dX8_takeIntoWindows_22 : decode cX8_takeIntoWindows 22 = .ok (.getfield 38, 3) := by decide +kernel
theorem dX8_takeIntoWindows_25 : decode cX8_takeIntoWindows 25 = .ok (.getfield 179, 3) := by decide +kernel
theorem dX8_takeIntoWindows_28 : decode cX8_takeIntoWindows 28 = .ok (.invokestatic 182, 3) := by decide +kernel
theorem dX8_takeIntoWindows_31 : decode cX8_takeIntoWindows 31 = .ok (.aload_n 0, 1) := by decide +kernel
theorem dX8_takeIntoWindows_32 : decode cX8_takeIntoWindows 32 = .ok (.getfield 38, 3) := by decide +kernel
theorem dX8_takeIntoWindows_35 : decode cX8_takeIntoWindows 35 = .ok (.getfield 179, 3) := by decide +kernel
theorem dX8_takeIntoWindows_38 : decode cX8_takeIntoWindows 38 = .ok (.imul, 1) := by decide +kernel
theorem dX8_takeIntoWindows_39 : decode cX8_takeIntoWindows 39 = .ok (.istore 4, 2) := by decide +kernel
theorem dX8_takeIntoWindows_41 : decode cX8_takeIntoWindows 41 = .ok (.iconst 1, 1) := by decide +kernel
theorem dX8_takeIntoWindows_42 : decode cX8_takeIntoWindows 42 = .ok (.istore 5, 2) := by decide +kernel
theorem dX8_takeIntoWindows_44 : decode cX8_takeIntoWindows 44 = .ok (.bipush 7, 2) := by decide +kernel
theorem dX8_takeIntoWindows_46 : decode cX8_takeIntoWindows 46 = .ok (.istore 6, 2) := by decide +kernel
theorem dX8_takeIntoWindows_48 : decode cX8_takeIntoWindows 48 = .ok (.iload 6, 2) := by decide +kernel
theorem dX8_takeIntoWindows_50 : decode cX8_takeIntoWindows 50 = .ok (.ifCond .lt 94, 3) := by decide +kernel
theorem dX8_takeIntoWindows_53 : decode cX8_takeIntoWindows 53 = .ok (.iload 4, 2) := by decide +kernel
theorem dX8_takeIntoWindows_55 : decode cX8_takeIntoWindows 55 = .ok (.iload 6, 2) := by decide +kernel
theorem dX8_takeIntoWindows_57 : decode cX8_takeIntoWindows 57 = .ok (.aload_n 0, 1) := by decide +kernel
theorem dX8_takeIntoWindows_58 : decode cX8_takeIntoWindows 58 = .ok (.getfield 38, 3) := by decide +kernel
theorem dX8_takeIntoWindows_61 : decode cX8_takeIntoWindows 61 = .ok (.getfield 179, 3) := by decide +kernel
theorem dX8_takeIntoWindows_64 : decode cX8_takeIntoWindows 64 = .ok (.imul, 1) := by decide +kernel
theorem dX8_takeIntoWindows_65 : decode cX8_takeIntoWindows 65 = .ok (.isub, 1) := by decide +kernel
theorem dX8_takeIntoWindows_66 : decode cX8_takeIntoWindows 66 = .ok (.istore 7, 2) := by decide +kernel
theorem dX8_takeIntoWindows_68 : decode cX8_takeIntoWindows 68 = .ok (.iload 7, 2) := by decide +kernel
theorem dX8_takeIntoWindows_70 : decode cX8_takeIntoWindows 70 = .ok (.aload_n 0, 1) := by decide +kernel
theorem dX8_takeIntoWindows_71 : decode cX8_takeIntoWindows 71 = .ok (.getfield 38, 3) := by decide +kernel
theorem dX8_takeIntoWindows_74 : decode cX8_takeIntoWindows 74 = .ok (.getfield 185, 3) := by decide +kernel
theorem dX8_takeIntoWindows_77 : decode cX8_takeIntoWindows 77 = .ok (.iadd, 1) := by decide +kernel
theorem dX8_takeIntoWindows_78 : decode cX8_takeIntoWindows 78 = .ok (.istore 8, 2) := by decide +kernel
theorem dX8_takeIntoWindows_80 : decode cX8_takeIntoWindows 80 = .ok (.iload 8, 2) := by decide +kernel
theorem dX8_takeIntoWindows_82 : decode cX8_takeIntoWindows 82 = .ok (.iload_n 3, 1) := by decide +kernel
theorem dX8_takeIntoWindows_83 : decode cX8_takeIntoWindows 83 = .ok (.if_icmp .le 55, 3) := by decide +kernel
theorem dX8_takeIntoWindows_86 : decode cX8_takeIntoWindows 86 = .ok (.aload_n 0, 1) := by decide +kernel
theorem dX8_takeIntoWindows_87 : decode cX8_takeIntoWindows 87 = .ok (.getfield 28, 3) := by decide +kernel
theorem dX8_takeIntoWindows_90 : decode cX8_takeIntoWindows 90 = .ok (.getfield 82, 3) := by decide +kernel
theorem dX8_takeIntoWindows_93 : decode cX8_takeIntoWindows 93 = .ok (.iload 8, 2) := by decide +kernel
theorem dX8_takeIntoWindows_95 : decode cX8_takeIntoWindows 95 = .ok (.aload_n 0, 1) := by decide +kernel
theorem dX8_takeIntoWindows_96 : decode cX8_takeIntoWindows 96 = .ok (.getfield 38, 3) := by decide +kernel
theorem dX8_takeIntoWindows_99 : decode cX8_takeIntoWindows 99 = .ok (.getfield 187, 3) := by decide +kernel
theorem dX8_takeIntoWindows_102 : decode cX8_takeIntoWindows 102 = .ok (.iadd, 1) := by decide +kernel
theorem dX8_takeIntoWindows_103 : decode cX8_takeIntoWindows 103 = .ok (.if_icmp .ge 35, 3) := by decide +kernel
theorem dX8_takeIntoWindows_106 : decode cX8_takeIntoWindows 106 = .ok (.iconst 0, 1) := by decide +kernel
theorem dX8_takeIntoWindows_107 : decode cX8_takeIntoWindows 107 = .ok (.istore 5, 2) := by decide +kernel
theorem dX8_takeIntoWindows_109 : decode cX8_takeIntoWindows 109 = .ok (.aload_n 0, 1) := by decide +kernel
theorem dX8_takeIntoWindows_110 : decode cX8_takeIntoWindows 110 = .ok (.lload_n 1, 1) := by decide +kernel
theorem dX8_takeIntoWindows_111 : decode cX8_takeIntoWindows 111 = .ok (.iload 7, 2) := by decide +kernel
theorem dX8_takeIntoWindows_113 : decode cX8_takeIntoWindows 113 = .ok (.iload 8, 2) := by decide +kernel
theorem dX8_takeIntoWindows_115 : decode cX8_takeIntoWindows 115 = .ok (.invokevirtual 190, 3) := by decide +kernel
theorem dX8_takeIntoWindows_118 : decode cX8_takeIntoWindows 118 = .ok (.istore 9, 2) := by decide +kernel
theorem dX8_takeIntoWindows_120 : decode cX8_takeIntoWindows 120 = .ok (.aload_n 0, 1) := by decide +kernel
theorem dX8_takeIntoWindows_121 : decode cX8_takeIntoWindows 121 = .ok (.getfield 28, 3) := by decide +kernel
theorem dX8_takeIntoWindows_124 : decode cX8_takeIntoWindows 124 = .ok (.getfield 82, 3) := by decide +kernel
theorem dX8_takeIntoWindows_127 : decode cX8_takeIntoWindows 127 = .ok (.iload 8, 2) := by decide +kernel
theorem dX8_takeIntoWindows_129 : decode cX8_takeIntoWindows 129 = .ok (.if_icmp .lt 9, 3) := by decide +kernel
theorem dX8_takeIntoWindows_132 : decode cX8_takeIntoWindows 132 = .ok (.aload_n 0, 1) := by decide +kernel
theorem dX8_takeIntoWindows_133 : decode cX8_takeIntoWindows 133 = .ok (.iload 9, 2) := by decide +kernel
theorem dX8_takeIntoWindows_135 : decode cX8_takeIntoWindows 135 = .ok (.invokevirtual 194, 3) := by decide +kernel
theorem dX8_takeIntoWindows_138 : decode cX8_takeIntoWindows 138 = .ok (.iinc 6 (-1), 3) := by decide +kernel
theorem dX8_takeIntoWindows_141 : decode cX8_takeIntoWindows 141 = .ok (.goto (-93), 3) := by decide +kernel
theorem dX8_takeIntoWindows_144 : decode cX8_takeIntoWindows 144 = .ok (.iload 5, 2) := by decide +kernel
theorem dX8_takeIntoWindows_146 : decode cX8_takeIntoWindows 146 = .ok (.ifCond .eq 16, 3) := by decide +kernel
theorem dX8_takeIntoWindows_149 : decode cX8_takeIntoWindows 149 = .ok (.aload_n 0, 1) := by decide +kernel
theorem dX8_takeIntoWindows_150 : decode cX8_takeIntoWindows 150 = .ok (.getfield 28, 3) := by decide +kernel
theorem dX8_takeIntoWindows_153 : decode cX8_takeIntoWindows 153 = .ok (.dup, 1) := by decide +kernel
theorem dX8_takeIntoWindows_154 : decode cX8_takeIntoWindows 154 = .ok (.getfield 198, 3) := by decide +kernel
theorem dX8_takeIntoWindows_157 : decode cX8_takeIntoWindows 157 = .ok (.iconst 1, 1) := by decide +kernel
theorem dX8_takeIntoWindows_158 : decode cX8_takeIntoWindows 158 = .ok (.iadd, 1) := by decide +kernel
theorem dX8_takeIntoWindows_159 : decode cX8_takeIntoWindows 159 = .ok (.putfield 198, 3) := by decide +kernel
theorem dX8_takeIntoWindows_162 : decode cX8_takeIntoWindows 162 = .ok (.return_, 1) := by decide +kernel
set_option maxRecDepth 20000 in
theorem ggX8_takeIntoWindow_X3_key : GoodIn wsX8_takeIntoWindow wsX3_key := goodIn_r _ [6, 7] (by decide +kernel) (by decide +kernel)
set_option maxRecDepth 20000 in
theorem gX8_takeIntoWindow_X3_key : GoodIn wsX8_takeIntoWindow (va_wsS RX8 163 yX3_key wsX3_key) := goodIn_app (goodIn_of _ (by decide +kernel)) ggX8_takeIntoWindow_X3_key
set_option maxRecDepth 20000 in
theorem ggX8_takeIntoWindow_X7_name : GoodIn wsX8_takeIntoWindow wsX7_name := goodIn_r _ [11] (by decide +kernel) (by decide +kernel)
set_option maxRecDepth 20000 in
theorem gX8_takeIntoWindow_X7_name : GoodIn wsX8_takeIntoWindow (va_wsS RX8 205 yX7_name wsX7_name) := goodIn_app (goodIn_of _ (by decide +kernel)) ggX8_takeIntoWindow_X7_name
set_option maxRecDepth 20000 in
theorem ggX8_takeIntoWindow_X7_placeFor : GoodIn wsX8_takeIntoWindow wsX7_placeFor := goodIn_r _ [15, 16, 17, 18, 19, 20, 21, 22, 23, 24, 25, 26, 27, 140, 141, 142, 143] (by decide +kernel) (by decide +kernel)
set_option maxRecDepth 20000 in
theorem gX8_takeIntoWindow_X7_placeFor : GoodIn wsX8_takeIntoWindow (wsV RX8 210 RX7 yX7_placeFor wsX7_placeFor) := goodIn_app (goodIn_of _ (by decide +kernel)) ggX8_takeIntoWindow_X7_placeFor
set_option maxRecDepth 20000 in
theorem ggX8_takeIntoWindow_X0_ofOne : GoodIn wsX8_takeIntoWindow wsX0_ofOne := goodIn_r _ [31, 32, 33, 5, 34, 35, 36, 37, 38, 39, 40, 30, 41, 42] (by decide +kernel) (by decide +kernel)
set_option maxRecDepth 20000 in
theorem gX8_takeIntoWindow_X0_ofOne : GoodIn wsX8_takeIntoWindow (va_wsS RX8 216 yX0_ofOne wsX0_ofOne) := goodIn_app (goodIn_of _ (by decide +kernel)) ggX8_takeIntoWindow_X0_ofOne
set_option maxRecDepth 20000 in
theorem ggX8_takeIntoWindow_X7_isAt : GoodIn wsX8_takeIntoWindow wsX7_isAt := goodIn_r _ [46, 16, 17, 18, 19, 20, 21, 22, 23, 24, 25, 26, 27, 140, 141, 142, 143] (by decide +kernel) (by decide +kernel)
set_option maxRecDepth 20000 in
theorem gX8_takeIntoWindow_X7_isAt : GoodIn wsX8_takeIntoWindow (wsV RX8 222 RX7 yX7_isAt wsX7_isAt) := goodIn_app (goodIn_of _ (by decide +kernel)) ggX8_takeIntoWindow_X7_isAt
set_option maxRecDepth 20000 in
theorem ggX8_takeIntoWindow_X7_accountAtPlace : GoodIn wsX8_takeIntoWindow wsX7_accountAtPlace := goodIn_r _ [50, 51, 23, 24, 25, 20, 26, 22, 27, 140, 141, 142, 143] (by decide +kernel) (by decide +kernel)
set_option maxRecDepth 20000 in
theorem gX8_takeIntoWindow_X7_accountAtPlace : GoodIn wsX8_takeIntoWindow (wsV RX8 226 RX7 yX7_accountAtPlace wsX7_accountAtPlace) := goodIn_app (goodIn_of _ (by decide +kernel)) ggX8_takeIntoWindow_X7_accountAtPlace
set_option maxRecDepth 20000 in
theorem ggX8_takeIntoWindow_X0_ofBoth : GoodIn wsX8_takeIntoWindow wsX0_ofBoth := goodIn_r _ [54, 55, 56, 57, 58, 59, 60, 61, 62, 63, 30, 64, 65, 66, 67, 39, 40, 41, 42] (by decide +kernel) (by decide +kernel)
set_option maxRecDepth 20000 in
theorem gX8_takeIntoWindow_X0_ofBoth : GoodIn wsX8_takeIntoWindow (va_wsS RX8 229 yX0_ofBoth wsX0_ofBoth) := goodIn_app (goodIn_of _ (by decide +kernel)) ggX8_takeIntoWindow_X0_ofBoth
set_option maxRecDepth 20000 in
theorem ggX8_takeIntoWindow_X7_setAccount : GoodIn wsX8_takeIntoWindow wsX7_setAccount := goodIn_r _ [71, 51, 72, 73, 74, 20, 75, 22, 27, 140, 141, 142, 143] (by decide +kernel) (by decide +kernel)
set_option maxRecDepth 20000 in
theorem gX8_takeIntoWindow_X7_setAccount : GoodIn wsX8_takeIntoWindow (wsV RX8 233 RX7 yX7_setAccount wsX7_setAccount) := goodIn_app (goodIn_of _ (by decide +kernel)) ggX8_takeIntoWindow_X7_setAccount
set_option maxRecDepth 20000 in
theorem ggX8_takeIntoWindow_X7_insert : GoodIn wsX8_takeIntoWindow wsX7_insert := goodIn_r _ [79, 16, 51, 80, 81, 82, 20, 83, 22, 27, 84, 85, 86, 87, 88, 89, 90, 91, 92, 93, 94, 95, 96, 97, 98, 99, 100, 56, 57, 58, 101, 140, 141, 142, 143] (by decide +kernel) (by decide +kernel)
set_option maxRecDepth 20000 in
theorem gX8_takeIntoWindow_X7_insert : GoodIn wsX8_takeIntoWindow (wsV RX8 237 RX7 yX7_insert wsX7_insert) := goodIn_app (goodIn_of _ (by decide +kernel)) ggX8_takeIntoWindow_X7_insert
theorem dX8_takeIntoWindow_0 : decode cX8_takeIntoWindow 0 = .ok (.aload_n 0, 1) := by decide +kernel
theorem dX8_takeIntoWindow_1 : decode cX8_takeIntoWindow 1 = .ok (.getfield 28, 3) := by decide +kernel
theorem dX8_takeIntoWindow_4 : decode cX8_takeIntoWindow 4 = .ok (.getfield 201, 3) := by decide +kernel
theorem dX8_takeIntoWindow_7 : decode cX8_takeIntoWindow 7 = .ok (.astore 5, 2) := by decide +kernel
theorem dX8_takeIntoWindow_9 : decode cX8_takeIntoWindow 9 = .ok (.iload 4, 2) := by decide +kernel
theorem dX8_takeIntoWindow_11 : decode cX8_takeIntoWindow 11 = .ok (.lload_n 1, 1) := by decide +kernel
theorem dX8_takeIntoWindow_12 : decode cX8_takeIntoWindow 12 = .ok (.invokestatic 163, 3) := by decide +kernel
theorem dX8_takeIntoWindow_15 : decode cX8_takeIntoWindow 15 = .ok (.iload_n 3, 1) := by decide +kernel
theorem dX8_takeIntoWindow_16 : decode cX8_takeIntoWindow 16 = .ok (.invokestatic 205, 3) := by decide +kernel
theorem dX8_takeIntoWindow_19 : decode cX8_takeIntoWindow 19 = .ok (.lstore 6, 2) := by decide +kernel
theorem dX8_takeIntoWindow_21 : decode cX8_takeIntoWindow 21 = .ok (.aload 5, 2) := by decide +kernel
theorem dX8_takeIntoWindow_23 : decode cX8_takeIntoWindow 23 = .ok (.lload 6, 2) := by decide +kernel
theorem dX8_takeIntoWindow_25 : decode cX8_takeIntoWindow 25 = .ok (.invokevirtual 210, 3) := by decide +kernel
theorem dX8_takeIntoWindow_28 : decode cX8_takeIntoWindow 28 = .ok (.istore 8, 2) := by decide +kernel
theorem dX8_takeIntoWindow_30 : decode cX8_takeIntoWindow 30 = .ok (.aload_n 0, 1) := by decide +kernel
theorem dX8_takeIntoWindow_31 : decode cX8_takeIntoWindow 31 = .ok (.getfield 38, 3) := by decide +kernel
theorem dX8_takeIntoWindow_34 : decode cX8_takeIntoWindow 34 = .ok (.getfield 213, 3) := by decide +kernel
theorem dX8_takeIntoWindow_37 : decode cX8_takeIntoWindow 37 = .ok (.lload_n 1, 1) := by decide +kernel
theorem dX8_takeIntoWindow_38 : decode cX8_takeIntoWindow 38 = .ok (.invokestatic 216, 3) := by decide +kernel
theorem dX8_takeIntoWindow_41 : decode cX8_takeIntoWindow 41 = .ok (.lstore 9, 2) := by decide +kernel
theorem dX8_takeIntoWindow_43 : decode cX8_takeIntoWindow 43 = .ok (.aload 5, 2) := by decide +kernel
theorem dX8_takeIntoWindow_45 : decode cX8_takeIntoWindow 45 = .ok (.iload 8, 2) := by decide +kernel
theorem dX8_takeIntoWindow_47 : decode cX8_takeIntoWindow 47 = .ok (.lload 6, 2) := by decide +kernel
theorem dX8_takeIntoWindow_49 : decode cX8_takeIntoWindow 49 = .ok (.invokevirtual 222, 3) := by decide +kernel
theorem dX8_takeIntoWindow_52 : decode cX8_takeIntoWindow 52 = .ok (.ifCond .eq 36, 3) := by decide +kernel
theorem dX8_takeIntoWindow_55 : decode cX8_takeIntoWindow 55 = .ok (.aload_n 0, 1) := by decide +kernel
theorem dX8_takeIntoWindow_56 : decode cX8_takeIntoWindow 56 = .ok (.getfield 38, 3) := by decide +kernel
theorem dX8_takeIntoWindow_59 : decode cX8_takeIntoWindow 59 = .ok (.getfield 213, 3) := by decide +kernel
theorem dX8_takeIntoWindow_62 : decode cX8_takeIntoWindow 62 = .ok (.aload 5, 2) := by decide +kernel
theorem dX8_takeIntoWindow_64 : decode cX8_takeIntoWindow 64 = .ok (.iload 8, 2) := by decide +kernel
theorem dX8_takeIntoWindow_66 : decode cX8_takeIntoWindow 66 = .ok (.invokevirtual 226, 3) := by decide +kernel
theorem dX8_takeIntoWindow_69 : decode cX8_takeIntoWindow 69 = .ok (.lload 9, 2) := by decide +kernel
theorem dX8_takeIntoWindow_71 : decode cX8_takeIntoWindow 71 = .ok (.invokestatic 229, 3) := by decide +kernel
theorem dX8_takeIntoWindow_74 : decode cX8_takeIntoWindow 74 = .ok (.lstore 9, 2) := by decide +kernel
theorem dX8_takeIntoWindow_76 : decode cX8_takeIntoWindow 76 = .ok (.aload 5, 2) := by decide +kernel
theorem dX8_takeIntoWindow_78 : decode cX8_takeIntoWindow 78 = .ok (.iload 8, 2) := by decide +kernel
theorem dX8_takeIntoWindow_80 : decode cX8_takeIntoWindow 80 = .ok (.lload 9, 2) := by decide +kernel
theorem dX8_takeIntoWindow_82 : decode cX8_takeIntoWindow 82 = .ok (.invokevirtual 233, 3) := by decide +kernel
theorem dX8_takeIntoWindow_85 : decode cX8_takeIntoWindow 85 = .ok (.goto 14, 3) := by decide +kernel
theorem dX8_takeIntoWindow_88 : decode cX8_takeIntoWindow 88 = .ok (.aload 5, 2) := by decide +kernel
theorem dX8_takeIntoWindow_90 : decode cX8_takeIntoWindow 90 = .ok (.iload 8, 2) := by decide +kernel
theorem dX8_takeIntoWindow_92 : decode cX8_takeIntoWindow 92 = .ok (.lload 6, 2) := by decide +kernel
theorem dX8_takeIntoWindow_94 : decode cX8_takeIntoWindow 94 = .ok (.lload 9, 2) := by decide +kernel
theorem dX8_takeIntoWindow_96 : decode cX8_takeIntoWindow 96 = .ok (.invokevirtual 237, 3) := by decide +kernel
theorem dX8_takeIntoWindow_99 : decode cX8_takeIntoWindow 99 = .ok (.iload 8, 2) := by decide +kernel
theorem dX8_takeIntoWindow_101 : decode cX8_takeIntoWindow 101 = .ok (.ireturn, 1) := by decide +kernel
set_option maxRecDepth 20000 in
theorem ggX8_takeIntoSession_X3_key : GoodIn wsX8_takeIntoSession wsX3_key := goodIn_r _ [13, 14] (by decide +kernel) (by decide +kernel)
set_option maxRecDepth 20000 in
theorem gX8_takeIntoSession_X3_key : GoodIn wsX8_takeIntoSession (va_wsS RX8 163 yX3_key wsX3_key) := goodIn_app (goodIn_of _ (by decide +kernel)) ggX8_takeIntoSession_X3_key
set_option maxRecDepth 20000 in
theorem ggX8_takeIntoSession_X3_time : GoodIn wsX8_takeIntoSession wsX3_time := goodIn_r _ [17, 18] (by decide +kernel) (by decide +kernel)
set_option maxRecDepth 20000 in
theorem gX8_takeIntoSession_X3_time : GoodIn wsX8_takeIntoSession (va_wsS RX8 127 yX3_time wsX3_time) := goodIn_app (goodIn_of _ (by decide +kernel)) ggX8_takeIntoSession_X3_time
set_option maxRecDepth 20000 in
theorem ggX8_takeIntoSession_X0_ofOne : GoodIn wsX8_takeIntoSession wsX0_ofOne := goodIn_r _ [22, 23, 24, 12, 25, 26, 16, 17, 18, 27, 28, 21, 29, 30] (by decide +kernel) (by decide +kernel)
set_option maxRecDepth 20000 in
theorem gX8_takeIntoSession_X0_ofOne : GoodIn wsX8_takeIntoSession (va_wsS RX8 216 yX0_ofOne wsX0_ofOne) := goodIn_app (goodIn_of _ (by decide +kernel)) ggX8_takeIntoSession_X0_ofOne
set_option maxRecDepth 20000 in
theorem ggX8_takeIntoSession_X7_length : GoodIn wsX8_takeIntoSession wsX7_length := goodIn_r _ [35, 36, 37, 38, 39, 40, 41, 42, 157, 158, 159, 160] (by decide +kernel) (by decide +kernel)
set_option maxRecDepth 20000 in
theorem gX8_takeIntoSession_X7_length : GoodIn wsX8_takeIntoSession (wsV RX8 244 RX7 yX7_length wsX7_length) := goodIn_app (goodIn_of _ (by decide +kernel)) ggX8_takeIntoSession_X7_length
set_option maxRecDepth 20000 in
theorem ggX8_takeIntoSession_X7_keyAtPlace : GoodIn wsX8_takeIntoSession wsX7_keyAtPlace := goodIn_r _ [46, 36, 47, 48, 49, 50, 40, 51, 42, 52, 157, 158, 159, 160] (by decide +kernel) (by decide +kernel)
set_option maxRecDepth 20000 in
theorem gX8_takeIntoSession_X7_keyAtPlace : GoodIn wsX8_takeIntoSession (wsV RX8 245 RX7 yX7_keyAtPlace wsX7_keyAtPlace) := goodIn_app (goodIn_of _ (by decide +kernel)) ggX8_takeIntoSession_X7_keyAtPlace
set_option maxRecDepth 20000 in
theorem ggX8_takeIntoSession_X7_beginAt : GoodIn wsX8_takeIntoSession wsX7_beginAt := goodIn_r _ [56, 36, 57, 48, 49, 50, 40, 51, 42, 52, 157, 158, 159, 160] (by decide +kernel) (by decide +kernel)
set_option maxRecDepth 20000 in
theorem gX8_takeIntoSession_X7_beginAt : GoodIn wsX8_takeIntoSession (wsV RX8 249 RX7 yX7_beginAt wsX7_beginAt) := goodIn_app (goodIn_of _ (by decide +kernel)) ggX8_takeIntoSession_X7_beginAt
set_option maxRecDepth 20000 in
theorem ggX8_takeIntoSession_X7_endAt : GoodIn wsX8_takeIntoSession wsX7_endAt := goodIn_r _ [61, 36, 48, 49, 50, 40, 51, 42, 52, 157, 158, 159, 160] (by decide +kernel) (by decide +kernel)
set_option maxRecDepth 20000 in
theorem gX8_takeIntoSession_X7_endAt : GoodIn wsX8_takeIntoSession (wsV RX8 252 RX7 yX7_endAt wsX7_endAt) := goodIn_app (goodIn_of _ (by decide +kernel)) ggX8_takeIntoSession_X7_endAt
set_option maxRecDepth 20000 in
theorem ggX8_takeIntoSession_X7_accountAtPlace : GoodIn wsX8_takeIntoSession wsX7_accountAtPlace := goodIn_r _ [65, 66, 48, 49, 50, 40, 51, 42, 52, 157, 158, 159, 160] (by decide +kernel) (by decide +kernel)
set_option maxRecDepth 20000 in
theorem gX8_takeIntoSession_X7_accountAtPlace : GoodIn wsX8_takeIntoSession (wsV RX8 226 RX7 yX7_accountAtPlace wsX7_accountAtPlace) := goodIn_app (goodIn_of _ (by decide +kernel)) ggX8_takeIntoSession_X7_accountAtPlace
set_option maxRecDepth 20000 in
theorem ggX8_takeIntoSession_X0_ofBoth : GoodIn wsX8_takeIntoSession wsX0_ofBoth := goodIn_r _ [69, 70, 4, 5, 6, 71, 8, 9, 72, 73, 21, 74, 75, 76, 77, 27, 28, 29, 30] (by decide +kernel) (by decide +kernel)
set_option maxRecDepth 20000 in
theorem gX8_takeIntoSession_X0_ofBoth : GoodIn wsX8_takeIntoSession (va_wsS RX8 229 yX0_ofBoth wsX0_ofBoth) := goodIn_app (goodIn_of _ (by decide +kernel)) ggX8_takeIntoSession_X0_ofBoth
set_option maxRecDepth 20000 in
theorem ggX8_takeIntoSession_X7_remove : GoodIn wsX8_takeIntoSession wsX7_remove := goodIn_r _ [81, 36, 66, 82, 83, 84, 40, 85, 42, 52, 86, 87, 88, 89, 157, 158, 159, 160] (by decide +kernel) (by decide +kernel)
set_option maxRecDepth 20000 in
theorem gX8_takeIntoSession_X7_remove : GoodIn wsX8_takeIntoSession (wsV RX8 261 RX7 yX7_remove wsX7_remove) := goodIn_app (goodIn_of _ (by decide +kernel)) ggX8_takeIntoSession_X7_remove
set_option maxRecDepth 20000 in
theorem ggX8_takeIntoSession_X7_name : GoodIn wsX8_takeIntoSession wsX7_name := goodIn_r _ [92] (by decide +kernel) (by decide +kernel)
set_option maxRecDepth 20000 in
theorem gX8_takeIntoSession_X7_name : GoodIn wsX8_takeIntoSession (va_wsS RX8 205 yX7_name wsX7_name) := goodIn_app (goodIn_of _ (by decide +kernel)) ggX8_takeIntoSession_X7_name
set_option maxRecDepth 20000 in
theorem ggX8_takeIntoSession_X7_placeFor : GoodIn wsX8_takeIntoSession wsX7_placeFor := goodIn_r _ [96, 36, 37, 38, 39, 40, 41, 42, 48, 49, 50, 51, 52, 157, 158, 159, 160] (by decide +kernel) (by decide +kernel)
set_option maxRecDepth 20000 in
theorem gX8_takeIntoSession_X7_placeFor : GoodIn wsX8_takeIntoSession (wsV RX8 210 RX7 yX7_placeFor wsX7_placeFor) := goodIn_app (goodIn_of _ (by decide +kernel)) ggX8_takeIntoSession_X7_placeFor
set_option maxRecDepth 20000 in
theorem ggX8_takeIntoSession_X7_insert : GoodIn wsX8_takeIntoSession wsX7_insert := goodIn_r _ [100, 36, 66, 101, 102, 103, 40, 104, 42, 52, 105, 86, 87, 88, 89, 106, 107, 108, 109, 110, 111, 112, 113, 114, 115, 116, 117, 4, 5, 6, 118, 157, 158, 159, 160] (by decide +kernel) (by decide +kernel)
set_option maxRecDepth 20000 in
theorem gX8_takeIntoSession_X7_insert : GoodIn wsX8_takeIntoSession (wsV RX8 237 RX7 yX7_insert wsX7_insert) := goodIn_app (goodIn_of _ (by decide +kernel)) ggX8_takeIntoSession_X7_insert
theorem dX8_takeIntoSession_0 : decode cX8_takeIntoSession 0 = .ok (.aload_n 0, 1) := by decide +kernel
theorem dX8_takeIntoSession_1 : decode cX8_takeIntoSession 1 = .ok (.getfield 28, 3) := by decide +kernel
theorem dX8_takeIntoSession_4 : decode cX8_takeIntoSession 4 = .ok (.getfield 201, 3) := by decide +kernel
theorem dX8_takeIntoSession_7 : decode cX8_takeIntoSession 7 = .ok (.astore_n 3, 1) := by decide +kernel
theorem dX8_takeIntoSession_8 : decode cX8_takeIntoSession 8 = .ok (.lload_n 1, 1) := by decide +kernel
theorem dX8_takeIntoSession_9 : decode cX8_takeIntoSession 9 = .ok (.invokestatic 163, 3) := by decide +kernel
theorem dX8_takeIntoSession_12 : decode cX8_takeIntoSession 12 = .ok (.istore 4, 2) := by decide +kernel
theorem dX8_takeIntoSession_14 : decode cX8_takeIntoSession 14 = .ok (.lload_n 1, 1) := by decide +kernel
theorem dX8_takeIntoSession_15 : decode cX8_takeIntoSession 15 = .ok (.invokestatic 127, 3) := by decide +kernel
theorem dX8_takeIntoSession_18 : decode cX8_takeIntoSession 18 = .ok (.istore 5, 2) := by decide +kernel
theorem dX8_takeIntoSession_20 : decode cX8_takeIntoSession 20 = .ok (.iload 5, 2) := by decide +kernel
theorem dX8_takeIntoSession_22 : decode cX8_takeIntoSession 22 = .ok (.istore 6, 2) := by decide +kernel
theorem dX8_takeIntoSession_24 : decode cX8_takeIntoSession 24 = .ok (.iload 5, 2) := by decide +kernel
theorem dX8_takeIntoSession_26 : decode cX8_takeIntoSession 26 = .ok (.aload_n 0, 1) := by decide +kernel
theorem dX8_takeIntoSession_27 : decode cX8_takeIntoSession 27 = .ok (.getfield 38, 3) := by decide +kernel
theorem dX8_takeIntoSession_30 : decode cX8_takeIntoSession 30 = .ok (.getfield 241, 3) := by decide +kernel
theorem dX8_takeIntoSession_33 : decode cX8_takeIntoSession 33 = .ok (.iadd, 1) := by decide +kernel
theorem dX8_takeIntoSession_34 : decode cX8_takeIntoSession 34 = .ok (.istore 7, 2) := by decide +kernel
theorem dX8_takeIntoSession_36 : decode cX8_takeIntoSession 36 = .ok (.iload 7, 2) := by decide +kernel
theorem dX8_takeIntoSession_38 : decode cX8_takeIntoSession 38 = .ok (.aload_n 0, 1) := by decide +kernel
theorem dX8_takeIntoSession_39 : decode cX8_takeIntoSession 39 = .ok (.getfield 28, 3) := by decide +kernel
theorem dX8_takeIntoSession_42 : decode cX8_takeIntoSession 42 = .ok (.getfield 82, 3) := by decide +kernel
theorem dX8_takeIntoSession_45 : decode cX8_takeIntoSession 45 = .ok (.if_icmp .gt 7, 3) := by decide +kernel
theorem dX8_takeIntoSession_48 : decode cX8_takeIntoSession 48 = .ok (.iconst 1, 1) := by decide +kernel
theorem dX8_takeIntoSession_49 : decode cX8_takeIntoSession 49 = .ok (.goto 4, 3) := by decide +kernel
theorem dX8_takeIntoSession_52 : decode cX8_takeIntoSession 52 = .ok (.iconst 0, 1) := by decide +kernel
theorem dX8_takeIntoSession_53 : decode cX8_takeIntoSession 53 = .ok (.istore 8, 2) := by decide +kernel
theorem dX8_takeIntoSession_55 : decode cX8_takeIntoSession 55 = .ok (.aload_n 0, 1) := by decide +kernel
theorem dX8_takeIntoSession_56 : decode cX8_takeIntoSession 56 = .ok (.getfield 38, 3) := by decide +kernel
theorem dX8_takeIntoSession_59 : decode cX8_takeIntoSession 59 = .ok (.getfield 213, 3) := by decide +kernel
theorem dX8_takeIntoSession_62 : decode cX8_takeIntoSession 62 = .ok (.lload_n 1, 1) := by decide +kernel
theorem dX8_takeIntoSession_63 : decode cX8_takeIntoSession 63 = .ok (.invokestatic 216, 3) := by decide +kernel
theorem dX8_takeIntoSession_66 : decode cX8_takeIntoSession 66 = .ok (.lstore 9, 2) := by decide +kernel
theorem dX8_takeIntoSession_68 : decode cX8_takeIntoSession 68 = .ok (.aload_n 3, 1) := by decide +kernel
theorem dX8_takeIntoSession_69 : decode cX8_takeIntoSession 69 = .ok (.invokevirtual 244, 3) := by decide +kernel
theorem dX8_takeIntoSession_72 : decode cX8_takeIntoSession 72 = .ok (.iconst 1, 1) := by decide +kernel
theorem dX8_takeIntoSession_73 : decode cX8_takeIntoSession 73 = .ok (.isub, 1) := by decide +kernel
theorem dX8_takeIntoSession_74 : decode cX8_takeIntoSession 74 = .ok (.istore 11, 2) := by decide +kernel
theorem dX8_takeIntoSession_76 : decode cX8_takeIntoSession 76 = .ok (.iload 11, 2) := by decide +kernel
theorem dX8_takeIntoSession_78 : decode cX8_takeIntoSession 78 = .ok (.ifCond .lt 106, 3) := by decide +kernel
theorem dX8_takeIntoSession_81 : decode cX8_takeIntoSession 81 = .ok (.aload_n 3, 1) := by decide +kernel
theorem dX8_takeIntoSession_82 : decode cX8_takeIntoSession 82 = .ok (.iload 11, 2) := by decide +kernel
theorem dX8_takeIntoSession_84 : decode cX8_takeIntoSession 84 = .ok (.invokevirtual 245, 3) := by decide +kernel
theorem dX8_takeIntoSession_87 : decode cX8_takeIntoSession 87 = .ok (.iload 4, 2) := by decide +kernel
theorem dX8_takeIntoSession_89 : decode cX8_takeIntoSession 89 = .ok (.if_icmp .ne 89, 3) := by decide +kernel
theorem dX8_takeIntoSession_92 : decode cX8_takeIntoSession 92 = .ok (.aload_n 3, 1) := by decide +kernel
theorem dX8_takeIntoSession_93 : decode cX8_takeIntoSession 93 = .ok (.iload 11, 2) := by decide +kernel
theorem dX8_takeIntoSession_95 : decode cX8_takeIntoSession 95 = .ok (.invokevirtual 249, 3) := by decide +kernel
theorem dX8_takeIntoSession_98 : decode cX8_takeIntoSession 98 = .ok (.iload 5, 2) := by decide +kernel
theorem dX8_takeIntoSession_100 : decode cX8_takeIntoSession 100 = .ok (.aload_n 0, 1) := by decide +kernel
theorem dX8_takeIntoSession_101 : decode cX8_takeIntoSession 101 = .ok (.getfield 38, 3) := by decide +kernel
theorem dX8_takeIntoSession_104 : decode cX8_takeIntoSession 104 = .ok (.getfield 241, 3) := by decide +kernel
theorem dX8_takeIntoSession_107 : decode cX8_takeIntoSession 107 = .ok (.iadd, 1) := by decide +kernel
theorem dX8_takeIntoSession_108 : decode cX8_takeIntoSession 108 = .ok (.if_icmp .ge 70, 3) := by decide +kernel
theorem dX8_takeIntoSession_111 : decode cX8_takeIntoSession 111 = .ok (.aload_n 3, 1) := by decide +kernel
theorem dX8_takeIntoSession_112 : decode cX8_takeIntoSession 112 = .ok (.iload 11, 2) := by decide +kernel
theorem dX8_takeIntoSession_114 : decode cX8_takeIntoSession 114 = .ok (.invokevirtual 252, 3) := by decide +kernel
theorem dX8_takeIntoSession_117 : decode cX8_takeIntoSession 117 = .ok (.iload 5, 2) := by decide +kernel
theorem dX8_takeIntoSession_119 : decode cX8_takeIntoSession 119 = .ok (.if_icmp .le 59, 3) := by decide +kernel
theorem dX8_takeIntoSession_122 : decode cX8_takeIntoSession 122 = .ok (.iconst 0, 1) := by decide +kernel
theorem dX8_takeIntoSession_123 : decode cX8_takeIntoSession 123 = .ok (.istore 8, 2) := by decide +kernel
theorem dX8_takeIntoSession_125 : decode cX8_takeIntoSession 125 = .ok (.iload 6, 2) := by decide +kernel
theorem dX8_takeIntoSession_127 : decode cX8_takeIntoSession 127 = .ok (.aload_n 3, 1) := by decide +kernel
theorem dX8_takeIntoSession_128 : decode cX8_takeIntoSession 128 = .ok (.iload 11, 2) := by decide +kernel
theorem dX8_takeIntoSession_130 : decode cX8_takeIntoSession 130 = .ok (.invokevirtual 249, 3) := by decide +kernel
theorem dX8_takeIntoSession_133 : decode cX8_takeIntoSession 133 = .ok (.invokestatic 255, 3) := by decide +kernel
theorem dX8_takeIntoSession_136 : decode cX8_takeIntoSession 136 = .ok (.istore 6, 2) := by decide +kernel
theorem dX8_takeIntoSession_138 : decode cX8_takeIntoSession 138 = .ok (.iload 7, 2) := by decide +kernel
theorem dX8_takeIntoSession_140 : decode cX8_takeIntoSession 140 = .ok (.aload_n 3, 1) := by decide +kernel
theorem dX8_takeIntoSession_141 : decode cX8_takeIntoSession 141 = .ok (.iload 11, 2) := by decide +kernel
theorem dX8_takeIntoSession_143 : decode cX8_takeIntoSession 143 = .ok (.invokevirtual 252, 3) := by decide +kernel
theorem dX8_takeIntoSession_146 : decode cX8_takeIntoSession 146 = .ok (.invokestatic 258, 3) := by decide +kernel
theorem dX8_takeIntoSession_149 : decode cX8_takeIntoSession 149 = .ok (.istore 7, 2) := by decide +kernel
theorem dX8_takeIntoSession_151 : decode cX8_takeIntoSession 151 = .ok (.aload_n 0, 1) := by decide +kernel
theorem dX8_takeIntoSession_152 : decode cX8_takeIntoSession 152 = .ok (.getfield 38, 3) := by decide +kernel
theorem dX8_takeIntoSession_155 : decode cX8_takeIntoSession 155 = .ok (.getfield 213, 3) := by decide +kernel
theorem dX8_takeIntoSession_158 : decode cX8_takeIntoSession 158 = .ok (.aload_n 3, 1) := by decide +kernel
theorem dX8_takeIntoSession_159 : decode cX8_takeIntoSession 159 = .ok (.iload 11, 2) := by decide +kernel
theorem dX8_takeIntoSession_161 : decode cX8_takeIntoSession 161 = .ok (.invokevirtual 226, 3) := by decide +kernel
theorem dX8_takeIntoSession_164 : decode cX8_takeIntoSession 164 = .ok (.lload 9, 2) := by decide +kernel
theorem dX8_takeIntoSession_166 : decode cX8_takeIntoSession 166 = .ok (.invokestatic 229, 3) := by decide +kernel
theorem dX8_takeIntoSession_169 : decode cX8_takeIntoSession 169 = .ok (.lstore 9, 2) := by decide +kernel
theorem dX8_takeIntoSession_171 : decode cX8_takeIntoSession 171 = .ok (.aload_n 3, 1) := by decide +kernel
theorem dX8_takeIntoSession_172 : decode cX8_takeIntoSession 172 = .ok (.iload 11, 2) := by decide +kernel
theorem dX8_takeIntoSession_174 : decode cX8_takeIntoSession 174 = .ok (.iconst 1, 1) := by decide +kernel
theorem dX8_takeIntoSession_175 : decode cX8_takeIntoSession 175 = .ok (.invokevirtual 261, 3) := by decide +kernel
theorem dX8_takeIntoSession_178 : decode cX8_takeIntoSession 178 = .ok (.iinc 11 (-1), 3) := by decide +kernel
theorem dX8_takeIntoSession_181 : decode cX8_takeIntoSession 181 = .ok (.goto (-105), 3) := by decide +kernel
theorem dX8_takeIntoSession_184 : decode cX8_takeIntoSession 184 = .ok (.iload 8, 2) := by decide +kernel
theorem dX8_takeIntoSession_186 : decode cX8_takeIntoSession 186 = .ok (.ifCond .eq 17, 3) := by decide +kernel
theorem dX8_takeIntoSession_189 : decode cX8_takeIntoSession 189 = .ok (.aload_n 0, 1) := by decide +kernel
theorem dX8_takeIntoSession_190 : decode cX8_takeIntoSession 190 = .ok (.getfield 28, 3) := by decide +kernel
theorem dX8_takeIntoSession_193 : decode cX8_takeIntoSession 193 = .ok (.dup, 1) := by decide +kernel
theorem dX8_takeIntoSession_194 : decode cX8_takeIntoSession 194 = .ok (.getfield 198, 3) := by decide +kernel
theorem dX8_takeIntoSession_197 : decode cX8_takeIntoSession 197 = .ok (.iconst 1, 1) := by decide +kernel
theorem dX8_takeIntoSession_198 : decode cX8_takeIntoSession 198 = .ok (.iadd, 1) := by decide +kernel
theorem dX8_takeIntoSession_199 : decode cX8_takeIntoSession 199 = .ok (.putfield 198, 3) := by decide +kernel
theorem dX8_takeIntoSession_202 : decode cX8_takeIntoSession 202 = .ok (.return_, 1) := by decide +kernel
theorem dX8_takeIntoSession_203 : decode cX8_takeIntoSession 203 = .ok (.iload 7, 2) := by decide +kernel
theorem dX8_takeIntoSession_205 : decode cX8_takeIntoSession 205 = .ok (.iload 4, 2) := by decide +kernel
theorem dX8_takeIntoSession_207 : decode cX8_takeIntoSession 207 = .ok (.iload 6, 2) := by decide +kernel
theorem dX8_takeIntoSession_209 : decode cX8_takeIntoSession 209 = .ok (.invokestatic 205, 3) := by decide +kernel
theorem dX8_takeIntoSession_212 : decode cX8_takeIntoSession 212 = .ok (.lstore 11, 2) := by decide +kernel
theorem dX8_takeIntoSession_214 : decode cX8_takeIntoSession 214 = .ok (.aload_n 3, 1) := by decide +kernel
theorem dX8_takeIntoSession_215 : decode cX8_takeIntoSession 215 = .ok (.aload_n 3, 1) := by decide +kernel
theorem dX8_takeIntoSession_216 : decode cX8_takeIntoSession 216 = .ok (.lload 11, 2) := by decide +kernel
theorem dX8_takeIntoSession_218 : decode cX8_takeIntoSession 218 = .ok (.invokevirtual 210, 3) := by decide +kernel
theorem dX8_takeIntoSession_221 : decode cX8_takeIntoSession 221 = .ok (.lload 11, 2) := by decide +kernel
theorem dX8_takeIntoSession_223 : decode cX8_takeIntoSession 223 = .ok (.lload 9, 2) := by decide +kernel
theorem dX8_takeIntoSession_225 : decode cX8_takeIntoSession 225 = .ok (.invokevirtual 237, 3) := by decide +kernel
theorem dX8_takeIntoSession_228 : decode cX8_takeIntoSession 228 = .ok (.return_, 1) := by decide +kernel
set_option maxRecDepth 20000 in
theorem ggX8_fire_X7_accountAtPlace : GoodIn wsX8_fire wsX7_accountAtPlace := goodIn_r _ [7, 8, 9, 10, 11, 12, 13, 14, 15, 118, 119, 120, 121] (by decide +kernel) (by decide +kernel)
set_option maxRecDepth 20000 in
theorem gX8_fire_X7_accountAtPlace : GoodIn wsX8_fire (wsV RX8 226 RX7 yX7_accountAtPlace wsX7_accountAtPlace) := goodIn_app (goodIn_of _ (by decide +kernel)) ggX8_fire_X7_accountAtPlace
set_option maxRecDepth 20000 in
theorem ggX8_fire_X0_answer : GoodIn wsX8_fire wsX0_answer := goodIn_r _ [19, 20, 21, 18, 22, 23, 24, 25] (by decide +kernel) (by decide +kernel)
set_option maxRecDepth 20000 in
theorem gX8_fire_X0_answer : GoodIn wsX8_fire (va_wsS RX8 265 yX0_answer wsX0_answer) := goodIn_app (goodIn_of _ (by decide +kernel)) ggX8_fire_X0_answer
set_option maxRecDepth 20000 in
theorem ggX8_fire_X7_keyAtPlace : GoodIn wsX8_fire wsX7_keyAtPlace := goodIn_r _ [29, 30, 31, 9, 10, 11, 12, 13, 14, 15, 118, 119, 120, 121] (by decide +kernel) (by decide +kernel)
set_option maxRecDepth 20000 in
theorem gX8_fire_X7_keyAtPlace : GoodIn wsX8_fire (wsV RX8 245 RX7 yX7_keyAtPlace wsX7_keyAtPlace) := goodIn_app (goodIn_of _ (by decide +kernel)) ggX8_fire_X7_keyAtPlace
set_option maxRecDepth 20000 in
theorem ggX8_fire_X7_endAt : GoodIn wsX8_fire wsX7_endAt := goodIn_r _ [35, 30, 9, 10, 11, 12, 13, 14, 15, 118, 119, 120, 121] (by decide +kernel) (by decide +kernel)
set_option maxRecDepth 20000 in
theorem gX8_fire_X7_endAt : GoodIn wsX8_fire (wsV RX8 252 RX7 yX7_endAt wsX7_endAt) := goodIn_app (goodIn_of _ (by decide +kernel)) ggX8_fire_X7_endAt
set_option maxRecDepth 20000 in
theorem ggX8_fire_X3_event : GoodIn wsX8_fire wsX3_event := goodIn_r _ [39, 40] (by decide +kernel) (by decide +kernel)
set_option maxRecDepth 20000 in
theorem gX8_fire_X3_event : GoodIn wsX8_fire (va_wsS RX8 172 yX3_event wsX3_event) := goodIn_app (goodIn_of _ (by decide +kernel)) ggX8_fire_X3_event
set_option maxRecDepth 20000 in
theorem ggX8_fire_X8_emit : GoodIn wsX8_fire wsX8_emit := goodIn_r _ [45, 2, 46, 47, 48, 38, 49, 50, 51, 52, 53, 54, 55, 56, 57, 58, 12, 59, 14, 15, 60, 61, 62, 63, 64, 65, 66, 67, 68, 69, 70, 71, 72, 73, 74, 75, 76, 77, 78, 79, 80, 81, 82, 83, 84, 85, 86, 87, 88, 89, 90, 91, 107, 108, 109, 110, 111, 112, 113, 114, 115, 116, 117, 122, 123, 124, 125, 126, 120, 121] (by decide +kernel) (by decide +kernel)
set_option maxRecDepth 20000 in
theorem gX8_fire_X8_emit : GoodIn wsX8_fire (wsV RX8 124 RX8 yX8_emit wsX8_emit) := goodIn_app (goodIn_of _ (by decide +kernel)) ggX8_fire_X8_emit
theorem dX8_fire_0 : decode cX8_fire 0 = .ok (.aload_n 0, 1) := by decide +kernel
theorem dX8_fire_1 : decode cX8_fire 1 = .ok (.getfield 38, 3) := by decide +kernel
theorem dX8_fire_4 : decode cX8_fire 4 = .ok (.getfield 213, 3) := by decide +kernel
theorem dX8_fire_7 : decode cX8_fire 7 = .ok (.aload_n 0, 1) := by decide +kernel
theorem dX8_fire_8 : decode cX8_fire 8 = .ok (.getfield 28, 3) := by decide +kernel
theorem dX8_fire_11 : decode cX8_fire 11 = .ok (.getfield 201, 3) := by decide +kernel
theorem dX8_fire_14 : decode cX8_fire 14 = .ok (.iload_n 1, 1) := by decide +kernel
theorem dX8_fire_15 : decode cX8_fire 15 = .ok (.invokevirtual 226, 3) := by decide +kernel
theorem dX8_fire_18 : decode cX8_fire 18 = .ok (.invokestatic 265, 3) := by decide +kernel
theorem dX8_fire_21 : decode cX8_fire 21 = .ok (.istore_n 2, 1) := by decide +kernel
theorem dX8_fire_22 : decode cX8_fire 22 = .ok (.aload_n 0, 1) := by decide +kernel
theorem dX8_fire_23 : decode cX8_fire 23 = .ok (.aload_n 0, 1) := by decide +kernel
theorem dX8_fire_24 : decode cX8_fire 24 = .ok (.getfield 28, 3) := by decide +kernel
theorem dX8_fire_27 : decode cX8_fire 27 = .ok (.getfield 201, 3) := by decide +kernel
theorem dX8_fire_30 : decode cX8_fire 30 = .ok (.iload_n 1, 1) := by decide +kernel
theorem dX8_fire_31 : decode cX8_fire 31 = .ok (.invokevirtual 245, 3) := by decide +kernel
theorem dX8_fire_34 : decode cX8_fire 34 = .ok (.iload_n 2, 1) := by decide +kernel
theorem dX8_fire_35 : decode cX8_fire 35 = .ok (.aload_n 0, 1) := by decide +kernel
theorem dX8_fire_36 : decode cX8_fire 36 = .ok (.getfield 28, 3) := by decide +kernel
theorem dX8_fire_39 : decode cX8_fire 39 = .ok (.getfield 201, 3) := by decide +kernel
theorem dX8_fire_42 : decode cX8_fire 42 = .ok (.iload_n 1, 1) := by decide +kernel
theorem dX8_fire_43 : decode cX8_fire 43 = .ok (.invokevirtual 252, 3) := by decide +kernel
theorem dX8_fire_46 : decode cX8_fire 46 = .ok (.iconst 1, 1) := by decide +kernel
theorem dX8_fire_47 : decode cX8_fire 47 = .ok (.isub, 1) := by decide +kernel
theorem dX8_fire_48 : decode cX8_fire 48 = .ok (.invokestatic 172, 3) := by decide +kernel
theorem dX8_fire_51 : decode cX8_fire 51 = .ok (.invokevirtual 124, 3) := by decide +kernel
theorem dX8_fire_54 : decode cX8_fire 54 = .ok (.return_, 1) := by decide +kernel
set_option maxRecDepth 20000 in
theorem ggX8_takeIntoJoin_X3_time : GoodIn wsX8_takeIntoJoin wsX3_time := goodIn_r _ [9, 10] (by decide +kernel) (by decide +kernel)
set_option maxRecDepth 20000 in
theorem gX8_takeIntoJoin_X3_time : GoodIn wsX8_takeIntoJoin (va_wsS RX8 127 yX3_time wsX3_time) := goodIn_app (goodIn_of _ (by decide +kernel)) ggX8_takeIntoJoin_X3_time
set_option maxRecDepth 20000 in
theorem ggX8_takeIntoJoin_X6_length : GoodIn wsX8_takeIntoJoin wsX6_length := goodIn_r _ [15, 16, 108, 109] (by decide +kernel) (by decide +kernel)
set_option maxRecDepth 20000 in
theorem gX8_takeIntoJoin_X6_length : GoodIn wsX8_takeIntoJoin (wsV RX8 56 RX6 yX6_length wsX6_length) := goodIn_app (goodIn_of _ (by decide +kernel)) ggX8_takeIntoJoin_X6_length
set_option maxRecDepth 20000 in
theorem ggX8_takeIntoJoin_X6_at : GoodIn wsX8_takeIntoJoin wsX6_at := goodIn_r _ [20, 16, 21, 108, 109] (by decide +kernel) (by decide +kernel)
set_option maxRecDepth 20000 in
theorem gX8_takeIntoJoin_X6_at : GoodIn wsX8_takeIntoJoin (wsV RX8 120 RX6 yX6_at wsX6_at) := goodIn_app (goodIn_of _ (by decide +kernel)) ggX8_takeIntoJoin_X6_at
set_option maxRecDepth 20000 in
theorem ggX8_takeIntoJoin_X8_meets : GoodIn wsX8_takeIntoJoin wsX8_meets := goodIn_r _ [26, 27, 6, 7, 8, 9, 10, 28, 29, 30, 31, 85, 86, 87, 88, 89, 90, 91, 92, 93, 94, 95, 96, 110, 111, 112, 113, 114, 115, 116, 117, 118, 119, 120, 121, 122, 123, 124] (by decide +kernel) (by decide +kernel)
set_option maxRecDepth 20000 in
theorem gX8_takeIntoJoin_X8_meets : GoodIn wsX8_takeIntoJoin (wsV RX8 275 RX8 yX8_meets wsX8_meets) := goodIn_app (goodIn_of _ (by decide +kernel)) ggX8_takeIntoJoin_X8_meets
set_option maxRecDepth 20000 in
theorem ggX8_takeIntoJoin_X3_key : GoodIn wsX8_takeIntoJoin wsX3_key := goodIn_r _ [30, 31] (by decide +kernel) (by decide +kernel)
set_option maxRecDepth 20000 in
theorem gX8_takeIntoJoin_X3_key : GoodIn wsX8_takeIntoJoin (va_wsS RX8 163 yX3_key wsX3_key) := goodIn_app (goodIn_of _ (by decide +kernel)) ggX8_takeIntoJoin_X3_key
set_option maxRecDepth 20000 in
theorem ggX8_takeIntoJoin_X3_value : GoodIn wsX8_takeIntoJoin wsX3_value := goodIn_r _ [34] (by decide +kernel) (by decide +kernel)
set_option maxRecDepth 20000 in
theorem gX8_takeIntoJoin_X3_value : GoodIn wsX8_takeIntoJoin (va_wsS RX8 154 yX3_value wsX3_value) := goodIn_app (goodIn_of _ (by decide +kernel)) ggX8_takeIntoJoin_X3_value
set_option maxRecDepth 20000 in
theorem ggX8_takeIntoJoin_X8_joined : GoodIn wsX8_takeIntoJoin wsX8_joined := goodIn_r _ [38, 27, 85, 86, 87, 88, 89, 90, 91, 92, 93, 94, 95, 96, 110, 111, 112, 113, 114, 115, 116, 117, 118, 119, 120, 121, 122, 123, 124] (by decide +kernel) (by decide +kernel)
set_option maxRecDepth 20000 in
theorem gX8_takeIntoJoin_X8_joined : GoodIn wsX8_takeIntoJoin (wsV RX8 279 RX8 yX8_joined wsX8_joined) := goodIn_app (goodIn_of _ (by decide +kernel)) ggX8_takeIntoJoin_X8_joined
set_option maxRecDepth 20000 in
theorem ggX8_takeIntoJoin_X3_event : GoodIn wsX8_takeIntoJoin wsX3_event := goodIn_r _ [41, 42] (by decide +kernel) (by decide +kernel)
set_option maxRecDepth 20000 in
theorem gX8_takeIntoJoin_X3_event : GoodIn wsX8_takeIntoJoin (va_wsS RX8 172 yX3_event wsX3_event) := goodIn_app (goodIn_of _ (by decide +kernel)) ggX8_takeIntoJoin_X3_event
set_option maxRecDepth 20000 in
theorem ggX8_takeIntoJoin_X8_emit : GoodIn wsX8_takeIntoJoin wsX8_emit := goodIn_r _ [46, 1, 47, 48, 49, 8, 50, 51, 52, 53, 54, 55, 56, 57, 58, 59, 14, 60, 16, 21, 61, 62, 63, 64, 65, 66, 67, 68, 69, 70, 71, 72, 73, 74, 4, 75, 76, 77, 78, 79, 85, 86, 87, 88, 89, 90, 91, 92, 93, 94, 95, 96, 97, 98, 99, 100, 101, 102, 103, 104, 105, 106, 107, 125, 126, 127, 128, 129, 108, 109] (by decide +kernel) (by decide +kernel)
set_option maxRecDepth 20000 in
theorem gX8_takeIntoJoin_X8_emit : GoodIn wsX8_takeIntoJoin (wsV RX8 124 RX8 yX8_emit wsX8_emit) := goodIn_app (goodIn_of _ (by decide +kernel)) ggX8_takeIntoJoin_X8_emit
set_option maxRecDepth 20000 in
theorem ggX8_takeIntoJoin_X6_add : GoodIn wsX8_takeIntoJoin wsX6_add := goodIn_r _ [60, 16, 21, 61, 62, 63, 64, 65, 66, 67, 68, 69, 70, 71, 72, 73, 74, 4, 75, 76, 77, 78, 79, 108, 109] (by decide +kernel) (by decide +kernel)
set_option maxRecDepth 20000 in
theorem gX8_takeIntoJoin_X6_add : GoodIn wsX8_takeIntoJoin (wsV RX8 116 RX6 yX6_add wsX6_add) := goodIn_app (goodIn_of _ (by decide +kernel)) ggX8_takeIntoJoin_X6_add
set_option maxRecDepth 20000 in
theorem ggX8_takeIntoJoin_X6_remove : GoodIn wsX8_takeIntoJoin wsX6_remove := goodIn_r _ [83, 16, 21, 84, 77, 78, 79, 108, 109] (by decide +kernel) (by decide +kernel)
set_option maxRecDepth 20000 in
theorem gX8_takeIntoJoin_X6_remove : GoodIn wsX8_takeIntoJoin (wsV RX8 282 RX6 yX6_remove wsX6_remove) := goodIn_app (goodIn_of _ (by decide +kernel)) ggX8_takeIntoJoin_X6_remove
theorem dX8_takeIntoJoin_0 : decode cX8_takeIntoJoin 0 = .ok (.lload_n 1, 1) := by decide +kernel
theorem dX8_takeIntoJoin_1 : decode cX8_takeIntoJoin 1 = .ok (.invokestatic 127, 3) := by decide +kernel
theorem dX8_takeIntoJoin_4 : decode cX8_takeIntoJoin 4 = .ok (.aload_n 0, 1) := by decide +kernel
theorem dX8_takeIntoJoin_5 : decode cX8_takeIntoJoin 5 = .ok (.getfield 28, 3) := by decide +kernel
theorem dX8_takeIntoJoin_8 : decode cX8_takeIntoJoin 8 = .ok (.getfield 82, 3) := by decide +kernel
theorem dX8_takeIntoJoin_11 : decode cX8_takeIntoJoin 11 = .ok (.if_icmp .ge 17, 3) := by decide +kernel
theorem dX8_takeIntoJoin_14 : decode cX8_takeIntoJoin 14 = .ok (.aload_n 0, 1) := by decide +kernel
theorem dX8_takeIntoJoin_15 : decode cX8_takeIntoJoin 15 = .ok (.getfield 28, 3) := by decide +kernel
theorem dX8_takeIntoJoin_18 : decode cX8_takeIntoJoin 18 = .ok (.dup, 1) := by decide +kernel
theorem dX8_takeIntoJoin_19 : decode cX8_takeIntoJoin 19 = .ok (.getfield 198, 3) := by decide +kernel
theorem dX8_takeIntoJoin_22 : decode cX8_takeIntoJoin 22 = .ok (.iconst 1, 1) := by decide +kernel
theorem dX8_takeIntoJoin_23 : decode cX8_takeIntoJoin 23 = .ok (.iadd, 1) := by decide +kernel
theorem dX8_takeIntoJoin_24 : decode cX8_takeIntoJoin 24 = .ok (.putfield 198, 3) := by decide +kernel
theorem dX8_takeIntoJoin_27 : decode cX8_takeIntoJoin 27 = .ok (.return_, 1) := by decide +kernel
theorem dX8_takeIntoJoin_28 : decode cX8_takeIntoJoin 28 = .ok (.iload_n 3, 1) := by decide +kernel
theorem dX8_takeIntoJoin_29 : decode cX8_takeIntoJoin 29 = .ok (.ifCond .eq 13, 3) := by decide +kernel
theorem dX8_takeIntoJoin_32 : decode cX8_takeIntoJoin 32 = .ok (.aload_n 0, 1) := by decide +kernel
theorem dX8_takeIntoJoin_33 : decode cX8_takeIntoJoin 33 = .ok (.getfield 28, 3) := by decide +kernel
theorem dX8_takeIntoJoin_36 : decode cX8_takeIntoJoin 36 = .ok (.getfield 269, 3) := by decide +kernel
theorem dX8_takeIntoJoin_39 : decode cX8_takeIntoJoin 39 = .ok (.goto 10, 3) := by decide +kernel
theorem dX8_takeIntoJoin_42 : decode cX8_takeIntoJoin 42 = .ok (.aload_n 0, 1) := by decide +kernel
theorem dX8_takeIntoJoin_43 : decode cX8_takeIntoJoin 43 = .ok (.getfield 28, 3) := by decide +kernel
theorem dX8_takeIntoJoin_46 : decode cX8_takeIntoJoin 46 = .ok (.getfield 272, 3) := by decide +kernel
theorem dX8_takeIntoJoin_49 : decode cX8_takeIntoJoin 49 = .ok (.astore 4, 2) := by decide +kernel
theorem dX8_takeIntoJoin_51 : decode cX8_takeIntoJoin 51 = .ok (.iconst 0, 1) := by decide +kernel
theorem dX8_takeIntoJoin_52 : decode cX8_takeIntoJoin 52 = .ok (.istore 5, 2) := by decide +kernel
theorem dX8_takeIntoJoin_54 : decode cX8_takeIntoJoin 54 = .ok (.iload 5, 2) := by decide +kernel
theorem dX8_takeIntoJoin_56 : decode cX8_takeIntoJoin 56 = .ok (.aload 4, 2) := by decide +kernel
theorem dX8_takeIntoJoin_58 : decode cX8_takeIntoJoin 58 = .ok (.invokevirtual 56, 3) := by decide +kernel
theorem dX8_takeIntoJoin_61 : decode cX8_takeIntoJoin 61 = .ok (.if_icmp .ge 97, 3) := by decide +kernel
theorem dX8_takeIntoJoin_64 : decode cX8_takeIntoJoin 64 = .ok (.iload_n 3, 1) := by decide +kernel
theorem dX8_takeIntoJoin_65 : decode cX8_takeIntoJoin 65 = .ok (.ifCond .eq 13, 3) := by decide +kernel
theorem dX8_takeIntoJoin_68 : decode cX8_takeIntoJoin 68 = .ok (.aload 4, 2) := by decide +kernel
theorem dX8_takeIntoJoin_70 : decode cX8_takeIntoJoin 70 = .ok (.iload 5, 2) := by decide +kernel
theorem dX8_takeIntoJoin_72 : decode cX8_takeIntoJoin 72 = .ok (.invokevirtual 120, 3) := by decide +kernel
theorem dX8_takeIntoJoin_75 : decode cX8_takeIntoJoin 75 = .ok (.goto 4, 3) := by decide +kernel
theorem dX8_takeIntoJoin_78 : decode cX8_takeIntoJoin 78 = .ok (.lload_n 1, 1) := by decide +kernel
theorem dX8_takeIntoJoin_79 : decode cX8_takeIntoJoin 79 = .ok (.lstore 6, 2) := by decide +kernel
theorem dX8_takeIntoJoin_81 : decode cX8_takeIntoJoin 81 = .ok (.iload_n 3, 1) := by decide +kernel
theorem dX8_takeIntoJoin_82 : decode cX8_takeIntoJoin 82 = .ok (.ifCond .eq 7, 3) := by decide +kernel
theorem dX8_takeIntoJoin_85 : decode cX8_takeIntoJoin 85 = .ok (.lload_n 1, 1) := by decide +kernel
theorem dX8_takeIntoJoin_86 : decode cX8_takeIntoJoin 86 = .ok (.goto 10, 3) := by decide +kernel
theorem dX8_takeIntoJoin_89 : decode cX8_takeIntoJoin 89 = .ok (.aload 4, 2) := by decide +kernel
theorem dX8_takeIntoJoin_91 : decode cX8_takeIntoJoin 91 = .ok (.iload 5, 2) := by decide +kernel
theorem dX8_takeIntoJoin_93 : decode cX8_takeIntoJoin 93 = .ok (.invokevirtual 120, 3) := by decide +kernel
theorem dX8_takeIntoJoin_96 : decode cX8_takeIntoJoin 96 = .ok (.lstore 8, 2) := by decide +kernel
theorem dX8_takeIntoJoin_98 : decode cX8_takeIntoJoin 98 = .ok (.aload_n 0, 1) := by decide +kernel
theorem dX8_takeIntoJoin_99 : decode cX8_takeIntoJoin 99 = .ok (.lload 6, 2) := by decide +kernel
theorem dX8_takeIntoJoin_101 : decode cX8_takeIntoJoin 101 = .ok (.lload 8, 2) := by decide +kernel
theorem dX8_takeIntoJoin_103 : decode cX8_takeIntoJoin 103 = .ok (.invokevirtual 275, 3) := by decide +kernel
theorem dX8_takeIntoJoin_106 : decode cX8_takeIntoJoin 106 = .ok (.ifCond .eq 46, 3) := by decide +kernel
theorem dX8_takeIntoJoin_109 : decode cX8_takeIntoJoin 109 = .ok (.lload 6, 2) := by decide +kernel
theorem dX8_takeIntoJoin_111 : decode cX8_takeIntoJoin 111 = .ok (.invokestatic 127, 3) := by decide +kernel
theorem dX8_takeIntoJoin_114 : decode cX8_takeIntoJoin 114 = .ok (.lload 8, 2) := by decide +kernel
theorem dX8_takeIntoJoin_116 : decode cX8_takeIntoJoin 116 = .ok (.invokestatic 127, 3) := by decide +kernel
theorem dX8_takeIntoJoin_119 : decode cX8_takeIntoJoin 119 = .ok (.invokestatic 258, 3) := by decide +kernel
theorem dX8_takeIntoJoin_122 : decode cX8_takeIntoJoin 122 = .ok (.istore 10, 2) := by decide +kernel
theorem dX8_takeIntoJoin_124 : decode cX8_takeIntoJoin 124 = .ok (.aload_n 0, 1) := by decide +kernel
theorem dX8_takeIntoJoin_125 : decode cX8_takeIntoJoin 125 = .ok (.lload 6, 2) := by decide +kernel
theorem dX8_takeIntoJoin_127 : decode cX8_takeIntoJoin 127 = .ok (.invokestatic 163, 3) := by decide +kernel
theorem dX8_takeIntoJoin_130 : decode cX8_takeIntoJoin 130 = .ok (.aload_n 0, 1) := by decide +kernel
theorem dX8_takeIntoJoin_131 : decode cX8_takeIntoJoin 131 = .ok (.lload 6, 2) := by decide +kernel
theorem dX8_takeIntoJoin_133 : decode cX8_takeIntoJoin 133 = .ok (.invokestatic 154, 3) := by decide +kernel
theorem dX8_takeIntoJoin_136 : decode cX8_takeIntoJoin 136 = .ok (.lload 8, 2) := by decide +kernel
theorem dX8_takeIntoJoin_138 : decode cX8_takeIntoJoin 138 = .ok (.invokestatic 154, 3) := by decide +kernel
theorem dX8_takeIntoJoin_141 : decode cX8_takeIntoJoin 141 = .ok (.invokevirtual 279, 3) := by decide +kernel
theorem dX8_takeIntoJoin_144 : decode cX8_takeIntoJoin 144 = .ok (.iload 10, 2) := by decide +kernel
theorem dX8_takeIntoJoin_146 : decode cX8_takeIntoJoin 146 = .ok (.invokestatic 172, 3) := by decide +kernel
theorem dX8_takeIntoJoin_149 : decode cX8_takeIntoJoin 149 = .ok (.invokevirtual 124, 3) := by decide +kernel
theorem dX8_takeIntoJoin_152 : decode cX8_takeIntoJoin 152 = .ok (.iinc 5 1, 3) := by decide +kernel
theorem dX8_takeIntoJoin_155 : decode cX8_takeIntoJoin 155 = .ok (.goto (-101), 3) := by decide +kernel
theorem dX8_takeIntoJoin_158 : decode cX8_takeIntoJoin 158 = .ok (.iload_n 3, 1) := by decide +kernel
theorem dX8_takeIntoJoin_159 : decode cX8_takeIntoJoin 159 = .ok (.ifCond .eq 13, 3) := by decide +kernel
theorem dX8_takeIntoJoin_162 : decode cX8_takeIntoJoin 162 = .ok (.aload_n 0, 1) := by decide +kernel
theorem dX8_takeIntoJoin_163 : decode cX8_takeIntoJoin 163 = .ok (.getfield 28, 3) := by decide +kernel
theorem dX8_takeIntoJoin_166 : decode cX8_takeIntoJoin 166 = .ok (.getfield 272, 3) := by decide +kernel
theorem dX8_takeIntoJoin_169 : decode cX8_takeIntoJoin 169 = .ok (.goto 10, 3) := by decide +kernel
theorem dX8_takeIntoJoin_172 : decode cX8_takeIntoJoin 172 = .ok (.aload_n 0, 1) := by decide +kernel
theorem dX8_takeIntoJoin_173 : decode cX8_takeIntoJoin 173 = .ok (.getfield 28, 3) := by decide +kernel
theorem dX8_takeIntoJoin_176 : decode cX8_takeIntoJoin 176 = .ok (.getfield 269, 3) := by decide +kernel
theorem dX8_takeIntoJoin_179 : decode cX8_takeIntoJoin 179 = .ok (.astore 5, 2) := by decide +kernel
theorem dX8_takeIntoJoin_181 : decode cX8_takeIntoJoin 181 = .ok (.aload 5, 2) := by decide +kernel
theorem dX8_takeIntoJoin_183 : decode cX8_takeIntoJoin 183 = .ok (.lload_n 1, 1) := by decide +kernel
theorem dX8_takeIntoJoin_184 : decode cX8_takeIntoJoin 184 = .ok (.invokevirtual 116, 3) := by decide +kernel
theorem dX8_takeIntoJoin_187 : decode cX8_takeIntoJoin 187 = .ok (.aload 5, 2) := by decide +kernel
theorem dX8_takeIntoJoin_189 : decode cX8_takeIntoJoin 189 = .ok (.invokevirtual 56, 3) := by decide +kernel
theorem dX8_takeIntoJoin_192 : decode cX8_takeIntoJoin 192 = .ok (.bipush 16, 2) := by decide +kernel
theorem dX8_takeIntoJoin_194 : decode cX8_takeIntoJoin 194 = .ok (.if_icmp .le 10, 3) := by decide +kernel
theorem dX8_takeIntoJoin_197 : decode cX8_takeIntoJoin 197 = .ok (.aload 5, 2) := by decide +kernel
theorem dX8_takeIntoJoin_199 : decode cX8_takeIntoJoin 199 = .ok (.iconst 0, 1) := by decide +kernel
theorem dX8_takeIntoJoin_200 : decode cX8_takeIntoJoin 200 = .ok (.iconst 1, 1) := by decide +kernel
theorem dX8_takeIntoJoin_201 : decode cX8_takeIntoJoin 201 = .ok (.invokevirtual 282, 3) := by decide +kernel
theorem dX8_takeIntoJoin_204 : decode cX8_takeIntoJoin 204 = .ok (.return_, 1) := by decide +kernel
set_option maxRecDepth 20000 in
theorem ggX8_meets_X3_time : GoodIn wsX8_meets wsX3_time := goodIn_r _ [5, 6] (by decide +kernel) (by decide +kernel)
set_option maxRecDepth 20000 in
theorem gX8_meets_X3_time : GoodIn wsX8_meets (va_wsS RX8 127 yX3_time wsX3_time) := goodIn_app (goodIn_of _ (by decide +kernel)) ggX8_meets_X3_time
set_option maxRecDepth 20000 in
theorem ggX8_meets_X3_key : GoodIn wsX8_meets wsX3_key := goodIn_r _ [9, 10] (by decide +kernel) (by decide +kernel)
set_option maxRecDepth 20000 in
theorem gX8_meets_X3_key : GoodIn wsX8_meets (va_wsS RX8 163 yX3_key wsX3_key) := goodIn_app (goodIn_of _ (by decide +kernel)) ggX8_meets_X3_key
theorem dX8_meets_0 : decode cX8_meets 0 = .ok (.lload_n 1, 1) := by decide +kernel
theorem dX8_meets_1 : decode cX8_meets 1 = .ok (.invokestatic 127, 3) := by decide +kernel
theorem dX8_meets_4 : decode cX8_meets 4 = .ok (.istore 5, 2) := by decide +kernel
theorem dX8_meets_6 : decode cX8_meets 6 = .ok (.lload_n 3, 1) := by decide +kernel
theorem dX8_meets_7 : decode cX8_meets 7 = .ok (.invokestatic 127, 3) := by decide +kernel
theorem dX8_meets_10 : decode cX8_meets 10 = .ok (.istore 6, 2) := by decide +kernel
theorem dX8_meets_12 : decode cX8_meets 12 = .ok (.lload_n 1, 1) := by decide +kernel
theorem dX8_meets_13 : decode cX8_meets 13 = .ok (.invokestatic 163, 3) := by decide +kernel
theorem dX8_meets_16 : decode cX8_meets 16 = .ok (.lload_n 3, 1) := by decide +kernel
theorem dX8_meets_17 : decode cX8_meets 17 = .ok (.invokestatic 163, 3) := by decide +kernel
theorem dX8_meets_20 : decode cX8_meets 20 = .ok (.if_icmp .ne 37, 3) := by decide +kernel
theorem dX8_meets_23 : decode cX8_meets 23 = .ok (.iload 5, 2) := by decide +kernel
theorem dX8_meets_25 : decode cX8_meets 25 = .ok (.aload_n 0, 1) := by decide +kernel
theorem dX8_meets_26 : decode cX8_meets 26 = .ok (.getfield 38, 3) := by decide +kernel
theorem dX8_meets_29 : decode cX8_meets 29 = .ok (.getfield 283, 3) := by decide +kernel
theorem dX8_meets_32 : decode cX8_meets 32 = .ok (.isub, 1) := by decide +kernel
theorem dX8_meets_33 : decode cX8_meets 33 = .ok (.iload 6, 2) := by decide +kernel
theorem dX8_meets_35 : decode cX8_meets 35 = .ok (.if_icmp .gt 22, 3) := by decide +kernel
theorem dX8_meets_38 : decode cX8_meets 38 = .ok (.iload 6, 2) := by decide +kernel
theorem dX8_meets_40 : decode cX8_meets 40 = .ok (.iload 5, 2) := by decide +kernel
theorem dX8_meets_42 : decode cX8_meets 42 = .ok (.aload_n 0, 1) := by decide +kernel
theorem dX8_meets_43 : decode cX8_meets 43 = .ok (.getfield 38, 3) := by decide +kernel
theorem dX8_meets_46 : decode cX8_meets 46 = .ok (.getfield 286, 3) := by decide +kernel
theorem dX8_meets_49 : decode cX8_meets 49 = .ok (.iadd, 1) := by decide +kernel
theorem dX8_meets_50 : decode cX8_meets 50 = .ok (.if_icmp .gt 7, 3) := by decide +kernel
theorem dX8_meets_53 : decode cX8_meets 53 = .ok (.iconst 1, 1) := by decide +kernel
theorem dX8_meets_54 : decode cX8_meets 54 = .ok (.goto 4, 3) := by decide +kernel
theorem dX8_meets_57 : decode cX8_meets 57 = .ok (.iconst 0, 1) := by decide +kernel
theorem dX8_meets_58 : decode cX8_meets 58 = .ok (.ireturn, 1) := by decide +kernel
theorem dX8_joined_0 : decode cX8_joined 0 = .ok (.aload_n 0, 1) := by decide +kernel
theorem dX8_joined_1 : decode cX8_joined 1 = .ok (.getfield 38, 3) := by decide +kernel
theorem dX8_joined_4 : decode cX8_joined 4 = .ok (.getfield 160, 3) := by decide +kernel
theorem dX8_joined_7 : decode cX8_joined 7 = .ok (.tableswitch 37 0 2 #[25, 29, 33], 25) := by decide +kernel
theorem dX8_joined_32 : decode cX8_joined 32 = .ok (.iload_n 1, 1) := by decide +kernel
theorem dX8_joined_33 : decode cX8_joined 33 = .ok (.iload_n 2, 1) := by decide +kernel
theorem dX8_joined_34 : decode cX8_joined 34 = .ok (.iadd, 1) := by decide +kernel
theorem dX8_joined_35 : decode cX8_joined 35 = .ok (.ireturn, 1) := by decide +kernel
theorem dX8_joined_36 : decode cX8_joined 36 = .ok (.iload_n 1, 1) := by decide +kernel
theorem dX8_joined_37 : decode cX8_joined 37 = .ok (.iload_n 2, 1) := by decide +kernel
theorem dX8_joined_38 : decode cX8_joined 38 = .ok (.isub, 1) := by decide +kernel
theorem dX8_joined_39 : decode cX8_joined 39 = .ok (.ireturn, 1) := by decide +kernel
theorem dX8_joined_40 : decode cX8_joined 40 = .ok (.iload_n 1, 1) := by decide +kernel
theorem dX8_joined_41 : decode cX8_joined 41 = .ok (.iload_n 2, 1) := by decide +kernel
theorem dX8_joined_42 : decode cX8_joined 42 = .ok (.imul, 1) := by decide +kernel
theorem dX8_joined_43 : decode cX8_joined 43 = .ok (.ireturn, 1) := by decide +kernel
theorem dX8_joined_44 : decode cX8_joined 44 = .ok (.iload_n 1, 1) := by decide +kernel
theorem dX8_joined_45 : decode cX8_joined 45 = .ok (.ireturn, 1) := by decide +kernel
theorem dX8_leastMark_0 : decode cX8_leastMark 0 = .ok (.iload_n 2, 1) := by decide +kernel
theorem dX8_leastMark_1 : decode cX8_leastMark 1 = .ok (.ifCond .eq 14, 3) := by decide +kernel
theorem dX8_leastMark_4 : decode cX8_leastMark 4 = .ok (.aload_n 0, 1) := by decide +kernel
theorem dX8_leastMark_5 : decode cX8_leastMark 5 = .ok (.getfield 28, 3) := by decide +kernel
theorem dX8_leastMark_8 : decode cX8_leastMark 8 = .ok (.iload_n 1, 1) := by decide +kernel
theorem dX8_leastMark_9 : decode cX8_leastMark 9 = .ok (.putfield 289, 3) := by decide +kernel
theorem dX8_leastMark_12 : decode cX8_leastMark 12 = .ok (.goto 11, 3) := by decide +kernel
theorem dX8_leastMark_15 : decode cX8_leastMark 15 = .ok (.aload_n 0, 1) := by decide +kernel
theorem dX8_leastMark_16 : decode cX8_leastMark 16 = .ok (.getfield 28, 3) := by decide +kernel
theorem dX8_leastMark_19 : decode cX8_leastMark 19 = .ok (.iload_n 1, 1) := by decide +kernel
theorem dX8_leastMark_20 : decode cX8_leastMark 20 = .ok (.putfield 292, 3) := by decide +kernel
theorem dX8_leastMark_23 : decode cX8_leastMark 23 = .ok (.aload_n 0, 1) := by decide +kernel
theorem dX8_leastMark_24 : decode cX8_leastMark 24 = .ok (.getfield 49, 3) := by decide +kernel
theorem dX8_leastMark_27 : decode cX8_leastMark 27 = .ok (.ifnonnull 13, 3) := by decide +kernel
theorem dX8_leastMark_30 : decode cX8_leastMark 30 = .ok (.aload_n 0, 1) := by decide +kernel
theorem dX8_leastMark_31 : decode cX8_leastMark 31 = .ok (.getfield 28, 3) := by decide +kernel
theorem dX8_leastMark_34 : decode cX8_leastMark 34 = .ok (.getfield 292, 3) := by decide +kernel
theorem dX8_leastMark_37 : decode cX8_leastMark 37 = .ok (.goto 20, 3) := by decide +kernel
theorem dX8_leastMark_40 : decode cX8_leastMark 40 = .ok (.aload_n 0, 1) := by decide +kernel
theorem dX8_leastMark_41 : decode cX8_leastMark 41 = .ok (.getfield 28, 3) := by decide +kernel
theorem dX8_leastMark_44 : decode cX8_leastMark 44 = .ok (.getfield 292, 3) := by decide +kernel
theorem dX8_leastMark_47 : decode cX8_leastMark 47 = .ok (.aload_n 0, 1) := by decide +kernel
theorem dX8_leastMark_48 : decode cX8_leastMark 48 = .ok (.getfield 28, 3) := by decide +kernel
theorem dX8_leastMark_51 : decode cX8_leastMark 51 = .ok (.getfield 289, 3) := by decide +kernel
theorem dX8_leastMark_54 : decode cX8_leastMark 54 = .ok (.invokestatic 255, 3) := by decide +kernel
theorem dX8_leastMark_57 : decode cX8_leastMark 57 = .ok (.ireturn, 1) := by decide +kernel
set_option maxRecDepth 20000 in
theorem ggX8_raiseMark_X8_fireFrom : GoodIn wsX8_raiseMark wsX8_fireFrom := goodIn_r _ [7, 1, 2, 8, 9, 10, 11, 12, 13, 14, 15, 16, 17, 18, 19, 20, 21, 22, 23, 24, 25, 26, 27, 28, 29, 30, 31, 6, 32, 33, 34, 35, 36, 37, 38, 39, 40, 41, 42, 43, 44, 45, 46, 47, 48, 49, 50, 51, 52, 53, 54, 55, 56, 57, 58, 59, 60, 61, 62, 63, 64, 65, 66, 67, 68, 69, 70, 71, 72, 73, 74, 75, 76, 77, 78, 79, 80, 81, 82, 83, 84, 85, 86, 87, 88, 89, 90, 91, 92, 93, 94, 95, 96, 97, 98, 99, 100, 101, 102, 103, 104, 105, 106, 107, 108, 123, 124, 125, 126, 127, 128, 129, 130, 131, 132, 133, 134, 135, 136, 137, 138, 139, 140, 141, 142, 143, 144, 145, 146, 147, 148, 149, 150, 151, 152, 153, 154, 155, 156, 157, 158, 159, 160, 161, 162, 163, 164, 165, 166, 167, 168, 169] (by decide +kernel) (by decide +kernel)
set_option maxRecDepth 20000 in
theorem gX8_raiseMark_X8_fireFrom : GoodIn wsX8_raiseMark (wsV RX8 295 RX8 yX8_fireFrom wsX8_fireFrom) := goodIn_app (goodIn_of _ (by decide +kernel)) ggX8_raiseMark_X8_fireFrom
set_option maxRecDepth 20000 in
theorem ggX8_raiseMark_X8_forgetBelow : GoodIn wsX8_raiseMark wsX8_forgetBelow := goodIn_r _ [111, 112, 19, 20, 21, 22, 23, 113, 25, 26, 27, 28, 114, 115, 59, 116, 117, 118, 105, 106, 107, 108, 97, 98, 99, 163, 164] (by decide +kernel) (by decide +kernel)
set_option maxRecDepth 20000 in
theorem gX8_raiseMark_X8_forgetBelow : GoodIn wsX8_raiseMark (va_wsS RX8 298 yX8_forgetBelow wsX8_forgetBelow) := goodIn_app (goodIn_of _ (by decide +kernel)) ggX8_raiseMark_X8_forgetBelow
set_option maxRecDepth 20000 in
theorem ggX8_raiseMark_X3_mark : GoodIn wsX8_raiseMark wsX3_mark := goodIn_r _ [121, 122] (by decide +kernel) (by decide +kernel)
set_option maxRecDepth 20000 in
theorem gX8_raiseMark_X3_mark : GoodIn wsX8_raiseMark (va_wsS RX8 302 yX3_mark wsX3_mark) := goodIn_app (goodIn_of _ (by decide +kernel)) ggX8_raiseMark_X3_mark
set_option maxRecDepth 20000 in
theorem ggX8_raiseMark_X8_emit : GoodIn wsX8_raiseMark wsX8_emit := goodIn_r _ [65, 1, 66, 67, 68, 59, 69, 70, 71, 72, 73, 74, 75, 76, 77, 78, 21, 79, 23, 28, 80, 81, 82, 83, 84, 85, 86, 87, 88, 89, 90, 91, 92, 93, 94, 95, 96, 97, 98, 99, 123, 124, 125, 126, 127, 128, 129, 130, 131, 132, 133, 134, 135, 136, 137, 138, 139, 140, 141, 142, 143, 144, 145, 165, 166, 167, 168, 169, 163, 164] (by decide +kernel) (by decide +kernel)
set_option maxRecDepth 20000 in
theorem gX8_raiseMark_X8_emit : GoodIn wsX8_raiseMark (wsV RX8 124 RX8 yX8_emit wsX8_emit) := goodIn_app (goodIn_of _ (by decide +kernel)) ggX8_raiseMark_X8_emit
theorem dX8_raiseMark_0 : decode cX8_raiseMark 0 = .ok (.iload_n 1, 1) := by decide +kernel
theorem dX8_raiseMark_1 : decode cX8_raiseMark 1 = .ok (.aload_n 0, 1) := by decide +kernel
theorem dX8_raiseMark_2 : decode cX8_raiseMark 2 = .ok (.getfield 28, 3) := by decide +kernel
theorem dX8_raiseMark_5 : decode cX8_raiseMark 5 = .ok (.getfield 82, 3) := by decide +kernel
theorem dX8_raiseMark_8 : decode cX8_raiseMark 8 = .ok (.if_icmp .gt 4, 3) := by decide +kernel
theorem dX8_raiseMark_11 : decode cX8_raiseMark 11 = .ok (.return_, 1) := by decide +kernel
theorem dX8_raiseMark_12 : decode cX8_raiseMark 12 = .ok (.aload_n 0, 1) := by decide +kernel
theorem dX8_raiseMark_13 : decode cX8_raiseMark 13 = .ok (.getfield 28, 3) := by decide +kernel
theorem dX8_raiseMark_16 : decode cX8_raiseMark 16 = .ok (.getfield 82, 3) := by decide +kernel
theorem dX8_raiseMark_19 : decode cX8_raiseMark 19 = .ok (.istore_n 2, 1) := by decide +kernel
theorem dX8_raiseMark_20 : decode cX8_raiseMark 20 = .ok (.aload_n 0, 1) := by decide +kernel
theorem dX8_raiseMark_21 : decode cX8_raiseMark 21 = .ok (.getfield 28, 3) := by decide +kernel
theorem dX8_raiseMark_24 : decode cX8_raiseMark 24 = .ok (.iload_n 1, 1) := by decide +kernel
theorem dX8_raiseMark_25 : decode cX8_raiseMark 25 = .ok (.putfield 82, 3) := by decide +kernel
theorem dX8_raiseMark_28 : decode cX8_raiseMark 28 = .ok (.aload_n 0, 1) := by decide +kernel
theorem dX8_raiseMark_29 : decode cX8_raiseMark 29 = .ok (.getfield 38, 3) := by decide +kernel
theorem dX8_raiseMark_32 : decode cX8_raiseMark 32 = .ok (.getfield 68, 3) := by decide +kernel
theorem dX8_raiseMark_35 : decode cX8_raiseMark 35 = .ok (.iconst 3, 1) := by decide +kernel
theorem dX8_raiseMark_36 : decode cX8_raiseMark 36 = .ok (.if_icmp .eq 14, 3) := by decide +kernel
theorem dX8_raiseMark_39 : decode cX8_raiseMark 39 = .ok (.aload_n 0, 1) := by decide +kernel
theorem dX8_raiseMark_40 : decode cX8_raiseMark 40 = .ok (.getfield 38, 3) := by decide +kernel
theorem dX8_raiseMark_43 : decode cX8_raiseMark 43 = .ok (.getfield 68, 3) := by decide +kernel
theorem dX8_raiseMark_46 : decode cX8_raiseMark 46 = .ok (.iconst 4, 1) := by decide +kernel
theorem dX8_raiseMark_47 : decode cX8_raiseMark 47 = .ok (.if_icmp .ne 11, 3) := by decide +kernel
theorem dX8_raiseMark_50 : decode cX8_raiseMark 50 = .ok (.aload_n 0, 1) := by decide +kernel
theorem dX8_raiseMark_51 : decode cX8_raiseMark 51 = .ok (.iload_n 2, 1) := by decide +kernel
theorem dX8_raiseMark_52 : decode cX8_raiseMark 52 = .ok (.invokevirtual 295, 3) := by decide +kernel
theorem dX8_raiseMark_55 : decode cX8_raiseMark 55 = .ok (.goto 52, 3) := by decide +kernel
theorem dX8_raiseMark_58 : decode cX8_raiseMark 58 = .ok (.aload_n 0, 1) := by decide +kernel
theorem dX8_raiseMark_59 : decode cX8_raiseMark 59 = .ok (.getfield 38, 3) := by decide +kernel
theorem dX8_raiseMark_62 : decode cX8_raiseMark 62 = .ok (.getfield 68, 3) := by decide +kernel
theorem dX8_raiseMark_65 : decode cX8_raiseMark 65 = .ok (.iconst 5, 1) := by decide +kernel
theorem dX8_raiseMark_66 : decode cX8_raiseMark 66 = .ok (.if_icmp .ne 41, 3) := by decide +kernel
theorem dX8_raiseMark_69 : decode cX8_raiseMark 69 = .ok (.aload_n 0, 1) := by decide +kernel
theorem dX8_raiseMark_70 : decode cX8_raiseMark 70 = .ok (.getfield 28, 3) := by decide +kernel
theorem dX8_raiseMark_73 : decode cX8_raiseMark 73 = .ok (.getfield 269, 3) := by decide +kernel
theorem dX8_raiseMark_76 : decode cX8_raiseMark 76 = .ok (.iload_n 1, 1) := by decide +kernel
theorem dX8_raiseMark_77 : decode cX8_raiseMark 77 = .ok (.aload_n 0, 1) := by decide +kernel
theorem dX8_raiseMark_78 : decode cX8_raiseMark 78 = .ok (.getfield 38, 3) := by decide +kernel
theorem dX8_raiseMark_81 : decode cX8_raiseMark 81 = .ok (.getfield 286, 3) := by decide +kernel
theorem dX8_raiseMark_84 : decode cX8_raiseMark 84 = .ok (.isub, 1) := by decide +kernel
theorem dX8_raiseMark_85 : decode cX8_raiseMark 85 = .ok (.invokestatic 298, 3) := by decide +kernel
theorem dX8_raiseMark_88 : decode cX8_raiseMark 88 = .ok (.aload_n 0, 1) := by decide +kernel
theorem dX8_raiseMark_89 : decode cX8_raiseMark 89 = .ok (.getfield 28, 3) := by decide +kernel
theorem dX8_raiseMark_92 : decode cX8_raiseMark 92 = .ok (.getfield 272, 3) := by decide +kernel
theorem dX8_raiseMark_95 : decode cX8_raiseMark 95 = .ok (.iload_n 1, 1) := by decide +kernel
theorem dX8_raiseMark_96 : decode cX8_raiseMark 96 = .ok (.aload_n 0, 1) := by decide +kernel
theorem dX8_raiseMark_97 : decode cX8_raiseMark 97 = .ok (.getfield 38, 3) := by decide +kernel
theorem dX8_raiseMark_100 : decode cX8_raiseMark 100 = .ok (.getfield 283, 3) := by decide +kernel
theorem dX8_raiseMark_103 : decode cX8_raiseMark 103 = .ok (.isub, 1) := by decide +kernel
theorem dX8_raiseMark_104 : decode cX8_raiseMark 104 = .ok (.invokestatic 298, 3) := by decide +kernel
theorem dX8_raiseMark_107 : decode cX8_raiseMark 107 = .ok (.aload_n 0, 1) := by decide +kernel
theorem dX8_raiseMark_108 : decode cX8_raiseMark 108 = .ok (.iload_n 1, 1) := by decide +kernel
theorem dX8_raiseMark_109 : decode cX8_raiseMark 109 = .ok (.invokestatic 302, 3) := by decide +kernel
theorem dX8_raiseMark_112 : decode cX8_raiseMark 112 = .ok (.invokevirtual 124, 3) := by decide +kernel
theorem dX8_raiseMark_115 : decode cX8_raiseMark 115 = .ok (.return_, 1) := by decide +kernel
set_option maxRecDepth 20000 in
theorem ggX8_fireFrom_X7_firstEndingAbove : GoodIn wsX8_fireFrom wsX7_firstEndingAbove := goodIn_r _ [7, 8, 9, 10, 6, 11, 12, 13, 14, 15, 16, 17, 18, 19, 20, 21, 22, 23, 143, 144, 145, 146] (by decide +kernel) (by decide +kernel)
set_option maxRecDepth 20000 in
theorem gX8_fireFrom_X7_firstEndingAbove : GoodIn wsX8_fireFrom (wsV RX8 304 RX7 yX7_firstEndingAbove wsX7_firstEndingAbove) := goodIn_app (goodIn_of _ (by decide +kernel)) ggX8_fireFrom_X7_firstEndingAbove
set_option maxRecDepth 20000 in
theorem ggX8_fireFrom_X8_fire : GoodIn wsX8_fireFrom wsX8_fire := goodIn_r _ [28, 2, 1, 29, 30, 31, 6, 32, 33, 19, 20, 21, 16, 22, 18, 23, 34, 35, 36, 37, 38, 39, 40, 41, 42, 43, 44, 45, 46, 47, 12, 48, 49, 50, 51, 52, 53, 54, 55, 56, 57, 58, 59, 60, 27, 61, 62, 63, 64, 65, 66, 67, 68, 69, 70, 71, 72, 73, 74, 75, 76, 77, 78, 79, 80, 81, 82, 83, 84, 85, 86, 87, 88, 89, 90, 91, 92, 93, 94, 95, 105, 106, 107, 108, 109, 110, 111, 112, 113, 114, 115, 116, 128, 129, 130, 131, 132, 133, 134, 135, 136, 137, 138, 139, 140, 141, 142, 117, 118, 119, 120, 121, 122, 123, 124, 125, 126, 127, 143, 144, 145, 146, 147, 148, 149, 150, 151] (by decide +kernel) (by decide +kernel)
set_option maxRecDepth 20000 in
theorem gX8_fireFrom_X8_fire : GoodIn wsX8_fireFrom (wsV RX8 194 RX8 yX8_fire wsX8_fire) := goodIn_app (goodIn_of _ (by decide +kernel)) ggX8_fireFrom_X8_fire
set_option maxRecDepth 20000 in
theorem ggX8_fireFrom_X7_remove : GoodIn wsX8_fireFrom wsX7_remove := goodIn_r _ [99, 12, 33, 100, 101, 102, 16, 103, 18, 23, 104, 93, 94, 95, 143, 144, 145, 146] (by decide +kernel) (by decide +kernel)
set_option maxRecDepth 20000 in
theorem gX8_fireFrom_X7_remove : GoodIn wsX8_fireFrom (wsV RX8 261 RX7 yX7_remove wsX7_remove) := goodIn_app (goodIn_of _ (by decide +kernel)) ggX8_fireFrom_X7_remove
theorem dX8_fireFrom_0 : decode cX8_fireFrom 0 = .ok (.aload_n 0, 1) := by decide +kernel
theorem dX8_fireFrom_1 : decode cX8_fireFrom 1 = .ok (.getfield 28, 3) := by decide +kernel
theorem dX8_fireFrom_4 : decode cX8_fireFrom 4 = .ok (.getfield 201, 3) := by decide +kernel
theorem dX8_fireFrom_7 : decode cX8_fireFrom 7 = .ok (.aload_n 0, 1) := by decide +kernel
theorem dX8_fireFrom_8 : decode cX8_fireFrom 8 = .ok (.getfield 28, 3) := by decide +kernel
theorem dX8_fireFrom_11 : decode cX8_fireFrom 11 = .ok (.getfield 82, 3) := by decide +kernel
theorem dX8_fireFrom_14 : decode cX8_fireFrom 14 = .ok (.invokevirtual 304, 3) := by decide +kernel
theorem dX8_fireFrom_17 : decode cX8_fireFrom 17 = .ok (.istore_n 2, 1) := by decide +kernel
theorem dX8_fireFrom_18 : decode cX8_fireFrom 18 = .ok (.aload_n 0, 1) := by decide +kernel
theorem dX8_fireFrom_19 : decode cX8_fireFrom 19 = .ok (.getfield 28, 3) := by decide +kernel
theorem dX8_fireFrom_22 : decode cX8_fireFrom 22 = .ok (.getfield 201, 3) := by decide +kernel
theorem dX8_fireFrom_25 : decode cX8_fireFrom 25 = .ok (.iload_n 1, 1) := by decide +kernel
theorem dX8_fireFrom_26 : decode cX8_fireFrom 26 = .ok (.invokevirtual 304, 3) := by decide +kernel
theorem dX8_fireFrom_29 : decode cX8_fireFrom 29 = .ok (.istore_n 3, 1) := by decide +kernel
theorem dX8_fireFrom_30 : decode cX8_fireFrom 30 = .ok (.iload_n 3, 1) := by decide +kernel
theorem dX8_fireFrom_31 : decode cX8_fireFrom 31 = .ok (.iload_n 2, 1) := by decide +kernel
theorem dX8_fireFrom_32 : decode cX8_fireFrom 32 = .ok (.if_icmp .ge 14, 3) := by decide +kernel
theorem dX8_fireFrom_35 : decode cX8_fireFrom 35 = .ok (.aload_n 0, 1) := by decide +kernel
theorem dX8_fireFrom_36 : decode cX8_fireFrom 36 = .ok (.iload_n 3, 1) := by decide +kernel
theorem dX8_fireFrom_37 : decode cX8_fireFrom 37 = .ok (.invokevirtual 194, 3) := by decide +kernel
theorem dX8_fireFrom_40 : decode cX8_fireFrom 40 = .ok (.iinc 3 1, 3) := by decide +kernel
theorem dX8_fireFrom_43 : decode cX8_fireFrom 43 = .ok (.goto (-13), 3) := by decide +kernel
theorem dX8_fireFrom_46 : decode cX8_fireFrom 46 = .ok (.aload_n 0, 1) := by decide +kernel
theorem dX8_fireFrom_47 : decode cX8_fireFrom 47 = .ok (.getfield 28, 3) := by decide +kernel
theorem dX8_fireFrom_50 : decode cX8_fireFrom 50 = .ok (.getfield 201, 3) := by decide +kernel
theorem dX8_fireFrom_53 : decode cX8_fireFrom 53 = .ok (.iconst 0, 1) := by decide +kernel
theorem dX8_fireFrom_54 : decode cX8_fireFrom 54 = .ok (.aload_n 0, 1) := by decide +kernel
theorem dX8_fireFrom_55 : decode cX8_fireFrom 55 = .ok (.getfield 28, 3) := by decide +kernel
theorem dX8_fireFrom_58 : decode cX8_fireFrom 58 = .ok (.getfield 201, 3) := by decide +kernel
theorem dX8_fireFrom_61 : decode cX8_fireFrom 61 = .ok (.aload_n 0, 1) := by decide +kernel
theorem dX8_fireFrom_62 : decode cX8_fireFrom 62 = .ok (.getfield 28, 3) := by decide +kernel
theorem dX8_fireFrom_65 : decode cX8_fireFrom 65 = .ok (.getfield 82, 3) := by decide +kernel
theorem dX8_fireFrom_68 : decode cX8_fireFrom 68 = .ok (.aload_n 0, 1) := by decide +kernel
theorem dX8_fireFrom_69 : decode cX8_fireFrom 69 = .ok (.getfield 38, 3) := by decide +kernel
theorem dX8_fireFrom_72 : decode cX8_fireFrom 72 = .ok (.getfield 187, 3) := by decide +kernel
theorem dX8_fireFrom_75 : decode cX8_fireFrom 75 = .ok (.isub, 1) := by decide +kernel
theorem dX8_fireFrom_76 : decode cX8_fireFrom 76 = .ok (.invokevirtual 304, 3) := by decide +kernel
theorem dX8_fireFrom_79 : decode cX8_fireFrom 79 = .ok (.invokevirtual 261, 3) := by decide +kernel
theorem dX8_fireFrom_82 : decode cX8_fireFrom 82 = .ok (.return_, 1) := by decide +kernel
set_option maxRecDepth 20000 in
theorem ggX8_forgetBelow_X6_length : GoodIn wsX8_forgetBelow wsX6_length := goodIn_r _ [5, 6, 25, 26] (by decide +kernel) (by decide +kernel)
set_option maxRecDepth 20000 in
theorem gX8_forgetBelow_X6_length : GoodIn wsX8_forgetBelow (wsV RX8 56 RX6 yX6_length wsX6_length) := goodIn_app (goodIn_of _ (by decide +kernel)) ggX8_forgetBelow_X6_length
set_option maxRecDepth 20000 in
theorem ggX8_forgetBelow_X6_at : GoodIn wsX8_forgetBelow wsX6_at := goodIn_r _ [10, 6, 11, 25, 26] (by decide +kernel) (by decide +kernel)
set_option maxRecDepth 20000 in
theorem gX8_forgetBelow_X6_at : GoodIn wsX8_forgetBelow (wsV RX8 120 RX6 yX6_at wsX6_at) := goodIn_app (goodIn_of _ (by decide +kernel)) ggX8_forgetBelow_X6_at
set_option maxRecDepth 20000 in
theorem ggX8_forgetBelow_X3_time : GoodIn wsX8_forgetBelow wsX3_time := goodIn_r _ [15, 16] (by decide +kernel) (by decide +kernel)
set_option maxRecDepth 20000 in
theorem gX8_forgetBelow_X3_time : GoodIn wsX8_forgetBelow (va_wsS RX8 127 yX3_time wsX3_time) := goodIn_app (goodIn_of _ (by decide +kernel)) ggX8_forgetBelow_X3_time
set_option maxRecDepth 20000 in
theorem ggX8_forgetBelow_X6_remove : GoodIn wsX8_forgetBelow wsX6_remove := goodIn_r _ [20, 6, 11, 21, 22, 23, 24, 25, 26] (by decide +kernel) (by decide +kernel)
set_option maxRecDepth 20000 in
theorem gX8_forgetBelow_X6_remove : GoodIn wsX8_forgetBelow (wsV RX8 282 RX6 yX6_remove wsX6_remove) := goodIn_app (goodIn_of _ (by decide +kernel)) ggX8_forgetBelow_X6_remove
theorem dX8_forgetBelow_0 : decode cX8_forgetBelow 0 = .ok (.aload_n 0, 1) := by decide +kernel
theorem dX8_forgetBelow_1 : decode cX8_forgetBelow 1 = .ok (.invokevirtual 56, 3) := by decide +kernel
theorem dX8_forgetBelow_4 : decode cX8_forgetBelow 4 = .ok (.iconst 1, 1) := by decide +kernel
theorem dX8_forgetBelow_5 : decode cX8_forgetBelow 5 = .ok (.isub, 1) := by decide +kernel
theorem dX8_forgetBelow_6 : decode cX8_forgetBelow 6 = .ok (.istore_n 2, 1) := by decide +kernel
theorem dX8_forgetBelow_7 : decode cX8_forgetBelow 7 = .ok (.iload_n 2, 1) := by decide +kernel
theorem dX8_forgetBelow_8 : decode cX8_forgetBelow 8 = .ok (.ifCond .lt 27, 3) := by decide +kernel
theorem dX8_forgetBelow_11 : decode cX8_forgetBelow 11 = .ok (.aload_n 0, 1) := by decide +kernel
theorem dX8_forgetBelow_12 : decode cX8_forgetBelow 12 = .ok (.iload_n 2, 1) := by decide +kernel
theorem dX8_forgetBelow_13 : decode cX8_forgetBelow 13 = .ok (.invokevirtual 120, 3) := by decide +kernel
theorem dX8_forgetBelow_16 : decode cX8_forgetBelow 16 = .ok (.invokestatic 127, 3) := by decide +kernel
theorem dX8_forgetBelow_19 : decode cX8_forgetBelow 19 = .ok (.iload_n 1, 1) := by decide +kernel
theorem dX8_forgetBelow_20 : decode cX8_forgetBelow 20 = .ok (.if_icmp .ge 9, 3) := by decide +kernel
theorem dX8_forgetBelow_23 : decode cX8_forgetBelow 23 = .ok (.aload_n 0, 1) := by decide +kernel
theorem dX8_forgetBelow_24 : decode cX8_forgetBelow 24 = .ok (.iload_n 2, 1) := by decide +kernel
theorem dX8_forgetBelow_25 : decode cX8_forgetBelow 25 = .ok (.iconst 1, 1) := by decide +kernel
theorem dX8_forgetBelow_26 : decode cX8_forgetBelow 26 = .ok (.invokevirtual 282, 3) := by decide +kernel
theorem dX8_forgetBelow_29 : decode cX8_forgetBelow 29 = .ok (.iinc 2 (-1), 3) := by decide +kernel
theorem dX8_forgetBelow_32 : decode cX8_forgetBelow 32 = .ok (.goto (-25), 3) := by decide +kernel
theorem dX8_forgetBelow_35 : decode cX8_forgetBelow 35 = .ok (.return_, 1) := by decide +kernel
theorem dX8_adoptSaved_0 : decode cX8_adoptSaved 0 = .ok (.aload_n 0, 1) := by decide +kernel
theorem dX8_adoptSaved_1 : decode cX8_adoptSaved 1 = .ok (.getfield 32, 3) := by decide +kernel
theorem dX8_adoptSaved_4 : decode cX8_adoptSaved 4 = .ok (.astore_n 1, 1) := by decide +kernel
theorem dX8_adoptSaved_5 : decode cX8_adoptSaved 5 = .ok (.aload_n 0, 1) := by decide +kernel
theorem dX8_adoptSaved_6 : decode cX8_adoptSaved 6 = .ok (.aload_n 0, 1) := by decide +kernel
theorem dX8_adoptSaved_7 : decode cX8_adoptSaved 7 = .ok (.getfield 35, 3) := by decide +kernel
theorem dX8_adoptSaved_10 : decode cX8_adoptSaved 10 = .ok (.putfield 32, 3) := by decide +kernel
theorem dX8_adoptSaved_13 : decode cX8_adoptSaved 13 = .ok (.aload_n 0, 1) := by decide +kernel
theorem dX8_adoptSaved_14 : decode cX8_adoptSaved 14 = .ok (.aload_n 1, 1) := by decide +kernel
theorem dX8_adoptSaved_15 : decode cX8_adoptSaved 15 = .ok (.putfield 35, 3) := by decide +kernel
theorem dX8_adoptSaved_18 : decode cX8_adoptSaved 18 = .ok (.return_, 1) := by decide +kernel
set_option maxRecDepth 20000 in
theorem ggX8_goBack_X9_become : GoodIn wsX8_goBack wsX9_become := goodIn_r _ [10, 11, 12, 13, 14, 15, 16, 17, 18, 19, 20, 21, 22, 23, 24, 25, 26, 27, 28, 29, 30, 31, 32, 33, 34, 35, 36, 37, 38, 39, 40, 41, 42, 43, 44, 45, 46, 47, 48, 49, 98, 99, 100, 101, 102, 103, 104, 105, 106, 107, 108, 109, 110, 111, 112] (by decide +kernel) (by decide +kernel)
set_option maxRecDepth 20000 in
theorem gX8_goBack_X9_become : GoodIn wsX8_goBack (wsV RX8 307 RX9 yX9_become wsX9_become) := goodIn_app (goodIn_of _ (by decide +kernel)) ggX8_goBack_X9_become
set_option maxRecDepth 20000 in
theorem ggX8_goBack_X6_shorten : GoodIn wsX8_goBack wsX6_shorten := goodIn_r _ [53, 34, 111, 112] (by decide +kernel) (by decide +kernel)
set_option maxRecDepth 20000 in
theorem gX8_goBack_X6_shorten : GoodIn wsX8_goBack (wsV RX8 311 RX6 yX6_shorten wsX6_shorten) := goodIn_app (goodIn_of _ (by decide +kernel)) ggX8_goBack_X6_shorten
set_option maxRecDepth 20000 in
theorem ggX8_goBack_X4_empty : GoodIn wsX8_goBack wsX4_empty := goodIn_r _ [58, 59, 60, 61, 62, 51, 52, 32, 53, 34, 63, 64, 65, 66, 67, 68, 69, 70, 71, 72, 73, 74, 75, 76, 77, 78, 79, 80, 81, 82, 83, 84, 85, 113, 114, 115, 116, 117, 111, 112, 118, 119, 120] (by decide +kernel) (by decide +kernel)
set_option maxRecDepth 20000 in
theorem gX8_goBack_X4_empty : GoodIn wsX8_goBack (wsV RX8 314 RX4 yX4_empty wsX4_empty) := goodIn_app (goodIn_of _ (by decide +kernel)) ggX8_goBack_X4_empty
theorem dX8_goBack_0 : decode cX8_goBack 0 = .ok (.aload_n 0, 1) := by decide +kernel
theorem dX8_goBack_1 : decode cX8_goBack 1 = .ok (.getfield 28, 3) := by decide +kernel
theorem dX8_goBack_4 : decode cX8_goBack 4 = .ok (.aload_n 0, 1) := by decide +kernel
theorem dX8_goBack_5 : decode cX8_goBack 5 = .ok (.getfield 32, 3) := by decide +kernel
theorem dX8_goBack_8 : decode cX8_goBack 8 = .ok (.invokevirtual 307, 3) := by decide +kernel
theorem dX8_goBack_11 : decode cX8_goBack 11 = .ok (.aload_n 0, 1) := by decide +kernel
theorem dX8_goBack_12 : decode cX8_goBack 12 = .ok (.getfield 21, 3) := by decide +kernel
theorem dX8_goBack_15 : decode cX8_goBack 15 = .ok (.aload_n 0, 1) := by decide +kernel
theorem dX8_goBack_16 : decode cX8_goBack 16 = .ok (.getfield 32, 3) := by decide +kernel
theorem dX8_goBack_19 : decode cX8_goBack 19 = .ok (.getfield 176, 3) := by decide +kernel
theorem dX8_goBack_22 : decode cX8_goBack 22 = .ok (.invokevirtual 311, 3) := by decide +kernel
theorem dX8_goBack_25 : decode cX8_goBack 25 = .ok (.aload_n 0, 1) := by decide +kernel
theorem dX8_goBack_26 : decode cX8_goBack 26 = .ok (.getfield 12, 3) := by decide +kernel
theorem dX8_goBack_29 : decode cX8_goBack 29 = .ok (.invokevirtual 314, 3) := by decide +kernel
theorem dX8_goBack_32 : decode cX8_goBack 32 = .ok (.aload_n 0, 1) := by decide +kernel
theorem dX8_goBack_33 : decode cX8_goBack 33 = .ok (.iconst 0, 1) := by decide +kernel
theorem dX8_goBack_34 : decode cX8_goBack 34 = .ok (.putfield 73, 3) := by decide +kernel
theorem dX8_goBack_37 : decode cX8_goBack 37 = .ok (.return_, 1) := by decide +kernel
set_option maxRecDepth 20000 in
theorem ggX8_become_X9_become : GoodIn wsX8_become wsX9_become := goodIn_r _ [9, 10, 11, 12, 13, 14, 15, 16, 17, 18, 19, 20, 21, 22, 23, 24, 25, 26, 27, 28, 29, 30, 31, 32, 33, 34, 35, 36, 37, 38, 39, 40, 41, 42, 43, 44, 45, 46, 47, 48, 102, 103, 104, 105, 106, 107, 108, 109, 110, 111, 112, 113, 114, 115, 116] (by decide +kernel) (by decide +kernel)
set_option maxRecDepth 20000 in
theorem gX8_become_X9_become : GoodIn wsX8_become (wsV RX8 307 RX9 yX9_become wsX9_become) := goodIn_app (goodIn_of _ (by decide +kernel)) ggX8_become_X9_become
set_option maxRecDepth 20000 in
theorem ggX8_become_X4_become : GoodIn wsX8_become wsX4_become := goodIn_r _ [53, 54, 55, 56, 57, 58, 59, 52, 60, 61, 35, 36, 37, 62, 63, 64, 31, 65, 33, 66, 67, 68, 69, 70, 71, 72, 73, 74, 75, 76, 77, 78, 79, 80, 81, 82, 83, 84, 85, 86, 87, 88, 89, 29, 30, 32, 34, 38, 39, 40, 41, 42, 43, 44, 45, 46, 47, 117, 118, 119, 120, 121, 115, 116, 122, 123, 124] (by decide +kernel) (by decide +kernel)
set_option maxRecDepth 20000 in
theorem gX8_become_X4_become : GoodIn wsX8_become (wsV RX8 317 RX4 yX4_become wsX4_become) := goodIn_app (goodIn_of _ (by decide +kernel)) ggX8_become_X4_become
theorem dX8_become_0 : decode cX8_become 0 = .ok (.aload_n 0, 1) := by decide +kernel
theorem dX8_become_1 : decode cX8_become 1 = .ok (.getfield 28, 3) := by decide +kernel
theorem dX8_become_4 : decode cX8_become 4 = .ok (.aload_n 1, 1) := by decide +kernel
theorem dX8_become_5 : decode cX8_become 5 = .ok (.getfield 28, 3) := by decide +kernel
theorem dX8_become_8 : decode cX8_become 8 = .ok (.invokevirtual 307, 3) := by decide +kernel
theorem dX8_become_11 : decode cX8_become 11 = .ok (.aload_n 0, 1) := by decide +kernel
theorem dX8_become_12 : decode cX8_become 12 = .ok (.getfield 12, 3) := by decide +kernel
theorem dX8_become_15 : decode cX8_become 15 = .ok (.aload_n 1, 1) := by decide +kernel
theorem dX8_become_16 : decode cX8_become 16 = .ok (.getfield 12, 3) := by decide +kernel
theorem dX8_become_19 : decode cX8_become 19 = .ok (.invokevirtual 317, 3) := by decide +kernel
theorem dX8_become_22 : decode cX8_become 22 = .ok (.aload_n 0, 1) := by decide +kernel
theorem dX8_become_23 : decode cX8_become 23 = .ok (.aload_n 1, 1) := by decide +kernel
theorem dX8_become_24 : decode cX8_become 24 = .ok (.getfield 79, 3) := by decide +kernel
theorem dX8_become_27 : decode cX8_become 27 = .ok (.putfield 79, 3) := by decide +kernel
theorem dX8_become_30 : decode cX8_become 30 = .ok (.aload_n 0, 1) := by decide +kernel
theorem dX8_become_31 : decode cX8_become 31 = .ok (.aload_n 1, 1) := by decide +kernel
theorem dX8_become_32 : decode cX8_become 32 = .ok (.getfield 73, 3) := by decide +kernel
theorem dX8_become_35 : decode cX8_become 35 = .ok (.putfield 73, 3) := by decide +kernel
theorem dX8_become_38 : decode cX8_become 38 = .ok (.return_, 1) := by decide +kernel
set_option maxRecDepth 20000 in
theorem ggX9_init_X7_init : GoodIn wsX9_init wsX7_init := goodIn_r _ [18, 19, 2, 3, 20, 13, 14, 21, 22, 23, 24, 25, 26, 27, 41, 42, 39, 40] (by decide +kernel) (by decide +kernel)
set_option maxRecDepth 20000 in
theorem gX9_init_X7_init_n25 : GoodIn wsX9_init (wsX7_init) := ggX9_init_X7_init
set_option maxRecDepth 20000 in
theorem ggX9_init_X6_init : GoodIn wsX9_init wsX6_init := goodIn_r _ [24, 25, 2, 3, 26, 27, 41, 42] (by decide +kernel) (by decide +kernel)
set_option maxRecDepth 20000 in
theorem gX9_init_X6_init_n32 : GoodIn wsX9_init (wsX6_init) := ggX9_init_X6_init
theorem dX9_init_0 : decode cX9_init 0 = .ok (.aload_n 0, 1) := by decide +kernel
theorem dX9_init_1 : decode cX9_init 1 = .ok (.invokespecial 1, 3) := by decide +kernel
theorem dX9_init_4 : decode cX9_init 4 = .ok (.aload_n 0, 1) := by decide +kernel
theorem dX9_init_5 : decode cX9_init 5 = .ok (.iconst (-1), 1) := by decide +kernel
theorem dX9_init_6 : decode cX9_init 6 = .ok (.putfield 7, 3) := by decide +kernel
theorem dX9_init_9 : decode cX9_init 9 = .ok (.aload_n 0, 1) := by decide +kernel
theorem dX9_init_10 : decode cX9_init 10 = .ok (.iconst (-1), 1) := by decide +kernel
theorem dX9_init_11 : decode cX9_init 11 = .ok (.putfield 13, 3) := by decide +kernel
theorem dX9_init_14 : decode cX9_init 14 = .ok (.aload_n 0, 1) := by decide +kernel
theorem dX9_init_15 : decode cX9_init 15 = .ok (.iconst (-1), 1) := by decide +kernel
theorem dX9_init_16 : decode cX9_init 16 = .ok (.putfield 16, 3) := by decide +kernel
theorem dX9_init_19 : decode cX9_init 19 = .ok (.aload_n 0, 1) := by decide +kernel
theorem dX9_init_20 : decode cX9_init 20 = .ok (.iconst 1, 1) := by decide +kernel
theorem dX9_init_21 : decode cX9_init 21 = .ok (.putfield 19, 3) := by decide +kernel
theorem dX9_init_24 : decode cX9_init 24 = .ok (.aload_n 0, 1) := by decide +kernel
theorem dX9_init_25 : decode cX9_init 25 = .ok (.new 23, 3) := by decide +kernel
theorem dX9_init_28 : decode cX9_init 28 = .ok (.dup, 1) := by decide +kernel
theorem dX9_init_29 : decode cX9_init 29 = .ok (.invokespecial 25, 3) := by decide +kernel
theorem dX9_init_32 : decode cX9_init 32 = .ok (.putfield 26, 3) := by decide +kernel
theorem dX9_init_35 : decode cX9_init 35 = .ok (.aload_n 0, 1) := by decide +kernel
theorem dX9_init_36 : decode cX9_init 36 = .ok (.new 30, 3) := by decide +kernel
theorem dX9_init_39 : decode cX9_init 39 = .ok (.dup, 1) := by decide +kernel
theorem dX9_init_40 : decode cX9_init 40 = .ok (.invokespecial 32, 3) := by decide +kernel
theorem dX9_init_43 : decode cX9_init 43 = .ok (.putfield 33, 3) := by decide +kernel
theorem dX9_init_46 : decode cX9_init 46 = .ok (.aload_n 0, 1) := by decide +kernel
theorem dX9_init_47 : decode cX9_init 47 = .ok (.new 30, 3) := by decide +kernel
theorem dX9_init_50 : decode cX9_init 50 = .ok (.dup, 1) := by decide +kernel
theorem dX9_init_51 : decode cX9_init 51 = .ok (.invokespecial 32, 3) := by decide +kernel
theorem dX9_init_54 : decode cX9_init 54 = .ok (.putfield 37, 3) := by decide +kernel
theorem dX9_init_57 : decode cX9_init 57 = .ok (.return_, 1) := by decide +kernel
set_option maxRecDepth 20000 in
theorem ggX9_keptCount_X7_length : GoodIn wsX9_keptCount wsX7_length := goodIn_r _ [8, 9, 10, 11, 12, 13, 14, 15, 28, 29, 30, 31] (by decide +kernel) (by decide +kernel)
set_option maxRecDepth 20000 in
theorem gX9_keptCount_X7_length : GoodIn wsX9_keptCount (wsV RX9 40 RX7 yX7_length wsX7_length) := goodIn_app (goodIn_of _ (by decide +kernel)) ggX9_keptCount_X7_length
set_option maxRecDepth 20000 in
theorem ggX9_keptCount_X6_length : GoodIn wsX9_keptCount wsX6_length := goodIn_r _ [14, 15, 30, 31] (by decide +kernel) (by decide +kernel)
set_option maxRecDepth 20000 in
theorem gX9_keptCount_X6_length : GoodIn wsX9_keptCount (wsV RX9 44 RX6 yX6_length wsX6_length) := goodIn_app (goodIn_of _ (by decide +kernel)) ggX9_keptCount_X6_length
theorem dX9_keptCount_0 : decode cX9_keptCount 0 = .ok (.aload_n 0, 1) := by decide +kernel
theorem dX9_keptCount_1 : decode cX9_keptCount 1 = .ok (.getfield 26, 3) := by decide +kernel
theorem dX9_keptCount_4 : decode cX9_keptCount 4 = .ok (.invokevirtual 40, 3) := by decide +kernel
theorem dX9_keptCount_7 : decode cX9_keptCount 7 = .ok (.aload_n 0, 1) := by decide +kernel
theorem dX9_keptCount_8 : decode cX9_keptCount 8 = .ok (.getfield 33, 3) := by decide +kernel
theorem dX9_keptCount_11 : decode cX9_keptCount 11 = .ok (.invokevirtual 44, 3) := by decide +kernel
theorem dX9_keptCount_14 : decode cX9_keptCount 14 = .ok (.iadd, 1) := by decide +kernel
theorem dX9_keptCount_15 : decode cX9_keptCount 15 = .ok (.aload_n 0, 1) := by decide +kernel
theorem dX9_keptCount_16 : decode cX9_keptCount 16 = .ok (.getfield 37, 3) := by decide +kernel
theorem dX9_keptCount_19 : decode cX9_keptCount 19 = .ok (.invokevirtual 44, 3) := by decide +kernel
theorem dX9_keptCount_22 : decode cX9_keptCount 22 = .ok (.iadd, 1) := by decide +kernel
theorem dX9_keptCount_23 : decode cX9_keptCount 23 = .ok (.ireturn, 1) := by decide +kernel
set_option maxRecDepth 20000 in
theorem ggX9_become_X7_become : GoodIn wsX9_become wsX7_become := goodIn_r _ [16, 17, 18, 19, 20, 21, 22, 23, 24, 25, 26, 27, 28, 29, 30, 31, 32, 33, 34, 35, 36, 37, 38, 51, 52, 53, 54] (by decide +kernel) (by decide +kernel)
set_option maxRecDepth 20000 in
theorem gX9_become_X7_become : GoodIn wsX9_become (wsV RX9 57 RX7 yX7_become wsX7_become) := goodIn_app (goodIn_of _ (by decide +kernel)) ggX9_become_X7_become
set_option maxRecDepth 20000 in
theorem ggX9_become_X6_become : GoodIn wsX9_become wsX6_become := goodIn_r _ [23, 24, 25, 26, 27, 28, 29, 30, 31, 32, 33, 34, 35, 36, 37, 38, 53, 54] (by decide +kernel) (by decide +kernel)
set_option maxRecDepth 20000 in
theorem gX9_become_X6_become : GoodIn wsX9_become (wsV RX9 61 RX6 yX6_become wsX6_become) := goodIn_app (goodIn_of _ (by decide +kernel)) ggX9_become_X6_become
theorem dX9_become_0 : decode cX9_become 0 = .ok (.aload_n 0, 1) := by decide +kernel
theorem dX9_become_1 : decode cX9_become 1 = .ok (.aload_n 1, 1) := by decide +kernel
theorem dX9_become_2 : decode cX9_become 2 = .ok (.getfield 7, 3) := by decide +kernel
theorem dX9_become_5 : decode cX9_become 5 = .ok (.putfield 7, 3) := by decide +kernel
theorem dX9_become_8 : decode cX9_become 8 = .ok (.aload_n 0, 1) := by decide +kernel
theorem dX9_become_9 : decode cX9_become 9 = .ok (.aload_n 1, 1) := by decide +kernel
theorem dX9_become_10 : decode cX9_become 10 = .ok (.getfield 13, 3) := by decide +kernel
theorem dX9_become_13 : decode cX9_become 13 = .ok (.putfield 13, 3) := by decide +kernel
theorem dX9_become_16 : decode cX9_become 16 = .ok (.aload_n 0, 1) := by decide +kernel
theorem dX9_become_17 : decode cX9_become 17 = .ok (.aload_n 1, 1) := by decide +kernel
theorem dX9_become_18 : decode cX9_become 18 = .ok (.getfield 16, 3) := by decide +kernel
theorem dX9_become_21 : decode cX9_become 21 = .ok (.putfield 16, 3) := by decide +kernel
theorem dX9_become_24 : decode cX9_become 24 = .ok (.aload_n 0, 1) := by decide +kernel
theorem dX9_become_25 : decode cX9_become 25 = .ok (.aload_n 1, 1) := by decide +kernel
theorem dX9_become_26 : decode cX9_become 26 = .ok (.getfield 19, 3) := by decide +kernel
theorem dX9_become_29 : decode cX9_become 29 = .ok (.putfield 19, 3) := by decide +kernel
theorem dX9_become_32 : decode cX9_become 32 = .ok (.aload_n 0, 1) := by decide +kernel
theorem dX9_become_33 : decode cX9_become 33 = .ok (.aload_n 1, 1) := by decide +kernel
theorem dX9_become_34 : decode cX9_become 34 = .ok (.getfield 45, 3) := by decide +kernel
theorem dX9_become_37 : decode cX9_become 37 = .ok (.putfield 45, 3) := by decide +kernel
theorem dX9_become_40 : decode cX9_become 40 = .ok (.aload_n 0, 1) := by decide +kernel
theorem dX9_become_41 : decode cX9_become 41 = .ok (.aload_n 1, 1) := by decide +kernel
theorem dX9_become_42 : decode cX9_become 42 = .ok (.getfield 48, 3) := by decide +kernel
theorem dX9_become_45 : decode cX9_become 45 = .ok (.putfield 48, 3) := by decide +kernel
theorem dX9_become_48 : decode cX9_become 48 = .ok (.aload_n 0, 1) := by decide +kernel
theorem dX9_become_49 : decode cX9_become 49 = .ok (.aload_n 1, 1) := by decide +kernel
theorem dX9_become_50 : decode cX9_become 50 = .ok (.getfield 51, 3) := by decide +kernel
theorem dX9_become_53 : decode cX9_become 53 = .ok (.putfield 51, 3) := by decide +kernel
theorem dX9_become_56 : decode cX9_become 56 = .ok (.aload_n 0, 1) := by decide +kernel
theorem dX9_become_57 : decode cX9_become 57 = .ok (.aload_n 1, 1) := by decide +kernel
theorem dX9_become_58 : decode cX9_become 58 = .ok (.getfield 54, 3) := by decide +kernel
theorem dX9_become_61 : decode cX9_become 61 = .ok (.putfield 54, 3) := by decide +kernel
theorem dX9_become_64 : decode cX9_become 64 = .ok (.aload_n 0, 1) := by decide +kernel
theorem dX9_become_65 : decode cX9_become 65 = .ok (.getfield 26, 3) := by decide +kernel
theorem dX9_become_68 : decode cX9_become 68 = .ok (.aload_n 1, 1) := by decide +kernel
theorem dX9_become_69 : decode cX9_become 69 = .ok (.getfield 26, 3) := by decide +kernel
theorem dX9_become_72 : decode cX9_become 72 = .ok (.invokevirtual 57, 3) := by decide +kernel
theorem dX9_become_75 : decode cX9_become 75 = .ok (.aload_n 0, 1) := by decide +kernel
theorem dX9_become_76 : decode cX9_become 76 = .ok (.getfield 33, 3) := by decide +kernel
theorem dX9_become_79 : decode cX9_become 79 = .ok (.aload_n 1, 1) := by decide +kernel
theorem dX9_become_80 : decode cX9_become 80 = .ok (.getfield 33, 3) := by decide +kernel
theorem dX9_become_83 : decode cX9_become 83 = .ok (.iconst 0, 1) := by decide +kernel
theorem dX9_become_84 : decode cX9_become 84 = .ok (.invokevirtual 61, 3) := by decide +kernel
theorem dX9_become_87 : decode cX9_become 87 = .ok (.aload_n 0, 1) := by decide +kernel
theorem dX9_become_88 : decode cX9_become 88 = .ok (.getfield 37, 3) := by decide +kernel
theorem dX9_become_91 : decode cX9_become 91 = .ok (.aload_n 1, 1) := by decide +kernel
theorem dX9_become_92 : decode cX9_become 92 = .ok (.getfield 37, 3) := by decide +kernel
theorem dX9_become_95 : decode cX9_become 95 = .ok (.iconst 0, 1) := by decide +kernel
theorem dX9_become_96 : decode cX9_become 96 = .ok (.invokevirtual 61, 3) := by decide +kernel
theorem dX9_become_99 : decode cX9_become 99 = .ok (.return_, 1) := by decide +kernel
set_option maxRecDepth 20000 in
theorem ggX10_init_X2_init : GoodIn wsX10_init wsX2_init := goodIn_r _ [11, 12, 2, 3, 13, 14, 15, 16, 17, 18, 19, 20, 21, 22, 23, 24, 25, 26, 27, 28, 29, 30, 31, 32, 33, 34, 48, 49, 50, 35, 36, 37, 38, 39, 40, 41, 42] (by decide +kernel) (by decide +kernel)
set_option maxRecDepth 20000 in
theorem gX10_init_X2_init : GoodIn wsX10_init (wsX2_init) := ggX10_init_X2_init
theorem dX10_init_0 : decode cX10_init 0 = .ok (.aload_n 0, 1) := by decide +kernel
theorem dX10_init_1 : decode cX10_init 1 = .ok (.invokespecial 1, 3) := by decide +kernel
theorem dX10_init_4 : decode cX10_init 4 = .ok (.aload_n 0, 1) := by decide +kernel
theorem dX10_init_5 : decode cX10_init 5 = .ok (.new 7, 3) := by decide +kernel
theorem dX10_init_8 : decode cX10_init 8 = .ok (.dup, 1) := by decide +kernel
theorem dX10_init_9 : decode cX10_init 9 = .ok (.iconst 0, 1) := by decide +kernel
theorem dX10_init_10 : decode cX10_init 10 = .ok (.invokespecial 9, 3) := by decide +kernel
theorem dX10_init_13 : decode cX10_init 13 = .ok (.putfield 12, 3) := by decide +kernel
theorem dX10_init_16 : decode cX10_init 16 = .ok (.aload_n 0, 1) := by decide +kernel
theorem dX10_init_17 : decode cX10_init 17 = .ok (.new 7, 3) := by decide +kernel
theorem dX10_init_20 : decode cX10_init 20 = .ok (.dup, 1) := by decide +kernel
theorem dX10_init_21 : decode cX10_init 21 = .ok (.iconst 1, 1) := by decide +kernel
theorem dX10_init_22 : decode cX10_init 22 = .ok (.invokespecial 9, 3) := by decide +kernel
theorem dX10_init_25 : decode cX10_init 25 = .ok (.putfield 18, 3) := by decide +kernel
theorem dX10_init_28 : decode cX10_init 28 = .ok (.return_, 1) := by decide +kernel
set_option maxRecDepth 20000 in
theorem ggX10_addSource_X10_isWithin : GoodIn wsX10_addSource wsX10_isWithin := goodIn_r _ [7] (by decide +kernel) (by decide +kernel)
set_option maxRecDepth 20000 in
theorem gX10_addSource_X10_isWithin : GoodIn wsX10_addSource (va_wsS RX10 21 yX10_isWithin wsX10_isWithin) := goodIn_app (goodIn_of _ (by decide +kernel)) ggX10_addSource_X10_isWithin
set_option maxRecDepth 20000 in
theorem ggX10_addSource_X10_refuseUnless : GoodIn wsX10_addSource wsX10_refuseUnless := goodIn_ca (goodIn_r _ [10, 11, 12] (by decide +kernel) (by decide +kernel)) (goodIn_sub (fun _ h => List.mem_cons_of_mem _ (List.mem_append_left _ (List.mem_append_right _ h))) (by decide +kernel))
set_option maxRecDepth 20000 in
theorem gX10_addSource_X10_refuseUnless : GoodIn wsX10_addSource (va_wsS RX10 25 yX10_refuseUnless wsX10_refuseUnless) := goodIn_app (goodIn_of _ (by decide +kernel)) ggX10_addSource_X10_refuseUnless
set_option maxRecDepth 20000 in
theorem ggX10_addSource_X10_refuseMoreStages : GoodIn wsX10_addSource wsX10_refuseMoreStages := goodIn_ca (goodIn_r _ [16, 17, 18, 19, 20, 21, 22, 23, 24, 25, 26, 27, 28, 29, 30, 31, 32, 244, 245, 246, 247, 248, 249, 250, 251, 252, 253, 254, 255, 256, 257, 258, 259] (by decide +kernel) (by decide +kernel)) (goodIn_sub (fun _ h => List.mem_cons_of_mem _ (List.mem_append_right _ h)) (by decide +kernel))
set_option maxRecDepth 20000 in
theorem gX10_addSource_X10_refuseMoreStages : GoodIn wsX10_addSource (wsV RX10 28 RX10 yX10_refuseMoreStages wsX10_refuseMoreStages) := goodIn_app (goodIn_of _ (by decide +kernel)) ggX10_addSource_X10_refuseMoreStages
set_option maxRecDepth 20000 in
theorem ggX10_addSource_X5_init : GoodIn wsX10_addSource wsX5_init := goodIn_r _ [35, 36, 37, 38, 39, 40, 41, 229, 230, 231, 232, 233, 234, 235, 236, 237, 238, 239, 240, 241, 242, 243] (by decide +kernel) (by decide +kernel)
set_option maxRecDepth 20000 in
theorem gX10_addSource_X5_init : GoodIn wsX10_addSource (wsX5_init) := ggX10_addSource_X5_init
set_option maxRecDepth 20000 in
theorem ggX10_addSource_X10_wire : GoodIn wsX10_addSource wsX10_wire := goodIn_r _ [45, 20, 46, 47, 48, 49, 21, 22, 23, 24, 25, 26, 27, 28, 29, 30, 31, 32, 50, 51, 52, 6, 53, 54, 55, 56, 57, 58, 59, 60, 61, 62, 63, 64, 65, 66, 67, 68, 69, 70, 71, 72, 73, 74, 75, 76, 77, 78, 3, 79, 80, 81, 82, 83, 84, 85, 86, 87, 88, 37, 38, 89, 90, 91, 92, 93, 94, 95, 96, 97, 98, 99, 100, 101, 102, 103, 104, 105, 106, 107, 108, 109, 110, 111, 112, 113, 114, 115, 116, 117, 118, 119, 120, 121, 122, 123, 124, 125, 126, 127, 128, 129, 130, 131, 132, 133, 134, 135, 136, 137, 138, 139, 140, 141, 142, 143, 144, 145, 146, 147, 148, 149, 150, 151, 152, 153, 154, 155, 156, 157, 158, 159, 160, 161, 162, 163, 164, 165, 166, 167, 168, 169, 170, 171, 172, 173, 174, 175, 176, 177, 178, 179, 180, 181, 182, 183, 184, 185, 186, 187, 188, 189, 190, 191, 192, 193, 194, 195, 196, 197, 198, 199, 200, 201, 202, 203, 204, 205, 206, 207, 208, 209, 210, 211, 212, 213, 214, 215, 216, 217, 218, 219, 220, 221, 222, 223, 224, 225, 226, 227, 228, 244, 245, 246, 247, 248, 229, 230, 231, 232, 233, 234, 235, 236, 237, 238, 239, 240, 241, 242, 243, 260, 261, 249, 250, 251, 252, 253, 254, 255, 256, 257, 258, 259, 262, 263, 264, 265, 266, 267, 268, 269, 270, 271, 272, 273, 274, 275, 276, 277, 278, 279, 280, 281, 282, 283, 284, 285, 286, 287, 288, 289, 290, 291] (by decide +kernel) (by decide +kernel)
set_option maxRecDepth 20000 in
theorem gX10_addSource_X10_wire : GoodIn wsX10_addSource (wsV RX10 40 RX10 yX10_wire wsX10_wire) := goodIn_app (goodIn_of _ (by decide +kernel)) ggX10_addSource_X10_wire
theorem dX10_addSource_0 : decode cX10_addSource 0 = .ok (.iload_n 1, 1) := by decide +kernel
theorem dX10_addSource_1 : decode cX10_addSource 1 = .ok (.iconst 0, 1) := by decide +kernel
theorem dX10_addSource_2 : decode cX10_addSource 2 = .ok (.sipush 1000, 3) := by decide +kernel
theorem dX10_addSource_5 : decode cX10_addSource 5 = .ok (.invokestatic 21, 3) := by decide +kernel
theorem dX10_addSource_8 : decode cX10_addSource 8 = .ok (.invokestatic 25, 3) := by decide +kernel
theorem dX10_addSource_11 : decode cX10_addSource 11 = .ok (.aload_n 0, 1) := by decide +kernel
theorem dX10_addSource_12 : decode cX10_addSource 12 = .ok (.invokevirtual 28, 3) := by decide +kernel
theorem dX10_addSource_15 : decode cX10_addSource 15 = .ok (.new 31, 3) := by decide +kernel
theorem dX10_addSource_18 : decode cX10_addSource 18 = .ok (.dup, 1) := by decide +kernel
theorem dX10_addSource_19 : decode cX10_addSource 19 = .ok (.iconst 0, 1) := by decide +kernel
theorem dX10_addSource_20 : decode cX10_addSource 20 = .ok (.iconst (-1), 1) := by decide +kernel
theorem dX10_addSource_21 : decode cX10_addSource 21 = .ok (.iconst (-1), 1) := by decide +kernel
theorem dX10_addSource_22 : decode cX10_addSource 22 = .ok (.invokespecial 33, 3) := by decide +kernel
theorem dX10_addSource_25 : decode cX10_addSource 25 = .ok (.astore_n 2, 1) := by decide +kernel
theorem dX10_addSource_26 : decode cX10_addSource 26 = .ok (.aload_n 2, 1) := by decide +kernel
theorem dX10_addSource_27 : decode cX10_addSource 27 = .ok (.iload_n 1, 1) := by decide +kernel
theorem dX10_addSource_28 : decode cX10_addSource 28 = .ok (.putfield 36, 3) := by decide +kernel
theorem dX10_addSource_31 : decode cX10_addSource 31 = .ok (.aload_n 0, 1) := by decide +kernel
theorem dX10_addSource_32 : decode cX10_addSource 32 = .ok (.aload_n 2, 1) := by decide +kernel
theorem dX10_addSource_33 : decode cX10_addSource 33 = .ok (.invokevirtual 40, 3) := by decide +kernel
theorem dX10_addSource_36 : decode cX10_addSource 36 = .ok (.ireturn, 1) := by decide +kernel
set_option maxRecDepth 20000 in
theorem ggX10_addFilter_X10_stageOf : GoodIn wsX10_addFilter wsX10_stageOf := goodIn_ca (goodIn_r _ [8, 9, 10, 11, 12, 13, 14, 15, 16, 17, 18, 19, 20, 21, 22, 23, 24, 25, 26, 27, 28, 29, 30, 31, 32, 33, 34, 35, 36, 37, 38, 39, 40, 41, 262, 263, 264, 265, 266, 267, 268, 269, 270, 271, 272, 273, 274, 275, 276, 277] (by decide +kernel) (by decide +kernel)) (goodIn_sub (fun _ h => List.mem_cons_of_mem _ (List.mem_append_left _ (List.mem_append_left _ (List.mem_append_right _ h)))) (by decide +kernel))
set_option maxRecDepth 20000 in
theorem gX10_addFilter_X10_stageOf : GoodIn wsX10_addFilter (wsV RX10 44 RX10 yX10_stageOf wsX10_stageOf) := goodIn_app (goodIn_of _ (by decide +kernel)) ggX10_addFilter_X10_stageOf
set_option maxRecDepth 20000 in
theorem ggX10_addFilter_X10_isWithin : GoodIn wsX10_addFilter wsX10_isWithin := goodIn_r _ [44] (by decide +kernel) (by decide +kernel)
set_option maxRecDepth 20000 in
theorem gX10_addFilter_X10_isWithin : GoodIn wsX10_addFilter (va_wsS RX10 21 yX10_isWithin wsX10_isWithin) := goodIn_app (goodIn_of _ (by decide +kernel)) ggX10_addFilter_X10_isWithin
set_option maxRecDepth 20000 in
theorem ggX10_addFilter_X10_refuseUnless : GoodIn wsX10_addFilter wsX10_refuseUnless := goodIn_ca (goodIn_r _ [47, 48, 49] (by decide +kernel) (by decide +kernel)) (goodIn_sub (fun _ h => List.mem_cons_of_mem _ (List.mem_append_left _ (List.mem_append_right _ h))) (by decide +kernel))
set_option maxRecDepth 20000 in
theorem gX10_addFilter_X10_refuseUnless : GoodIn wsX10_addFilter (va_wsS RX10 25 yX10_refuseUnless wsX10_refuseUnless) := goodIn_app (goodIn_of _ (by decide +kernel)) ggX10_addFilter_X10_refuseUnless
set_option maxRecDepth 20000 in
theorem ggX10_addFilter_X10_refuseMoreStages : GoodIn wsX10_addFilter wsX10_refuseMoreStages := goodIn_ca (goodIn_r _ [53, 54, 55, 56, 11, 57, 58, 59, 15, 60, 17, 19, 20, 21, 22, 23, 24, 262, 263, 264, 265, 266, 267, 268, 269, 270, 271, 272, 273, 274, 275, 276, 277] (by decide +kernel) (by decide +kernel)) (goodIn_sub (fun _ h => List.mem_cons_of_mem _ (List.mem_append_right _ h)) (by decide +kernel))
set_option maxRecDepth 20000 in
theorem gX10_addFilter_X10_refuseMoreStages : GoodIn wsX10_addFilter (wsV RX10 28 RX10 yX10_refuseMoreStages wsX10_refuseMoreStages) := goodIn_app (goodIn_of _ (by decide +kernel)) ggX10_addFilter_X10_refuseMoreStages
set_option maxRecDepth 20000 in
theorem ggX10_addFilter_X5_init : GoodIn wsX10_addFilter wsX5_init := goodIn_r _ [63, 64, 65, 66, 67, 68, 69, 247, 248, 249, 250, 251, 252, 253, 254, 255, 256, 257, 258, 259, 260, 261] (by decide +kernel) (by decide +kernel)
set_option maxRecDepth 20000 in
theorem gX10_addFilter_X5_init : GoodIn wsX10_addFilter (wsX5_init) := ggX10_addFilter_X5_init
set_option maxRecDepth 20000 in
theorem ggX10_addFilter_X10_wire : GoodIn wsX10_addFilter wsX10_wire := goodIn_r _ [73, 11, 74, 75, 76, 77, 57, 58, 59, 15, 60, 17, 19, 20, 21, 22, 23, 24, 78, 79, 80, 7, 81, 12, 13, 14, 16, 18, 25, 26, 27, 28, 29, 30, 31, 32, 33, 34, 35, 36, 37, 38, 39, 40, 41, 82, 83, 84, 3, 85, 86, 87, 88, 89, 90, 91, 92, 93, 94, 65, 66, 95, 96, 97, 98, 99, 100, 101, 102, 103, 104, 105, 106, 107, 108, 109, 110, 111, 112, 113, 114, 115, 116, 117, 118, 119, 120, 121, 122, 123, 124, 125, 126, 127, 128, 129, 130, 131, 132, 133, 134, 135, 136, 137, 138, 139, 140, 141, 142, 143, 144, 145, 146, 147, 148, 149, 150, 151, 152, 153, 154, 155, 156, 157, 158, 159, 160, 161, 162, 163, 164, 165, 166, 167, 168, 169, 170, 171, 172, 173, 174, 175, 176, 177, 178, 179, 180, 181, 182, 183, 184, 185, 186, 187, 188, 189, 190, 191, 192, 193, 194, 195, 196, 197, 198, 199, 200, 201, 202, 203, 204, 205, 206, 207, 208, 209, 210, 211, 212, 213, 214, 215, 216, 217, 218, 219, 220, 221, 222, 223, 224, 225, 226, 227, 228, 229, 230, 231, 232, 233, 234, 262, 263, 264, 265, 266, 247, 248, 249, 250, 251, 252, 253, 254, 255, 256, 257, 258, 259, 260, 261, 278, 279, 267, 268, 269, 270, 271, 272, 273, 274, 275, 276, 277, 235, 236, 237, 238, 239, 240, 241, 242, 243, 244, 245, 246, 280, 281, 282, 283, 284, 285, 286, 287, 288, 289, 290, 291, 292, 293, 294, 295, 296, 297] (by decide +kernel) (by decide +kernel)
set_option maxRecDepth 20000 in
theorem gX10_addFilter_X10_wire : GoodIn wsX10_addFilter (wsV RX10 40 RX10 yX10_wire wsX10_wire) := goodIn_app (goodIn_of _ (by decide +kernel)) ggX10_addFilter_X10_wire
theorem dX10_addFilter_0 : decode cX10_addFilter 0 = .ok (.aload_n 0, 1) := by decide +kernel
theorem dX10_addFilter_1 : decode cX10_addFilter 1 = .ok (.iload_n 1, 1) := by decide +kernel
theorem dX10_addFilter_2 : decode cX10_addFilter 2 = .ok (.invokevirtual 44, 3) := by decide +kernel
theorem dX10_addFilter_5 : decode cX10_addFilter 5 = .ok (.astore 4, 2) := by decide +kernel
theorem dX10_addFilter_7 : decode cX10_addFilter 7 = .ok (.aload 4, 2) := by decide +kernel
theorem dX10_addFilter_9 : decode cX10_addFilter 9 = .ok (.getfield 48, 3) := by decide +kernel
theorem dX10_addFilter_12 : decode cX10_addFilter 12 = .ok (.getfield 54, 3) := by decide +kernel
theorem dX10_addFilter_15 : decode cX10_addFilter 15 = .ok (.bipush 7, 2) := by decide +kernel
theorem dX10_addFilter_17 : decode cX10_addFilter 17 = .ok (.if_icmp .eq 25, 3) := by decide +kernel
theorem dX10_addFilter_20 : decode cX10_addFilter 20 = .ok (.iload_n 2, 1) := by decide +kernel
theorem dX10_addFilter_21 : decode cX10_addFilter 21 = .ok (.iconst 0, 1) := by decide +kernel
theorem dX10_addFilter_22 : decode cX10_addFilter 22 = .ok (.iconst 3, 1) := by decide +kernel
theorem dX10_addFilter_23 : decode cX10_addFilter 23 = .ok (.invokestatic 21, 3) := by decide +kernel
theorem dX10_addFilter_26 : decode cX10_addFilter 26 = .ok (.ifCond .eq 16, 3) := by decide +kernel
theorem dX10_addFilter_29 : decode cX10_addFilter 29 = .ok (.iload_n 2, 1) := by decide +kernel
theorem dX10_addFilter_30 : decode cX10_addFilter 30 = .ok (.iconst 3, 1) := by decide +kernel
theorem dX10_addFilter_31 : decode cX10_addFilter 31 = .ok (.if_icmp .ne 7, 3) := by decide +kernel
theorem dX10_addFilter_34 : decode cX10_addFilter 34 = .ok (.iload_n 3, 1) := by decide +kernel
theorem dX10_addFilter_35 : decode cX10_addFilter 35 = .ok (.ifCond .eq 7, 3) := by decide +kernel
theorem dX10_addFilter_38 : decode cX10_addFilter 38 = .ok (.iconst 1, 1) := by decide +kernel
theorem dX10_addFilter_39 : decode cX10_addFilter 39 = .ok (.goto 4, 3) := by decide +kernel
theorem dX10_addFilter_42 : decode cX10_addFilter 42 = .ok (.iconst 0, 1) := by decide +kernel
theorem dX10_addFilter_43 : decode cX10_addFilter 43 = .ok (.invokestatic 25, 3) := by decide +kernel
theorem dX10_addFilter_46 : decode cX10_addFilter 46 = .ok (.aload_n 0, 1) := by decide +kernel
theorem dX10_addFilter_47 : decode cX10_addFilter 47 = .ok (.invokevirtual 28, 3) := by decide +kernel
theorem dX10_addFilter_50 : decode cX10_addFilter 50 = .ok (.new 31, 3) := by decide +kernel
theorem dX10_addFilter_53 : decode cX10_addFilter 53 = .ok (.dup, 1) := by decide +kernel
theorem dX10_addFilter_54 : decode cX10_addFilter 54 = .ok (.iconst 1, 1) := by decide +kernel
theorem dX10_addFilter_55 : decode cX10_addFilter 55 = .ok (.iload_n 1, 1) := by decide +kernel
theorem dX10_addFilter_56 : decode cX10_addFilter 56 = .ok (.iconst (-1), 1) := by decide +kernel
theorem dX10_addFilter_57 : decode cX10_addFilter 57 = .ok (.invokespecial 33, 3) := by decide +kernel
theorem dX10_addFilter_60 : decode cX10_addFilter 60 = .ok (.astore 5, 2) := by decide +kernel
theorem dX10_addFilter_62 : decode cX10_addFilter 62 = .ok (.aload 5, 2) := by decide +kernel
theorem dX10_addFilter_64 : decode cX10_addFilter 64 = .ok (.iload_n 2, 1) := by decide +kernel
theorem dX10_addFilter_65 : decode cX10_addFilter 65 = .ok (.putfield 57, 3) := by decide +kernel
theorem dX10_addFilter_68 : decode cX10_addFilter 68 = .ok (.aload 5, 2) := by decide +kernel
theorem dX10_addFilter_70 : decode cX10_addFilter 70 = .ok (.iload_n 3, 1) := by decide +kernel
theorem dX10_addFilter_71 : decode cX10_addFilter 71 = .ok (.putfield 60, 3) := by decide +kernel
theorem dX10_addFilter_74 : decode cX10_addFilter 74 = .ok (.aload_n 0, 1) := by decide +kernel
theorem dX10_addFilter_75 : decode cX10_addFilter 75 = .ok (.aload 5, 2) := by decide +kernel
theorem dX10_addFilter_77 : decode cX10_addFilter 77 = .ok (.invokevirtual 40, 3) := by decide +kernel
theorem dX10_addFilter_80 : decode cX10_addFilter 80 = .ok (.ireturn, 1) := by decide +kernel
set_option maxRecDepth 20000 in
theorem ggX10_addMap_X10_stageOf : GoodIn wsX10_addMap wsX10_stageOf := goodIn_ca (goodIn_r _ [8, 9, 10, 11, 12, 13, 14, 15, 16, 17, 18, 19, 20, 21, 22, 23, 24, 25, 26, 27, 28, 29, 30, 31, 32, 33, 34, 35, 36, 37, 38, 39, 40, 41, 262, 263, 264, 265, 266, 267, 268, 269, 270, 271, 272, 273, 274, 275, 276, 277] (by decide +kernel) (by decide +kernel)) (goodIn_sub (fun _ h => List.mem_cons_of_mem _ (List.mem_append_left _ (List.mem_append_left _ (List.mem_append_right _ h)))) (by decide +kernel))
set_option maxRecDepth 20000 in
theorem gX10_addMap_X10_stageOf : GoodIn wsX10_addMap (wsV RX10 44 RX10 yX10_stageOf wsX10_stageOf) := goodIn_app (goodIn_of _ (by decide +kernel)) ggX10_addMap_X10_stageOf
set_option maxRecDepth 20000 in
theorem ggX10_addMap_X10_isWithin : GoodIn wsX10_addMap wsX10_isWithin := goodIn_r _ [44] (by decide +kernel) (by decide +kernel)
set_option maxRecDepth 20000 in
theorem gX10_addMap_X10_isWithin : GoodIn wsX10_addMap (va_wsS RX10 21 yX10_isWithin wsX10_isWithin) := goodIn_app (goodIn_of _ (by decide +kernel)) ggX10_addMap_X10_isWithin
set_option maxRecDepth 20000 in
theorem ggX10_addMap_X10_refuseUnless : GoodIn wsX10_addMap wsX10_refuseUnless := goodIn_ca (goodIn_r _ [47, 48, 49] (by decide +kernel) (by decide +kernel)) (goodIn_sub (fun _ h => List.mem_cons_of_mem _ (List.mem_append_left _ (List.mem_append_right _ h))) (by decide +kernel))
set_option maxRecDepth 20000 in
theorem gX10_addMap_X10_refuseUnless : GoodIn wsX10_addMap (va_wsS RX10 25 yX10_refuseUnless wsX10_refuseUnless) := goodIn_app (goodIn_of _ (by decide +kernel)) ggX10_addMap_X10_refuseUnless
set_option maxRecDepth 20000 in
theorem ggX10_addMap_X10_refuseMoreStages : GoodIn wsX10_addMap wsX10_refuseMoreStages := goodIn_ca (goodIn_r _ [53, 54, 55, 56, 11, 57, 58, 59, 15, 60, 17, 19, 20, 21, 22, 23, 24, 262, 263, 264, 265, 266, 267, 268, 269, 270, 271, 272, 273, 274, 275, 276, 277] (by decide +kernel) (by decide +kernel)) (goodIn_sub (fun _ h => List.mem_cons_of_mem _ (List.mem_append_right _ h)) (by decide +kernel))
set_option maxRecDepth 20000 in
theorem gX10_addMap_X10_refuseMoreStages : GoodIn wsX10_addMap (wsV RX10 28 RX10 yX10_refuseMoreStages wsX10_refuseMoreStages) := goodIn_app (goodIn_of _ (by decide +kernel)) ggX10_addMap_X10_refuseMoreStages
set_option maxRecDepth 20000 in
theorem ggX10_addMap_X5_init : GoodIn wsX10_addMap wsX5_init := goodIn_r _ [63, 64, 65, 66, 67, 68, 69, 247, 248, 249, 250, 251, 252, 253, 254, 255, 256, 257, 258, 259, 260, 261] (by decide +kernel) (by decide +kernel)
set_option maxRecDepth 20000 in
theorem gX10_addMap_X5_init : GoodIn wsX10_addMap (wsX5_init) := ggX10_addMap_X5_init
set_option maxRecDepth 20000 in
theorem ggX10_addMap_X10_wire : GoodIn wsX10_addMap wsX10_wire := goodIn_r _ [73, 11, 74, 75, 76, 77, 57, 58, 59, 15, 60, 17, 19, 20, 21, 22, 23, 24, 78, 79, 80, 7, 81, 12, 13, 14, 16, 18, 25, 26, 27, 28, 29, 30, 31, 32, 33, 34, 35, 36, 37, 38, 39, 40, 41, 82, 83, 84, 3, 85, 86, 87, 88, 89, 90, 91, 92, 93, 94, 65, 66, 95, 96, 97, 98, 99, 100, 101, 102, 103, 104, 105, 106, 107, 108, 109, 110, 111, 112, 113, 114, 115, 116, 117, 118, 119, 120, 121, 122, 123, 124, 125, 126, 127, 128, 129, 130, 131, 132, 133, 134, 135, 136, 137, 138, 139, 140, 141, 142, 143, 144, 145, 146, 147, 148, 149, 150, 151, 152, 153, 154, 155, 156, 157, 158, 159, 160, 161, 162, 163, 164, 165, 166, 167, 168, 169, 170, 171, 172, 173, 174, 175, 176, 177, 178, 179, 180, 181, 182, 183, 184, 185, 186, 187, 188, 189, 190, 191, 192, 193, 194, 195, 196, 197, 198, 199, 200, 201, 202, 203, 204, 205, 206, 207, 208, 209, 210, 211, 212, 213, 214, 215, 216, 217, 218, 219, 220, 221, 222, 223, 224, 225, 226, 227, 228, 229, 230, 231, 232, 233, 234, 262, 263, 264, 265, 266, 247, 248, 249, 250, 251, 252, 253, 254, 255, 256, 257, 258, 259, 260, 261, 278, 279, 267, 268, 269, 270, 271, 272, 273, 274, 275, 276, 277, 235, 236, 237, 238, 239, 240, 241, 242, 243, 244, 245, 246, 280, 281, 282, 283, 284, 285, 286, 287, 288, 289, 290, 291, 292, 293, 294, 295, 296, 297] (by decide +kernel) (by decide +kernel)
set_option maxRecDepth 20000 in
theorem gX10_addMap_X10_wire : GoodIn wsX10_addMap (wsV RX10 40 RX10 yX10_wire wsX10_wire) := goodIn_app (goodIn_of _ (by decide +kernel)) ggX10_addMap_X10_wire
theorem dX10_addMap_0 : decode cX10_addMap 0 = .ok (.aload_n 0, 1) := by decide +kernel
theorem dX10_addMap_1 : decode cX10_addMap 1 = .ok (.iload_n 1, 1) := by decide +kernel
theorem dX10_addMap_2 : decode cX10_addMap 2 = .ok (.invokevirtual 44, 3) := by decide +kernel
theorem dX10_addMap_5 : decode cX10_addMap 5 = .ok (.astore 4, 2) := by decide +kernel
theorem dX10_addMap_7 : decode cX10_addMap 7 = .ok (.aload 4, 2) := by decide +kernel
theorem dX10_addMap_9 : decode cX10_addMap 9 = .ok (.getfield 48, 3) := by decide +kernel
theorem dX10_addMap_12 : decode cX10_addMap 12 = .ok (.getfield 54, 3) := by decide +kernel
theorem dX10_addMap_15 : decode cX10_addMap 15 = .ok (.bipush 7, 2) := by decide +kernel
theorem dX10_addMap_17 : decode cX10_addMap 17 = .ok (.if_icmp .eq 31, 3) := by decide +kernel
theorem dX10_addMap_20 : decode cX10_addMap 20 = .ok (.iload_n 2, 1) := by decide +kernel
theorem dX10_addMap_21 : decode cX10_addMap 21 = .ok (.iconst 0, 1) := by decide +kernel
theorem dX10_addMap_22 : decode cX10_addMap 22 = .ok (.iconst 3, 1) := by decide +kernel
theorem dX10_addMap_23 : decode cX10_addMap 23 = .ok (.invokestatic 21, 3) := by decide +kernel
theorem dX10_addMap_26 : decode cX10_addMap 26 = .ok (.ifCond .eq 22, 3) := by decide +kernel
theorem dX10_addMap_29 : decode cX10_addMap 29 = .ok (.iload_n 2, 1) := by decide +kernel
theorem dX10_addMap_30 : decode cX10_addMap 30 = .ok (.iconst 2, 1) := by decide +kernel
theorem dX10_addMap_31 : decode cX10_addMap 31 = .ok (.if_icmp .ne 13, 3) := by decide +kernel
theorem dX10_addMap_34 : decode cX10_addMap 34 = .ok (.iload_n 3, 1) := by decide +kernel
theorem dX10_addMap_35 : decode cX10_addMap 35 = .ok (.iconst 1, 1) := by decide +kernel
theorem dX10_addMap_36 : decode cX10_addMap 36 = .ok (.bipush 100, 2) := by decide +kernel
theorem dX10_addMap_38 : decode cX10_addMap 38 = .ok (.invokestatic 21, 3) := by decide +kernel
theorem dX10_addMap_41 : decode cX10_addMap 41 = .ok (.ifCond .eq 7, 3) := by decide +kernel
theorem dX10_addMap_44 : decode cX10_addMap 44 = .ok (.iconst 1, 1) := by decide +kernel
theorem dX10_addMap_45 : decode cX10_addMap 45 = .ok (.goto 4, 3) := by decide +kernel
theorem dX10_addMap_48 : decode cX10_addMap 48 = .ok (.iconst 0, 1) := by decide +kernel
theorem dX10_addMap_49 : decode cX10_addMap 49 = .ok (.invokestatic 25, 3) := by decide +kernel
theorem dX10_addMap_52 : decode cX10_addMap 52 = .ok (.aload_n 0, 1) := by decide +kernel
theorem dX10_addMap_53 : decode cX10_addMap 53 = .ok (.invokevirtual 28, 3) := by decide +kernel
theorem dX10_addMap_56 : decode cX10_addMap 56 = .ok (.new 31, 3) := by decide +kernel
theorem dX10_addMap_59 : decode cX10_addMap 59 = .ok (.dup, 1) := by decide +kernel
theorem dX10_addMap_60 : decode cX10_addMap 60 = .ok (.iconst 2, 1) := by decide +kernel
theorem dX10_addMap_61 : decode cX10_addMap 61 = .ok (.iload_n 1, 1) := by decide +kernel
theorem dX10_addMap_62 : decode cX10_addMap 62 = .ok (.iconst (-1), 1) := by decide +kernel
theorem dX10_addMap_63 : decode cX10_addMap 63 = .ok (.invokespecial 33, 3) := by decide +kernel
theorem dX10_addMap_66 : decode cX10_addMap 66 = .ok (.astore 5, 2) := by decide +kernel
theorem dX10_addMap_68 : decode cX10_addMap 68 = .ok (.aload 5, 2) := by decide +kernel
theorem dX10_addMap_70 : decode cX10_addMap 70 = .ok (.iload_n 2, 1) := by decide +kernel
theorem dX10_addMap_71 : decode cX10_addMap 71 = .ok (.putfield 57, 3) := by decide +kernel
theorem dX10_addMap_74 : decode cX10_addMap 74 = .ok (.aload 5, 2) := by decide +kernel
theorem dX10_addMap_76 : decode cX10_addMap 76 = .ok (.iload_n 3, 1) := by decide +kernel
theorem dX10_addMap_77 : decode cX10_addMap 77 = .ok (.putfield 60, 3) := by decide +kernel
theorem dX10_addMap_80 : decode cX10_addMap 80 = .ok (.aload_n 0, 1) := by decide +kernel
theorem dX10_addMap_81 : decode cX10_addMap 81 = .ok (.aload 5, 2) := by decide +kernel
theorem dX10_addMap_83 : decode cX10_addMap 83 = .ok (.invokevirtual 40, 3) := by decide +kernel
theorem dX10_addMap_86 : decode cX10_addMap 86 = .ok (.ireturn, 1) := by decide +kernel
set_option maxRecDepth 20000 in
theorem ggX10_addWindow_X10_stageOf : GoodIn wsX10_addWindow wsX10_stageOf := goodIn_ca (goodIn_r _ [8, 9, 10, 11, 12, 13, 14, 15, 16, 17, 18, 19, 20, 21, 22, 23, 24, 25, 26, 27, 28, 29, 30, 31, 32, 33, 34, 35, 36, 37, 38, 39, 40, 41, 262, 263, 264, 265, 266, 267, 268, 269, 270, 271, 272, 273, 274, 275, 276, 277] (by decide +kernel) (by decide +kernel)) (goodIn_sub (fun _ h => List.mem_cons_of_mem _ (List.mem_append_left _ (List.mem_append_left _ (List.mem_append_right _ h)))) (by decide +kernel))
set_option maxRecDepth 20000 in
theorem gX10_addWindow_X10_stageOf : GoodIn wsX10_addWindow (wsV RX10 44 RX10 yX10_stageOf wsX10_stageOf) := goodIn_app (goodIn_of _ (by decide +kernel)) ggX10_addWindow_X10_stageOf
set_option maxRecDepth 20000 in
theorem ggX10_addWindow_X10_isWithin : GoodIn wsX10_addWindow wsX10_isWithin := goodIn_r _ [44] (by decide +kernel) (by decide +kernel)
set_option maxRecDepth 20000 in
theorem gX10_addWindow_X10_isWithin : GoodIn wsX10_addWindow (va_wsS RX10 21 yX10_isWithin wsX10_isWithin) := goodIn_app (goodIn_of _ (by decide +kernel)) ggX10_addWindow_X10_isWithin
set_option maxRecDepth 20000 in
theorem ggX10_addWindow_X10_refuseUnless : GoodIn wsX10_addWindow wsX10_refuseUnless := goodIn_ca (goodIn_r _ [47, 48, 49] (by decide +kernel) (by decide +kernel)) (goodIn_sub (fun _ h => List.mem_cons_of_mem _ (List.mem_append_left _ (List.mem_append_right _ h))) (by decide +kernel))
set_option maxRecDepth 20000 in
theorem gX10_addWindow_X10_refuseUnless : GoodIn wsX10_addWindow (va_wsS RX10 25 yX10_refuseUnless wsX10_refuseUnless) := goodIn_app (goodIn_of _ (by decide +kernel)) ggX10_addWindow_X10_refuseUnless
set_option maxRecDepth 20000 in
theorem ggX10_addWindow_X10_refuseMoreStages : GoodIn wsX10_addWindow wsX10_refuseMoreStages := goodIn_ca (goodIn_r _ [53, 54, 55, 56, 11, 57, 58, 59, 15, 60, 17, 19, 20, 21, 22, 23, 24, 262, 263, 264, 265, 266, 267, 268, 269, 270, 271, 272, 273, 274, 275, 276, 277] (by decide +kernel) (by decide +kernel)) (goodIn_sub (fun _ h => List.mem_cons_of_mem _ (List.mem_append_right _ h)) (by decide +kernel))
set_option maxRecDepth 20000 in
theorem gX10_addWindow_X10_refuseMoreStages : GoodIn wsX10_addWindow (wsV RX10 28 RX10 yX10_refuseMoreStages wsX10_refuseMoreStages) := goodIn_app (goodIn_of _ (by decide +kernel)) ggX10_addWindow_X10_refuseMoreStages
set_option maxRecDepth 20000 in
theorem ggX10_addWindow_X5_init : GoodIn wsX10_addWindow wsX5_init := goodIn_r _ [63, 64, 65, 66, 67, 68, 69, 247, 248, 249, 250, 251, 252, 253, 254, 255, 256, 257, 258, 259, 260, 261] (by decide +kernel) (by decide +kernel)
set_option maxRecDepth 20000 in
theorem gX10_addWindow_X5_init : GoodIn wsX10_addWindow (wsX5_init) := ggX10_addWindow_X5_init
set_option maxRecDepth 20000 in
theorem ggX10_addWindow_X10_wire : GoodIn wsX10_addWindow wsX10_wire := goodIn_r _ [73, 11, 74, 75, 76, 77, 57, 58, 59, 15, 60, 17, 19, 20, 21, 22, 23, 24, 78, 79, 80, 7, 81, 12, 13, 14, 16, 18, 25, 26, 27, 28, 29, 30, 31, 32, 33, 34, 35, 36, 37, 38, 39, 40, 41, 82, 83, 84, 3, 85, 86, 87, 88, 89, 90, 91, 92, 93, 94, 65, 66, 95, 96, 97, 98, 99, 100, 101, 102, 103, 104, 105, 106, 107, 108, 109, 110, 111, 112, 113, 114, 115, 116, 117, 118, 119, 120, 121, 122, 123, 124, 125, 126, 127, 128, 129, 130, 131, 132, 133, 134, 135, 136, 137, 138, 139, 140, 141, 142, 143, 144, 145, 146, 147, 148, 149, 150, 151, 152, 153, 154, 155, 156, 157, 158, 159, 160, 161, 162, 163, 164, 165, 166, 167, 168, 169, 170, 171, 172, 173, 174, 175, 176, 177, 178, 179, 180, 181, 182, 183, 184, 185, 186, 187, 188, 189, 190, 191, 192, 193, 194, 195, 196, 197, 198, 199, 200, 201, 202, 203, 204, 205, 206, 207, 208, 209, 210, 211, 212, 213, 214, 215, 216, 217, 218, 219, 220, 221, 222, 223, 224, 225, 226, 227, 228, 229, 230, 231, 232, 233, 234, 262, 263, 264, 265, 266, 247, 248, 249, 250, 251, 252, 253, 254, 255, 256, 257, 258, 259, 260, 261, 278, 279, 267, 268, 269, 270, 271, 272, 273, 274, 275, 276, 277, 235, 236, 237, 238, 239, 240, 241, 242, 243, 244, 245, 246, 280, 281, 282, 283, 284, 285, 286, 287, 288, 289, 290, 291, 292, 293, 294, 295, 296, 297] (by decide +kernel) (by decide +kernel)
set_option maxRecDepth 20000 in
theorem gX10_addWindow_X10_wire : GoodIn wsX10_addWindow (wsV RX10 40 RX10 yX10_wire wsX10_wire) := goodIn_app (goodIn_of _ (by decide +kernel)) ggX10_addWindow_X10_wire
theorem dX10_addWindow_0 : decode cX10_addWindow 0 = .ok (.aload_n 0, 1) := by decide +kernel
theorem dX10_addWindow_1 : decode cX10_addWindow 1 = .ok (.iload_n 1, 1) := by decide +kernel
theorem dX10_addWindow_2 : decode cX10_addWindow 2 = .ok (.invokevirtual 44, 3) := by decide +kernel
theorem dX10_addWindow_5 : decode cX10_addWindow 5 = .ok (.astore 6, 2) := by decide +kernel
theorem dX10_addWindow_7 : decode cX10_addWindow 7 = .ok (.aload 6, 2) := by decide +kernel
theorem dX10_addWindow_9 : decode cX10_addWindow 9 = .ok (.getfield 48, 3) := by decide +kernel
theorem dX10_addWindow_12 : decode cX10_addWindow 12 = .ok (.getfield 54, 3) := by decide +kernel
theorem dX10_addWindow_15 : decode cX10_addWindow 15 = .ok (.bipush 7, 2) := by decide +kernel
theorem dX10_addWindow_17 : decode cX10_addWindow 17 = .ok (.if_icmp .eq 57, 3) := by decide +kernel
theorem dX10_addWindow_20 : decode cX10_addWindow 20 = .ok (.iload_n 2, 1) := by decide +kernel
theorem dX10_addWindow_21 : decode cX10_addWindow 21 = .ok (.iconst 1, 1) := by decide +kernel
theorem dX10_addWindow_22 : decode cX10_addWindow 22 = .ok (.sipush 1000, 3) := by decide +kernel
theorem dX10_addWindow_25 : decode cX10_addWindow 25 = .ok (.invokestatic 21, 3) := by decide +kernel
theorem dX10_addWindow_28 : decode cX10_addWindow 28 = .ok (.ifCond .eq 46, 3) := by decide +kernel
theorem dX10_addWindow_31 : decode cX10_addWindow 31 = .ok (.iload_n 3, 1) := by decide +kernel
theorem dX10_addWindow_32 : decode cX10_addWindow 32 = .ok (.iconst 1, 1) := by decide +kernel
theorem dX10_addWindow_33 : decode cX10_addWindow 33 = .ok (.iload_n 2, 1) := by decide +kernel
theorem dX10_addWindow_34 : decode cX10_addWindow 34 = .ok (.invokestatic 21, 3) := by decide +kernel
theorem dX10_addWindow_37 : decode cX10_addWindow 37 = .ok (.ifCond .eq 37, 3) := by decide +kernel
theorem dX10_addWindow_40 : decode cX10_addWindow 40 = .ok (.iload_n 2, 1) := by decide +kernel
theorem dX10_addWindow_41 : decode cX10_addWindow 41 = .ok (.bipush 8, 2) := by decide +kernel
theorem dX10_addWindow_43 : decode cX10_addWindow 43 = .ok (.iload_n 3, 1) := by decide +kernel
theorem dX10_addWindow_44 : decode cX10_addWindow 44 = .ok (.imul, 1) := by decide +kernel
theorem dX10_addWindow_45 : decode cX10_addWindow 45 = .ok (.if_icmp .gt 29, 3) := by decide +kernel
theorem dX10_addWindow_48 : decode cX10_addWindow 48 = .ok (.iload 4, 2) := by decide +kernel
theorem dX10_addWindow_50 : decode cX10_addWindow 50 = .ok (.iconst 0, 1) := by decide +kernel
theorem dX10_addWindow_51 : decode cX10_addWindow 51 = .ok (.iconst 5, 1) := by decide +kernel
theorem dX10_addWindow_52 : decode cX10_addWindow 52 = .ok (.invokestatic 21, 3) := by decide +kernel
theorem dX10_addWindow_55 : decode cX10_addWindow 55 = .ok (.ifCond .eq 19, 3) := by decide +kernel
theorem dX10_addWindow_58 : decode cX10_addWindow 58 = .ok (.iload 5, 2) := by decide +kernel
theorem dX10_addWindow_60 : decode cX10_addWindow 60 = .ok (.iconst 0, 1) := by decide +kernel
theorem dX10_addWindow_61 : decode cX10_addWindow 61 = .ok (.sipush 1000, 3) := by decide +kernel
theorem dX10_addWindow_64 : decode cX10_addWindow 64 = .ok (.invokestatic 21, 3) := by decide +kernel
theorem dX10_addWindow_67 : decode cX10_addWindow 67 = .ok (.ifCond .eq 7, 3) := by decide +kernel
theorem dX10_addWindow_70 : decode cX10_addWindow 70 = .ok (.iconst 1, 1) := by decide +kernel
theorem dX10_addWindow_71 : decode cX10_addWindow 71 = .ok (.goto 4, 3) := by decide +kernel
theorem dX10_addWindow_74 : decode cX10_addWindow 74 = .ok (.iconst 0, 1) := by decide +kernel
theorem dX10_addWindow_75 : decode cX10_addWindow 75 = .ok (.invokestatic 25, 3) := by decide +kernel
theorem dX10_addWindow_78 : decode cX10_addWindow 78 = .ok (.aload_n 0, 1) := by decide +kernel
theorem dX10_addWindow_79 : decode cX10_addWindow 79 = .ok (.invokevirtual 28, 3) := by decide +kernel
theorem dX10_addWindow_82 : decode cX10_addWindow 82 = .ok (.new 31, 3) := by decide +kernel
theorem dX10_addWindow_85 : decode cX10_addWindow 85 = .ok (.dup, 1) := by decide +kernel
theorem dX10_addWindow_86 : decode cX10_addWindow 86 = .ok (.iconst 3, 1) := by decide +kernel
theorem dX10_addWindow_87 : decode cX10_addWindow 87 = .ok (.iload_n 1, 1) := by decide +kernel
theorem dX10_addWindow_88 : decode cX10_addWindow 88 = .ok (.iconst (-1), 1) := by decide +kernel
theorem dX10_addWindow_89 : decode cX10_addWindow 89 = .ok (.invokespecial 33, 3) := by decide +kernel
theorem dX10_addWindow_92 : decode cX10_addWindow 92 = .ok (.astore 7, 2) := by decide +kernel
theorem dX10_addWindow_94 : decode cX10_addWindow 94 = .ok (.aload 7, 2) := by decide +kernel
theorem dX10_addWindow_96 : decode cX10_addWindow 96 = .ok (.iload_n 2, 1) := by decide +kernel
theorem dX10_addWindow_97 : decode cX10_addWindow 97 = .ok (.putfield 63, 3) := by decide +kernel
theorem dX10_addWindow_100 : decode cX10_addWindow 100 = .ok (.aload 7, 2) := by decide +kernel
theorem dX10_addWindow_102 : decode cX10_addWindow 102 = .ok (.iload_n 3, 1) := by decide +kernel
theorem dX10_addWindow_103 : decode cX10_addWindow 103 = .ok (.putfield 66, 3) := by decide +kernel
theorem dX10_addWindow_106 : decode cX10_addWindow 106 = .ok (.aload 7, 2) := by decide +kernel
theorem dX10_addWindow_108 : decode cX10_addWindow 108 = .ok (.iload 4, 2) := by decide +kernel
theorem dX10_addWindow_110 : decode cX10_addWindow 110 = .ok (.putfield 69, 3) := by decide +kernel
theorem dX10_addWindow_113 : decode cX10_addWindow 113 = .ok (.aload 7, 2) := by decide +kernel
theorem dX10_addWindow_115 : decode cX10_addWindow 115 = .ok (.iload 5, 2) := by decide +kernel
theorem dX10_addWindow_117 : decode cX10_addWindow 117 = .ok (.putfield 72, 3) := by decide +kernel
theorem dX10_addWindow_120 : decode cX10_addWindow 120 = .ok (.aload_n 0, 1) := by decide +kernel
theorem dX10_addWindow_121 : decode cX10_addWindow 121 = .ok (.aload 7, 2) := by decide +kernel
theorem dX10_addWindow_123 : decode cX10_addWindow 123 = .ok (.invokevirtual 40, 3) := by decide +kernel
theorem dX10_addWindow_126 : decode cX10_addWindow 126 = .ok (.ireturn, 1) := by decide +kernel
set_option maxRecDepth 20000 in
theorem ggX10_addSession_X10_stageOf : GoodIn wsX10_addSession wsX10_stageOf := goodIn_ca (goodIn_r _ [8, 9, 10, 11, 12, 13, 14, 15, 16, 17, 18, 19, 20, 21, 22, 23, 24, 25, 26, 27, 28, 29, 30, 31, 32, 33, 34, 35, 36, 37, 38, 39, 40, 41, 262, 263, 264, 265, 266, 267, 268, 269, 270, 271, 272, 273, 274, 275, 276, 277] (by decide +kernel) (by decide +kernel)) (goodIn_sub (fun _ h => List.mem_cons_of_mem _ (List.mem_append_left _ (List.mem_append_left _ (List.mem_append_right _ h)))) (by decide +kernel))
set_option maxRecDepth 20000 in
theorem gX10_addSession_X10_stageOf : GoodIn wsX10_addSession (wsV RX10 44 RX10 yX10_stageOf wsX10_stageOf) := goodIn_app (goodIn_of _ (by decide +kernel)) ggX10_addSession_X10_stageOf
set_option maxRecDepth 20000 in
theorem ggX10_addSession_X10_isWithin : GoodIn wsX10_addSession wsX10_isWithin := goodIn_r _ [44] (by decide +kernel) (by decide +kernel)
set_option maxRecDepth 20000 in
theorem gX10_addSession_X10_isWithin : GoodIn wsX10_addSession (va_wsS RX10 21 yX10_isWithin wsX10_isWithin) := goodIn_app (goodIn_of _ (by decide +kernel)) ggX10_addSession_X10_isWithin
set_option maxRecDepth 20000 in
theorem ggX10_addSession_X10_refuseUnless : GoodIn wsX10_addSession wsX10_refuseUnless := goodIn_ca (goodIn_r _ [47, 48, 49] (by decide +kernel) (by decide +kernel)) (goodIn_sub (fun _ h => List.mem_cons_of_mem _ (List.mem_append_left _ (List.mem_append_right _ h))) (by decide +kernel))
set_option maxRecDepth 20000 in
theorem gX10_addSession_X10_refuseUnless : GoodIn wsX10_addSession (va_wsS RX10 25 yX10_refuseUnless wsX10_refuseUnless) := goodIn_app (goodIn_of _ (by decide +kernel)) ggX10_addSession_X10_refuseUnless
set_option maxRecDepth 20000 in
theorem ggX10_addSession_X10_refuseMoreStages : GoodIn wsX10_addSession wsX10_refuseMoreStages := goodIn_ca (goodIn_r _ [53, 54, 55, 56, 11, 57, 58, 59, 15, 60, 17, 19, 20, 21, 22, 23, 24, 262, 263, 264, 265, 266, 267, 268, 269, 270, 271, 272, 273, 274, 275, 276, 277] (by decide +kernel) (by decide +kernel)) (goodIn_sub (fun _ h => List.mem_cons_of_mem _ (List.mem_append_right _ h)) (by decide +kernel))
set_option maxRecDepth 20000 in
theorem gX10_addSession_X10_refuseMoreStages : GoodIn wsX10_addSession (wsV RX10 28 RX10 yX10_refuseMoreStages wsX10_refuseMoreStages) := goodIn_app (goodIn_of _ (by decide +kernel)) ggX10_addSession_X10_refuseMoreStages
set_option maxRecDepth 20000 in
theorem ggX10_addSession_X5_init : GoodIn wsX10_addSession wsX5_init := goodIn_r _ [63, 64, 65, 66, 67, 68, 69, 247, 248, 249, 250, 251, 252, 253, 254, 255, 256, 257, 258, 259, 260, 261] (by decide +kernel) (by decide +kernel)
set_option maxRecDepth 20000 in
theorem gX10_addSession_X5_init : GoodIn wsX10_addSession (wsX5_init) := ggX10_addSession_X5_init
set_option maxRecDepth 20000 in
theorem ggX10_addSession_X10_wire : GoodIn wsX10_addSession wsX10_wire := goodIn_r _ [73, 11, 74, 75, 76, 77, 57, 58, 59, 15, 60, 17, 19, 20, 21, 22, 23, 24, 78, 79, 80, 7, 81, 12, 13, 14, 16, 18, 25, 26, 27, 28, 29, 30, 31, 32, 33, 34, 35, 36, 37, 38, 39, 40, 41, 82, 83, 84, 3, 85, 86, 87, 88, 89, 90, 91, 92, 93, 94, 65, 66, 95, 96, 97, 98, 99, 100, 101, 102, 103, 104, 105, 106, 107, 108, 109, 110, 111, 112, 113, 114, 115, 116, 117, 118, 119, 120, 121, 122, 123, 124, 125, 126, 127, 128, 129, 130, 131, 132, 133, 134, 135, 136, 137, 138, 139, 140, 141, 142, 143, 144, 145, 146, 147, 148, 149, 150, 151, 152, 153, 154, 155, 156, 157, 158, 159, 160, 161, 162, 163, 164, 165, 166, 167, 168, 169, 170, 171, 172, 173, 174, 175, 176, 177, 178, 179, 180, 181, 182, 183, 184, 185, 186, 187, 188, 189, 190, 191, 192, 193, 194, 195, 196, 197, 198, 199, 200, 201, 202, 203, 204, 205, 206, 207, 208, 209, 210, 211, 212, 213, 214, 215, 216, 217, 218, 219, 220, 221, 222, 223, 224, 225, 226, 227, 228, 229, 230, 231, 232, 233, 234, 262, 263, 264, 265, 266, 247, 248, 249, 250, 251, 252, 253, 254, 255, 256, 257, 258, 259, 260, 261, 278, 279, 267, 268, 269, 270, 271, 272, 273, 274, 275, 276, 277, 235, 236, 237, 238, 239, 240, 241, 242, 243, 244, 245, 246, 280, 281, 282, 283, 284, 285, 286, 287, 288, 289, 290, 291, 292, 293, 294, 295, 296, 297] (by decide +kernel) (by decide +kernel)
set_option maxRecDepth 20000 in
theorem gX10_addSession_X10_wire : GoodIn wsX10_addSession (wsV RX10 40 RX10 yX10_wire wsX10_wire) := goodIn_app (goodIn_of _ (by decide +kernel)) ggX10_addSession_X10_wire
theorem dX10_addSession_0 : decode cX10_addSession 0 = .ok (.aload_n 0, 1) := by decide +kernel
theorem dX10_addSession_1 : decode cX10_addSession 1 = .ok (.iload_n 1, 1) := by decide +kernel
theorem dX10_addSession_2 : decode cX10_addSession 2 = .ok (.invokevirtual 44, 3) := by decide +kernel
theorem dX10_addSession_5 : decode cX10_addSession 5 = .ok (.astore 4, 2) := by decide +kernel
theorem dX10_addSession_7 : decode cX10_addSession 7 = .ok (.aload 4, 2) := by decide +kernel
theorem dX10_addSession_9 : decode cX10_addSession 9 = .ok (.getfield 48, 3) := by decide +kernel
theorem dX10_addSession_12 : decode cX10_addSession 12 = .ok (.getfield 54, 3) := by decide +kernel
theorem dX10_addSession_15 : decode cX10_addSession 15 = .ok (.bipush 7, 2) := by decide +kernel
theorem dX10_addSession_17 : decode cX10_addSession 17 = .ok (.if_icmp .eq 27, 3) := by decide +kernel
theorem dX10_addSession_20 : decode cX10_addSession 20 = .ok (.iload_n 2, 1) := by decide +kernel
theorem dX10_addSession_21 : decode cX10_addSession 21 = .ok (.iconst 1, 1) := by decide +kernel
theorem dX10_addSession_22 : decode cX10_addSession 22 = .ok (.sipush 1000, 3) := by decide +kernel
theorem dX10_addSession_25 : decode cX10_addSession 25 = .ok (.invokestatic 21, 3) := by decide +kernel
theorem dX10_addSession_28 : decode cX10_addSession 28 = .ok (.ifCond .eq 16, 3) := by decide +kernel
theorem dX10_addSession_31 : decode cX10_addSession 31 = .ok (.iload_n 3, 1) := by decide +kernel
theorem dX10_addSession_32 : decode cX10_addSession 32 = .ok (.iconst 0, 1) := by decide +kernel
theorem dX10_addSession_33 : decode cX10_addSession 33 = .ok (.iconst 5, 1) := by decide +kernel
theorem dX10_addSession_34 : decode cX10_addSession 34 = .ok (.invokestatic 21, 3) := by decide +kernel
theorem dX10_addSession_37 : decode cX10_addSession 37 = .ok (.ifCond .eq 7, 3) := by decide +kernel
theorem dX10_addSession_40 : decode cX10_addSession 40 = .ok (.iconst 1, 1) := by decide +kernel
theorem dX10_addSession_41 : decode cX10_addSession 41 = .ok (.goto 4, 3) := by decide +kernel
theorem dX10_addSession_44 : decode cX10_addSession 44 = .ok (.iconst 0, 1) := by decide +kernel
theorem dX10_addSession_45 : decode cX10_addSession 45 = .ok (.invokestatic 25, 3) := by decide +kernel
theorem dX10_addSession_48 : decode cX10_addSession 48 = .ok (.aload_n 0, 1) := by decide +kernel
theorem dX10_addSession_49 : decode cX10_addSession 49 = .ok (.invokevirtual 28, 3) := by decide +kernel
theorem dX10_addSession_52 : decode cX10_addSession 52 = .ok (.new 31, 3) := by decide +kernel
theorem dX10_addSession_55 : decode cX10_addSession 55 = .ok (.dup, 1) := by decide +kernel
theorem dX10_addSession_56 : decode cX10_addSession 56 = .ok (.iconst 4, 1) := by decide +kernel
theorem dX10_addSession_57 : decode cX10_addSession 57 = .ok (.iload_n 1, 1) := by decide +kernel
theorem dX10_addSession_58 : decode cX10_addSession 58 = .ok (.iconst (-1), 1) := by decide +kernel
theorem dX10_addSession_59 : decode cX10_addSession 59 = .ok (.invokespecial 33, 3) := by decide +kernel
theorem dX10_addSession_62 : decode cX10_addSession 62 = .ok (.astore 5, 2) := by decide +kernel
theorem dX10_addSession_64 : decode cX10_addSession 64 = .ok (.aload 5, 2) := by decide +kernel
theorem dX10_addSession_66 : decode cX10_addSession 66 = .ok (.iload_n 2, 1) := by decide +kernel
theorem dX10_addSession_67 : decode cX10_addSession 67 = .ok (.putfield 75, 3) := by decide +kernel
theorem dX10_addSession_70 : decode cX10_addSession 70 = .ok (.aload 5, 2) := by decide +kernel
theorem dX10_addSession_72 : decode cX10_addSession 72 = .ok (.iload_n 3, 1) := by decide +kernel
theorem dX10_addSession_73 : decode cX10_addSession 73 = .ok (.putfield 69, 3) := by decide +kernel
theorem dX10_addSession_76 : decode cX10_addSession 76 = .ok (.aload_n 0, 1) := by decide +kernel
theorem dX10_addSession_77 : decode cX10_addSession 77 = .ok (.aload 5, 2) := by decide +kernel
theorem dX10_addSession_79 : decode cX10_addSession 79 = .ok (.invokevirtual 40, 3) := by decide +kernel
theorem dX10_addSession_82 : decode cX10_addSession 82 = .ok (.ireturn, 1) := by decide +kernel
set_option maxRecDepth 20000 in
theorem ggX10_addJoin_X10_stageOf : GoodIn wsX10_addJoin wsX10_stageOf := goodIn_ca (goodIn_r _ [8, 9, 10, 11, 12, 13, 14, 15, 16, 17, 18, 19, 20, 21, 22, 23, 24, 25, 26, 27, 28, 29, 30, 31, 32, 33, 34, 35, 36, 37, 38, 39, 40, 41, 262, 263, 264, 265, 266, 267, 268, 269, 270, 271, 272, 273, 274, 275, 276, 277] (by decide +kernel) (by decide +kernel)) (goodIn_sub (fun _ h => List.mem_cons_of_mem _ (List.mem_append_left _ (List.mem_append_left _ (List.mem_append_right _ h)))) (by decide +kernel))
set_option maxRecDepth 20000 in
theorem gX10_addJoin_X10_stageOf : GoodIn wsX10_addJoin (wsV RX10 44 RX10 yX10_stageOf wsX10_stageOf) := goodIn_app (goodIn_of _ (by decide +kernel)) ggX10_addJoin_X10_stageOf
set_option maxRecDepth 20000 in
theorem ggX10_addJoin_X10_isWithin : GoodIn wsX10_addJoin wsX10_isWithin := goodIn_r _ [44] (by decide +kernel) (by decide +kernel)
set_option maxRecDepth 20000 in
theorem gX10_addJoin_X10_isWithin : GoodIn wsX10_addJoin (va_wsS RX10 21 yX10_isWithin wsX10_isWithin) := goodIn_app (goodIn_of _ (by decide +kernel)) ggX10_addJoin_X10_isWithin
set_option maxRecDepth 20000 in
theorem ggX10_addJoin_X10_refuseUnless : GoodIn wsX10_addJoin wsX10_refuseUnless := goodIn_ca (goodIn_r _ [47, 48, 49] (by decide +kernel) (by decide +kernel)) (goodIn_sub (fun _ h => List.mem_cons_of_mem _ (List.mem_append_left _ (List.mem_append_right _ h))) (by decide +kernel))
set_option maxRecDepth 20000 in
theorem gX10_addJoin_X10_refuseUnless : GoodIn wsX10_addJoin (va_wsS RX10 25 yX10_refuseUnless wsX10_refuseUnless) := goodIn_app (goodIn_of _ (by decide +kernel)) ggX10_addJoin_X10_refuseUnless
set_option maxRecDepth 20000 in
theorem ggX10_addJoin_X10_refuseMoreStages : GoodIn wsX10_addJoin wsX10_refuseMoreStages := goodIn_ca (goodIn_r _ [53, 54, 55, 56, 11, 57, 58, 59, 15, 60, 17, 19, 20, 21, 22, 23, 24, 262, 263, 264, 265, 266, 267, 268, 269, 270, 271, 272, 273, 274, 275, 276, 277] (by decide +kernel) (by decide +kernel)) (goodIn_sub (fun _ h => List.mem_cons_of_mem _ (List.mem_append_right _ h)) (by decide +kernel))
set_option maxRecDepth 20000 in
theorem gX10_addJoin_X10_refuseMoreStages : GoodIn wsX10_addJoin (wsV RX10 28 RX10 yX10_refuseMoreStages wsX10_refuseMoreStages) := goodIn_app (goodIn_of _ (by decide +kernel)) ggX10_addJoin_X10_refuseMoreStages
set_option maxRecDepth 20000 in
theorem ggX10_addJoin_X5_init : GoodIn wsX10_addJoin wsX5_init := goodIn_r _ [63, 64, 65, 66, 67, 68, 69, 247, 248, 249, 250, 251, 252, 253, 254, 255, 256, 257, 258, 259, 260, 261] (by decide +kernel) (by decide +kernel)
set_option maxRecDepth 20000 in
theorem gX10_addJoin_X5_init : GoodIn wsX10_addJoin (wsX5_init) := ggX10_addJoin_X5_init
set_option maxRecDepth 20000 in
theorem ggX10_addJoin_X10_wire : GoodIn wsX10_addJoin wsX10_wire := goodIn_r _ [73, 11, 74, 75, 76, 77, 57, 58, 59, 15, 60, 17, 19, 20, 21, 22, 23, 24, 78, 79, 80, 7, 81, 12, 13, 14, 16, 18, 25, 26, 27, 28, 29, 30, 31, 32, 33, 34, 35, 36, 37, 38, 39, 40, 41, 82, 83, 84, 3, 85, 86, 87, 88, 89, 90, 91, 92, 93, 94, 65, 66, 95, 96, 97, 98, 99, 100, 101, 102, 103, 104, 105, 106, 107, 108, 109, 110, 111, 112, 113, 114, 115, 116, 117, 118, 119, 120, 121, 122, 123, 124, 125, 126, 127, 128, 129, 130, 131, 132, 133, 134, 135, 136, 137, 138, 139, 140, 141, 142, 143, 144, 145, 146, 147, 148, 149, 150, 151, 152, 153, 154, 155, 156, 157, 158, 159, 160, 161, 162, 163, 164, 165, 166, 167, 168, 169, 170, 171, 172, 173, 174, 175, 176, 177, 178, 179, 180, 181, 182, 183, 184, 185, 186, 187, 188, 189, 190, 191, 192, 193, 194, 195, 196, 197, 198, 199, 200, 201, 202, 203, 204, 205, 206, 207, 208, 209, 210, 211, 212, 213, 214, 215, 216, 217, 218, 219, 220, 221, 222, 223, 224, 225, 226, 227, 228, 229, 230, 231, 232, 233, 234, 262, 263, 264, 265, 266, 247, 248, 249, 250, 251, 252, 253, 254, 255, 256, 257, 258, 259, 260, 261, 278, 279, 267, 268, 269, 270, 271, 272, 273, 274, 275, 276, 277, 235, 236, 237, 238, 239, 240, 241, 242, 243, 244, 245, 246, 280, 281, 282, 283, 284, 285, 286, 287, 288, 289, 290, 291, 292, 293, 294, 295, 296, 297] (by decide +kernel) (by decide +kernel)
set_option maxRecDepth 20000 in
theorem gX10_addJoin_X10_wire : GoodIn wsX10_addJoin (wsV RX10 40 RX10 yX10_wire wsX10_wire) := goodIn_app (goodIn_of _ (by decide +kernel)) ggX10_addJoin_X10_wire
theorem dX10_addJoin_0 : decode cX10_addJoin 0 = .ok (.aload_n 0, 1) := by decide +kernel
theorem dX10_addJoin_1 : decode cX10_addJoin 1 = .ok (.iload_n 1, 1) := by decide +kernel
theorem dX10_addJoin_2 : decode cX10_addJoin 2 = .ok (.invokevirtual 44, 3) := by decide +kernel
theorem dX10_addJoin_5 : decode cX10_addJoin 5 = .ok (.astore 6, 2) := by decide +kernel
theorem dX10_addJoin_7 : decode cX10_addJoin 7 = .ok (.aload_n 0, 1) := by decide +kernel
theorem dX10_addJoin_8 : decode cX10_addJoin 8 = .ok (.iload_n 2, 1) := by decide +kernel
theorem dX10_addJoin_9 : decode cX10_addJoin 9 = .ok (.invokevirtual 44, 3) := by decide +kernel
theorem dX10_addJoin_12 : decode cX10_addJoin 12 = .ok (.astore 7, 2) := by decide +kernel
theorem dX10_addJoin_14 : decode cX10_addJoin 14 = .ok (.aload 6, 2) := by decide +kernel
theorem dX10_addJoin_16 : decode cX10_addJoin 16 = .ok (.getfield 48, 3) := by decide +kernel
theorem dX10_addJoin_19 : decode cX10_addJoin 19 = .ok (.getfield 54, 3) := by decide +kernel
theorem dX10_addJoin_22 : decode cX10_addJoin 22 = .ok (.bipush 7, 2) := by decide +kernel
theorem dX10_addJoin_24 : decode cX10_addJoin 24 = .ok (.if_icmp .eq 58, 3) := by decide +kernel
theorem dX10_addJoin_27 : decode cX10_addJoin 27 = .ok (.aload 7, 2) := by decide +kernel
theorem dX10_addJoin_29 : decode cX10_addJoin 29 = .ok (.getfield 48, 3) := by decide +kernel
theorem dX10_addJoin_32 : decode cX10_addJoin 32 = .ok (.getfield 54, 3) := by decide +kernel
theorem dX10_addJoin_35 : decode cX10_addJoin 35 = .ok (.bipush 7, 2) := by decide +kernel
theorem dX10_addJoin_37 : decode cX10_addJoin 37 = .ok (.if_icmp .eq 45, 3) := by decide +kernel
theorem dX10_addJoin_40 : decode cX10_addJoin 40 = .ok (.iload_n 1, 1) := by decide +kernel
theorem dX10_addJoin_41 : decode cX10_addJoin 41 = .ok (.iload_n 2, 1) := by decide +kernel
theorem dX10_addJoin_42 : decode cX10_addJoin 42 = .ok (.if_icmp .eq 40, 3) := by decide +kernel
theorem dX10_addJoin_45 : decode cX10_addJoin 45 = .ok (.iload_n 3, 1) := by decide +kernel
theorem dX10_addJoin_46 : decode cX10_addJoin 46 = .ok (.iconst 0, 1) := by decide +kernel
theorem dX10_addJoin_47 : decode cX10_addJoin 47 = .ok (.sipush 1000, 3) := by decide +kernel
theorem dX10_addJoin_50 : decode cX10_addJoin 50 = .ok (.invokestatic 21, 3) := by decide +kernel
theorem dX10_addJoin_53 : decode cX10_addJoin 53 = .ok (.ifCond .eq 29, 3) := by decide +kernel
theorem dX10_addJoin_56 : decode cX10_addJoin 56 = .ok (.iload 4, 2) := by decide +kernel
theorem dX10_addJoin_58 : decode cX10_addJoin 58 = .ok (.iconst 0, 1) := by decide +kernel
theorem dX10_addJoin_59 : decode cX10_addJoin 59 = .ok (.sipush 1000, 3) := by decide +kernel
theorem dX10_addJoin_62 : decode cX10_addJoin 62 = .ok (.invokestatic 21, 3) := by decide +kernel
theorem dX10_addJoin_65 : decode cX10_addJoin 65 = .ok (.ifCond .eq 17, 3) := by decide +kernel
theorem dX10_addJoin_68 : decode cX10_addJoin 68 = .ok (.iload 5, 2) := by decide +kernel
theorem dX10_addJoin_70 : decode cX10_addJoin 70 = .ok (.iconst 0, 1) := by decide +kernel
theorem dX10_addJoin_71 : decode cX10_addJoin 71 = .ok (.iconst 3, 1) := by decide +kernel
theorem dX10_addJoin_72 : decode cX10_addJoin 72 = .ok (.invokestatic 21, 3) := by decide +kernel
theorem dX10_addJoin_75 : decode cX10_addJoin 75 = .ok (.ifCond .eq 7, 3) := by decide +kernel
theorem dX10_addJoin_78 : decode cX10_addJoin 78 = .ok (.iconst 1, 1) := by decide +kernel
theorem dX10_addJoin_79 : decode cX10_addJoin 79 = .ok (.goto 4, 3) := by decide +kernel
theorem dX10_addJoin_82 : decode cX10_addJoin 82 = .ok (.iconst 0, 1) := by decide +kernel
theorem dX10_addJoin_83 : decode cX10_addJoin 83 = .ok (.invokestatic 25, 3) := by decide +kernel
theorem dX10_addJoin_86 : decode cX10_addJoin 86 = .ok (.aload_n 0, 1) := by decide +kernel
theorem dX10_addJoin_87 : decode cX10_addJoin 87 = .ok (.invokevirtual 28, 3) := by decide +kernel
theorem dX10_addJoin_90 : decode cX10_addJoin 90 = .ok (.new 31, 3) := by decide +kernel
theorem dX10_addJoin_93 : decode cX10_addJoin 93 = .ok (.dup, 1) := by decide +kernel
theorem dX10_addJoin_94 : decode cX10_addJoin 94 = .ok (.iconst 5, 1) := by decide +kernel
theorem dX10_addJoin_95 : decode cX10_addJoin 95 = .ok (.iload_n 1, 1) := by decide +kernel
theorem dX10_addJoin_96 : decode cX10_addJoin 96 = .ok (.iload_n 2, 1) := by decide +kernel
theorem dX10_addJoin_97 : decode cX10_addJoin 97 = .ok (.invokespecial 33, 3) := by decide +kernel
theorem dX10_addJoin_100 : decode cX10_addJoin 100 = .ok (.astore 8, 2) := by decide +kernel
theorem dX10_addJoin_102 : decode cX10_addJoin 102 = .ok (.aload 8, 2) := by decide +kernel
theorem dX10_addJoin_104 : decode cX10_addJoin 104 = .ok (.iload_n 3, 1) := by decide +kernel
theorem dX10_addJoin_105 : decode cX10_addJoin 105 = .ok (.putfield 78, 3) := by decide +kernel
theorem dX10_addJoin_108 : decode cX10_addJoin 108 = .ok (.aload 8, 2) := by decide +kernel
theorem dX10_addJoin_110 : decode cX10_addJoin 110 = .ok (.iload 4, 2) := by decide +kernel
theorem dX10_addJoin_112 : decode cX10_addJoin 112 = .ok (.putfield 81, 3) := by decide +kernel
theorem dX10_addJoin_115 : decode cX10_addJoin 115 = .ok (.aload 8, 2) := by decide +kernel
theorem dX10_addJoin_117 : decode cX10_addJoin 117 = .ok (.iload 5, 2) := by decide +kernel
theorem dX10_addJoin_119 : decode cX10_addJoin 119 = .ok (.putfield 57, 3) := by decide +kernel
theorem dX10_addJoin_122 : decode cX10_addJoin 122 = .ok (.aload_n 0, 1) := by decide +kernel
theorem dX10_addJoin_123 : decode cX10_addJoin 123 = .ok (.aload 8, 2) := by decide +kernel
theorem dX10_addJoin_125 : decode cX10_addJoin 125 = .ok (.invokevirtual 40, 3) := by decide +kernel
theorem dX10_addJoin_128 : decode cX10_addJoin 128 = .ok (.ireturn, 1) := by decide +kernel
set_option maxRecDepth 20000 in
theorem ggX10_addMerge_X10_stageOf : GoodIn wsX10_addMerge wsX10_stageOf := goodIn_ca (goodIn_r _ [8, 9, 10, 11, 12, 13, 14, 15, 16, 17, 18, 19, 20, 21, 22, 23, 24, 25, 26, 27, 28, 29, 30, 31, 32, 33, 34, 35, 36, 37, 38, 39, 40, 41, 259, 260, 261, 262, 263, 264, 265, 266, 267, 268, 269, 270, 271, 272, 273, 274] (by decide +kernel) (by decide +kernel)) (goodIn_sub (fun _ h => List.mem_cons_of_mem _ (List.mem_append_left _ (List.mem_append_left _ (List.mem_append_right _ h)))) (by decide +kernel))
set_option maxRecDepth 20000 in
theorem gX10_addMerge_X10_stageOf : GoodIn wsX10_addMerge (wsV RX10 44 RX10 yX10_stageOf wsX10_stageOf) := goodIn_app (goodIn_of _ (by decide +kernel)) ggX10_addMerge_X10_stageOf
set_option maxRecDepth 20000 in
theorem ggX10_addMerge_X10_refuseUnless : GoodIn wsX10_addMerge wsX10_refuseUnless := goodIn_ca (goodIn_r _ [44, 45, 46] (by decide +kernel) (by decide +kernel)) (goodIn_sub (fun _ h => List.mem_cons_of_mem _ (List.mem_append_left _ (List.mem_append_right _ h))) (by decide +kernel))
set_option maxRecDepth 20000 in
theorem gX10_addMerge_X10_refuseUnless : GoodIn wsX10_addMerge (va_wsS RX10 25 yX10_refuseUnless wsX10_refuseUnless) := goodIn_app (goodIn_of _ (by decide +kernel)) ggX10_addMerge_X10_refuseUnless
set_option maxRecDepth 20000 in
theorem ggX10_addMerge_X10_refuseMoreStages : GoodIn wsX10_addMerge wsX10_refuseMoreStages := goodIn_ca (goodIn_r _ [50, 51, 52, 53, 11, 54, 55, 56, 15, 57, 17, 19, 20, 21, 22, 23, 24, 259, 260, 261, 262, 263, 264, 265, 266, 267, 268, 269, 270, 271, 272, 273, 274] (by decide +kernel) (by decide +kernel)) (goodIn_sub (fun _ h => List.mem_cons_of_mem _ (List.mem_append_right _ h)) (by decide +kernel))
set_option maxRecDepth 20000 in
theorem gX10_addMerge_X10_refuseMoreStages : GoodIn wsX10_addMerge (wsV RX10 28 RX10 yX10_refuseMoreStages wsX10_refuseMoreStages) := goodIn_app (goodIn_of _ (by decide +kernel)) ggX10_addMerge_X10_refuseMoreStages
set_option maxRecDepth 20000 in
theorem ggX10_addMerge_X5_init : GoodIn wsX10_addMerge wsX5_init := goodIn_r _ [60, 61, 62, 63, 64, 65, 66, 244, 245, 246, 247, 248, 249, 250, 251, 252, 253, 254, 255, 256, 257, 258] (by decide +kernel) (by decide +kernel)
set_option maxRecDepth 20000 in
theorem gX10_addMerge_X5_init : GoodIn wsX10_addMerge (wsX5_init) := ggX10_addMerge_X5_init
set_option maxRecDepth 20000 in
theorem ggX10_addMerge_X10_wire : GoodIn wsX10_addMerge wsX10_wire := goodIn_r _ [70, 11, 71, 72, 73, 74, 54, 55, 56, 15, 57, 17, 19, 20, 21, 22, 23, 24, 75, 76, 77, 7, 78, 12, 13, 14, 16, 18, 25, 26, 27, 28, 29, 30, 31, 32, 33, 34, 35, 36, 37, 38, 39, 40, 41, 79, 80, 81, 3, 82, 83, 84, 85, 86, 87, 88, 89, 90, 91, 62, 63, 92, 93, 94, 95, 96, 97, 98, 99, 100, 101, 102, 103, 104, 105, 106, 107, 108, 109, 110, 111, 112, 113, 114, 115, 116, 117, 118, 119, 120, 121, 122, 123, 124, 125, 126, 127, 128, 129, 130, 131, 132, 133, 134, 135, 136, 137, 138, 139, 140, 141, 142, 143, 144, 145, 146, 147, 148, 149, 150, 151, 152, 153, 154, 155, 156, 157, 158, 159, 160, 161, 162, 163, 164, 165, 166, 167, 168, 169, 170, 171, 172, 173, 174, 175, 176, 177, 178, 179, 180, 181, 182, 183, 184, 185, 186, 187, 188, 189, 190, 191, 192, 193, 194, 195, 196, 197, 198, 199, 200, 201, 202, 203, 204, 205, 206, 207, 208, 209, 210, 211, 212, 213, 214, 215, 216, 217, 218, 219, 220, 221, 222, 223, 224, 225, 226, 227, 228, 229, 230, 231, 259, 260, 261, 262, 263, 244, 245, 246, 247, 248, 249, 250, 251, 252, 253, 254, 255, 256, 257, 258, 275, 276, 264, 265, 266, 267, 268, 269, 270, 271, 272, 273, 274, 232, 233, 234, 235, 236, 237, 238, 239, 240, 241, 242, 243, 277, 278, 279, 280, 281, 282, 283, 284, 285, 286, 287, 288, 289, 290, 291, 292, 293, 294] (by decide +kernel) (by decide +kernel)
set_option maxRecDepth 20000 in
theorem gX10_addMerge_X10_wire : GoodIn wsX10_addMerge (wsV RX10 40 RX10 yX10_wire wsX10_wire) := goodIn_app (goodIn_of _ (by decide +kernel)) ggX10_addMerge_X10_wire
theorem dX10_addMerge_0 : decode cX10_addMerge 0 = .ok (.aload_n 0, 1) := by decide +kernel
theorem dX10_addMerge_1 : decode cX10_addMerge 1 = .ok (.iload_n 1, 1) := by decide +kernel
theorem dX10_addMerge_2 : decode cX10_addMerge 2 = .ok (.invokevirtual 44, 3) := by decide +kernel
theorem dX10_addMerge_5 : decode cX10_addMerge 5 = .ok (.astore_n 3, 1) := by decide +kernel
theorem dX10_addMerge_6 : decode cX10_addMerge 6 = .ok (.aload_n 0, 1) := by decide +kernel
theorem dX10_addMerge_7 : decode cX10_addMerge 7 = .ok (.iload_n 2, 1) := by decide +kernel
theorem dX10_addMerge_8 : decode cX10_addMerge 8 = .ok (.invokevirtual 44, 3) := by decide +kernel
theorem dX10_addMerge_11 : decode cX10_addMerge 11 = .ok (.astore 4, 2) := by decide +kernel
theorem dX10_addMerge_13 : decode cX10_addMerge 13 = .ok (.aload_n 3, 1) := by decide +kernel
theorem dX10_addMerge_14 : decode cX10_addMerge 14 = .ok (.getfield 48, 3) := by decide +kernel
theorem dX10_addMerge_17 : decode cX10_addMerge 17 = .ok (.getfield 54, 3) := by decide +kernel
theorem dX10_addMerge_20 : decode cX10_addMerge 20 = .ok (.bipush 7, 2) := by decide +kernel
theorem dX10_addMerge_22 : decode cX10_addMerge 22 = .ok (.if_icmp .eq 25, 3) := by decide +kernel
theorem dX10_addMerge_25 : decode cX10_addMerge 25 = .ok (.aload 4, 2) := by decide +kernel
theorem dX10_addMerge_27 : decode cX10_addMerge 27 = .ok (.getfield 48, 3) := by decide +kernel
theorem dX10_addMerge_30 : decode cX10_addMerge 30 = .ok (.getfield 54, 3) := by decide +kernel
theorem dX10_addMerge_33 : decode cX10_addMerge 33 = .ok (.bipush 7, 2) := by decide +kernel
theorem dX10_addMerge_35 : decode cX10_addMerge 35 = .ok (.if_icmp .eq 12, 3) := by decide +kernel
theorem dX10_addMerge_38 : decode cX10_addMerge 38 = .ok (.iload_n 1, 1) := by decide +kernel
theorem dX10_addMerge_39 : decode cX10_addMerge 39 = .ok (.iload_n 2, 1) := by decide +kernel
theorem dX10_addMerge_40 : decode cX10_addMerge 40 = .ok (.if_icmp .eq 7, 3) := by decide +kernel
theorem dX10_addMerge_43 : decode cX10_addMerge 43 = .ok (.iconst 1, 1) := by decide +kernel
theorem dX10_addMerge_44 : decode cX10_addMerge 44 = .ok (.goto 4, 3) := by decide +kernel
theorem dX10_addMerge_47 : decode cX10_addMerge 47 = .ok (.iconst 0, 1) := by decide +kernel
theorem dX10_addMerge_48 : decode cX10_addMerge 48 = .ok (.invokestatic 25, 3) := by decide +kernel
theorem dX10_addMerge_51 : decode cX10_addMerge 51 = .ok (.aload_n 0, 1) := by decide +kernel
theorem dX10_addMerge_52 : decode cX10_addMerge 52 = .ok (.invokevirtual 28, 3) := by decide +kernel
theorem dX10_addMerge_55 : decode cX10_addMerge 55 = .ok (.aload_n 0, 1) := by decide +kernel
theorem dX10_addMerge_56 : decode cX10_addMerge 56 = .ok (.new 31, 3) := by decide +kernel
theorem dX10_addMerge_59 : decode cX10_addMerge 59 = .ok (.dup, 1) := by decide +kernel
theorem dX10_addMerge_60 : decode cX10_addMerge 60 = .ok (.bipush 6, 2) := by decide +kernel
theorem dX10_addMerge_62 : decode cX10_addMerge 62 = .ok (.iload_n 1, 1) := by decide +kernel
theorem dX10_addMerge_63 : decode cX10_addMerge 63 = .ok (.iload_n 2, 1) := by decide +kernel
theorem dX10_addMerge_64 : decode cX10_addMerge 64 = .ok (.invokespecial 33, 3) := by decide +kernel
theorem dX10_addMerge_67 : decode cX10_addMerge 67 = .ok (.invokevirtual 40, 3) := by decide +kernel
theorem dX10_addMerge_70 : decode cX10_addMerge 70 = .ok (.ireturn, 1) := by decide +kernel
set_option maxRecDepth 20000 in
theorem ggX10_addSink_X10_stageOf : GoodIn wsX10_addSink wsX10_stageOf := goodIn_ca (goodIn_r _ [8, 9, 10, 11, 12, 13, 14, 15, 16, 17, 18, 19, 20, 21, 22, 23, 24, 25, 26, 27, 28, 29, 30, 31, 32, 33, 34, 35, 36, 37, 38, 39, 40, 41, 259, 260, 261, 262, 263, 264, 265, 266, 267, 268, 269, 270, 271, 272, 273, 274] (by decide +kernel) (by decide +kernel)) (goodIn_sub (fun _ h => List.mem_cons_of_mem _ (List.mem_append_left _ (List.mem_append_left _ (List.mem_append_right _ h)))) (by decide +kernel))
set_option maxRecDepth 20000 in
theorem gX10_addSink_X10_stageOf : GoodIn wsX10_addSink (wsV RX10 44 RX10 yX10_stageOf wsX10_stageOf) := goodIn_app (goodIn_of _ (by decide +kernel)) ggX10_addSink_X10_stageOf
set_option maxRecDepth 20000 in
theorem ggX10_addSink_X10_refuseUnless : GoodIn wsX10_addSink wsX10_refuseUnless := goodIn_ca (goodIn_r _ [44, 45, 46] (by decide +kernel) (by decide +kernel)) (goodIn_sub (fun _ h => List.mem_cons_of_mem _ (List.mem_append_left _ (List.mem_append_right _ h))) (by decide +kernel))
set_option maxRecDepth 20000 in
theorem gX10_addSink_X10_refuseUnless : GoodIn wsX10_addSink (va_wsS RX10 25 yX10_refuseUnless wsX10_refuseUnless) := goodIn_app (goodIn_of _ (by decide +kernel)) ggX10_addSink_X10_refuseUnless
set_option maxRecDepth 20000 in
theorem ggX10_addSink_X10_refuseMoreStages : GoodIn wsX10_addSink wsX10_refuseMoreStages := goodIn_ca (goodIn_r _ [50, 51, 52, 53, 11, 54, 55, 56, 15, 57, 17, 19, 20, 21, 22, 23, 24, 259, 260, 261, 262, 263, 264, 265, 266, 267, 268, 269, 270, 271, 272, 273, 274] (by decide +kernel) (by decide +kernel)) (goodIn_sub (fun _ h => List.mem_cons_of_mem _ (List.mem_append_right _ h)) (by decide +kernel))
set_option maxRecDepth 20000 in
theorem gX10_addSink_X10_refuseMoreStages : GoodIn wsX10_addSink (wsV RX10 28 RX10 yX10_refuseMoreStages wsX10_refuseMoreStages) := goodIn_app (goodIn_of _ (by decide +kernel)) ggX10_addSink_X10_refuseMoreStages
set_option maxRecDepth 20000 in
theorem ggX10_addSink_X5_init : GoodIn wsX10_addSink wsX5_init := goodIn_r _ [60, 61, 62, 63, 64, 65, 66, 244, 245, 246, 247, 248, 249, 250, 251, 252, 253, 254, 255, 256, 257, 258] (by decide +kernel) (by decide +kernel)
set_option maxRecDepth 20000 in
theorem gX10_addSink_X5_init : GoodIn wsX10_addSink (wsX5_init) := ggX10_addSink_X5_init
set_option maxRecDepth 20000 in
theorem ggX10_addSink_X10_wire : GoodIn wsX10_addSink wsX10_wire := goodIn_r _ [70, 11, 71, 72, 73, 74, 54, 55, 56, 15, 57, 17, 19, 20, 21, 22, 23, 24, 75, 76, 77, 7, 78, 12, 13, 14, 16, 18, 25, 26, 27, 28, 29, 30, 31, 32, 33, 34, 35, 36, 37, 38, 39, 40, 41, 79, 80, 81, 3, 82, 83, 84, 85, 86, 87, 88, 89, 90, 91, 62, 63, 92, 93, 94, 95, 96, 97, 98, 99, 100, 101, 102, 103, 104, 105, 106, 107, 108, 109, 110, 111, 112, 113, 114, 115, 116, 117, 118, 119, 120, 121, 122, 123, 124, 125, 126, 127, 128, 129, 130, 131, 132, 133, 134, 135, 136, 137, 138, 139, 140, 141, 142, 143, 144, 145, 146, 147, 148, 149, 150, 151, 152, 153, 154, 155, 156, 157, 158, 159, 160, 161, 162, 163, 164, 165, 166, 167, 168, 169, 170, 171, 172, 173, 174, 175, 176, 177, 178, 179, 180, 181, 182, 183, 184, 185, 186, 187, 188, 189, 190, 191, 192, 193, 194, 195, 196, 197, 198, 199, 200, 201, 202, 203, 204, 205, 206, 207, 208, 209, 210, 211, 212, 213, 214, 215, 216, 217, 218, 219, 220, 221, 222, 223, 224, 225, 226, 227, 228, 229, 230, 231, 259, 260, 261, 262, 263, 244, 245, 246, 247, 248, 249, 250, 251, 252, 253, 254, 255, 256, 257, 258, 275, 276, 264, 265, 266, 267, 268, 269, 270, 271, 272, 273, 274, 232, 233, 234, 235, 236, 237, 238, 239, 240, 241, 242, 243, 277, 278, 279, 280, 281, 282, 283, 284, 285, 286, 287, 288, 289, 290, 291, 292, 293, 294] (by decide +kernel) (by decide +kernel)
set_option maxRecDepth 20000 in
theorem gX10_addSink_X10_wire : GoodIn wsX10_addSink (wsV RX10 40 RX10 yX10_wire wsX10_wire) := goodIn_app (goodIn_of _ (by decide +kernel)) ggX10_addSink_X10_wire
theorem dX10_addSink_0 : decode cX10_addSink 0 = .ok (.aload_n 0, 1) := by decide +kernel
theorem dX10_addSink_1 : decode cX10_addSink 1 = .ok (.iload_n 1, 1) := by decide +kernel
theorem dX10_addSink_2 : decode cX10_addSink 2 = .ok (.invokevirtual 44, 3) := by decide +kernel
theorem dX10_addSink_5 : decode cX10_addSink 5 = .ok (.astore_n 2, 1) := by decide +kernel
theorem dX10_addSink_6 : decode cX10_addSink 6 = .ok (.aload_n 2, 1) := by decide +kernel
theorem dX10_addSink_7 : decode cX10_addSink 7 = .ok (.getfield 48, 3) := by decide +kernel
theorem dX10_addSink_10 : decode cX10_addSink 10 = .ok (.getfield 54, 3) := by decide +kernel
theorem dX10_addSink_13 : decode cX10_addSink 13 = .ok (.bipush 7, 2) := by decide +kernel
theorem dX10_addSink_15 : decode cX10_addSink 15 = .ok (.if_icmp .eq 7, 3) := by decide +kernel
theorem dX10_addSink_18 : decode cX10_addSink 18 = .ok (.iconst 1, 1) := by decide +kernel
theorem dX10_addSink_19 : decode cX10_addSink 19 = .ok (.goto 4, 3) := by decide +kernel
theorem dX10_addSink_22 : decode cX10_addSink 22 = .ok (.iconst 0, 1) := by decide +kernel
theorem dX10_addSink_23 : decode cX10_addSink 23 = .ok (.invokestatic 25, 3) := by decide +kernel
theorem dX10_addSink_26 : decode cX10_addSink 26 = .ok (.aload_n 0, 1) := by decide +kernel
theorem dX10_addSink_27 : decode cX10_addSink 27 = .ok (.invokevirtual 28, 3) := by decide +kernel
theorem dX10_addSink_30 : decode cX10_addSink 30 = .ok (.aload_n 0, 1) := by decide +kernel
theorem dX10_addSink_31 : decode cX10_addSink 31 = .ok (.new 31, 3) := by decide +kernel
theorem dX10_addSink_34 : decode cX10_addSink 34 = .ok (.dup, 1) := by decide +kernel
theorem dX10_addSink_35 : decode cX10_addSink 35 = .ok (.bipush 7, 2) := by decide +kernel
theorem dX10_addSink_37 : decode cX10_addSink 37 = .ok (.iload_n 1, 1) := by decide +kernel
theorem dX10_addSink_38 : decode cX10_addSink 38 = .ok (.iconst (-1), 1) := by decide +kernel
theorem dX10_addSink_39 : decode cX10_addSink 39 = .ok (.invokespecial 33, 3) := by decide +kernel
theorem dX10_addSink_42 : decode cX10_addSink 42 = .ok (.invokevirtual 40, 3) := by decide +kernel
theorem dX10_addSink_45 : decode cX10_addSink 45 = .ok (.ireturn, 1) := by decide +kernel
set_option maxRecDepth 20000 in
theorem ggX10_start_X2_size : GoodIn wsX10_start wsX2_size := goodIn_r _ [9, 10, 11, 12, 13, 14, 15, 16, 22, 23, 24, 25, 26, 27, 28, 29, 30, 31, 32] (by decide +kernel) (by decide +kernel)
set_option maxRecDepth 20000 in
theorem gX10_start_X2_size : GoodIn wsX10_start (wsV RX10 88 RX2 yX2_size wsX2_size) := goodIn_app (goodIn_of _ (by decide +kernel)) ggX10_start_X2_size
theorem dX10_start_0 : decode cX10_start 0 = .ok (.aload_n 0, 1) := by decide +kernel
theorem dX10_start_1 : decode cX10_start 1 = .ok (.getfield 84, 3) := by decide +kernel
theorem dX10_start_4 : decode cX10_start 4 = .ok (.ifCond .ne 13, 3) := by decide +kernel
theorem dX10_start_7 : decode cX10_start 7 = .ok (.aload_n 0, 1) := by decide +kernel
theorem dX10_start_8 : decode cX10_start 8 = .ok (.getfield 12, 3) := by decide +kernel
theorem dX10_start_11 : decode cX10_start 11 = .ok (.invokevirtual 88, 3) := by decide +kernel
theorem dX10_start_14 : decode cX10_start 14 = .ok (.ifCond .ne 11, 3) := by decide +kernel
theorem dX10_start_17 : decode cX10_start 17 = .ok (.new 91, 3) := by decide +kernel
theorem dX10_start_20 : decode cX10_start 20 = .ok (.dup, 1) := by decide +kernel
theorem dX10_start_21 : decode cX10_start 21 = .ok (.invokespecial 93, 3) := by decide +kernel
theorem dX10_start_24 : decode cX10_start 24 = .ok (.athrow, 1) := by decide +kernel
theorem dX10_start_25 : decode cX10_start 25 = .ok (.aload_n 0, 1) := by decide +kernel
theorem dX10_start_26 : decode cX10_start 26 = .ok (.iconst 1, 1) := by decide +kernel
theorem dX10_start_27 : decode cX10_start 27 = .ok (.putfield 84, 3) := by decide +kernel
theorem dX10_start_30 : decode cX10_start 30 = .ok (.aload_n 0, 1) := by decide +kernel
theorem dX10_start_31 : decode cX10_start 31 = .ok (.getfield 12, 3) := by decide +kernel
theorem dX10_start_34 : decode cX10_start 34 = .ok (.invokevirtual 88, 3) := by decide +kernel
theorem dX10_start_37 : decode cX10_start 37 = .ok (.ireturn, 1) := by decide +kernel
set_option maxRecDepth 20000 in
theorem ggX10_setCapacity_X10_isWithin : GoodIn wsX10_setCapacity wsX10_isWithin := goodIn_r _ [5] (by decide +kernel) (by decide +kernel)
set_option maxRecDepth 20000 in
theorem gX10_setCapacity_X10_isWithin : GoodIn wsX10_setCapacity (va_wsS RX10 21 yX10_isWithin wsX10_isWithin) := goodIn_app (goodIn_of _ (by decide +kernel)) ggX10_setCapacity_X10_isWithin
set_option maxRecDepth 20000 in
theorem ggX10_setCapacity_X10_refuseUnless : GoodIn wsX10_setCapacity wsX10_refuseUnless := goodIn_ca (goodIn_r _ [8, 9, 10] (by decide +kernel) (by decide +kernel)) (goodIn_sub (fun _ h => List.mem_cons_of_mem _ (List.mem_append_right _ h)) (by decide +kernel))
set_option maxRecDepth 20000 in
theorem gX10_setCapacity_X10_refuseUnless : GoodIn wsX10_setCapacity (va_wsS RX10 25 yX10_refuseUnless wsX10_refuseUnless) := goodIn_app (goodIn_of _ (by decide +kernel)) ggX10_setCapacity_X10_refuseUnless
theorem dX10_setCapacity_0 : decode cX10_setCapacity 0 = .ok (.iload_n 1, 1) := by decide +kernel
theorem dX10_setCapacity_1 : decode cX10_setCapacity 1 = .ok (.iconst 1, 1) := by decide +kernel
theorem dX10_setCapacity_2 : decode cX10_setCapacity 2 = .ok (.bipush 20, 2) := by decide +kernel
theorem dX10_setCapacity_4 : decode cX10_setCapacity 4 = .ok (.invokestatic 21, 3) := by decide +kernel
theorem dX10_setCapacity_7 : decode cX10_setCapacity 7 = .ok (.invokestatic 25, 3) := by decide +kernel
theorem dX10_setCapacity_10 : decode cX10_setCapacity 10 = .ok (.aload_n 0, 1) := by decide +kernel
theorem dX10_setCapacity_11 : decode cX10_setCapacity 11 = .ok (.getfield 12, 3) := by decide +kernel
theorem dX10_setCapacity_14 : decode cX10_setCapacity 14 = .ok (.getfield 94, 3) := by decide +kernel
theorem dX10_setCapacity_17 : decode cX10_setCapacity 17 = .ok (.istore_n 2, 1) := by decide +kernel
theorem dX10_setCapacity_18 : decode cX10_setCapacity 18 = .ok (.aload_n 0, 1) := by decide +kernel
theorem dX10_setCapacity_19 : decode cX10_setCapacity 19 = .ok (.getfield 12, 3) := by decide +kernel
theorem dX10_setCapacity_22 : decode cX10_setCapacity 22 = .ok (.iload_n 1, 1) := by decide +kernel
theorem dX10_setCapacity_23 : decode cX10_setCapacity 23 = .ok (.putfield 94, 3) := by decide +kernel
theorem dX10_setCapacity_26 : decode cX10_setCapacity 26 = .ok (.iload_n 2, 1) := by decide +kernel
theorem dX10_setCapacity_27 : decode cX10_setCapacity 27 = .ok (.ireturn, 1) := by decide +kernel
set_option maxRecDepth 20000 in
theorem ggX10_offer_X10_sourceOf : GoodIn wsX10_offer wsX10_sourceOf := goodIn_ca (goodIn_ca (goodIn_r _ [8, 9, 10, 11, 7, 12, 13, 14, 15, 16, 17, 18, 19, 20, 21, 22, 23, 24, 25, 26, 27, 28, 29, 30, 31, 32, 33, 34, 35, 36, 37, 38, 39, 40, 41, 42, 43, 44, 45, 46, 47, 48, 49, 50, 95, 96, 97, 98, 99, 100, 101, 102, 103, 104, 105, 106, 107, 108, 109, 110, 111, 112, 113, 114, 115, 116, 117, 118, 119, 120, 121, 122, 123, 124, 125, 126, 127, 128, 129, 130, 131, 132, 133, 134, 135, 136, 137] (by decide +kernel) (by decide +kernel)) (goodIn_sub (fun _ h => List.mem_cons_of_mem _ (List.mem_append_left _ (List.mem_append_right _ h))) (by decide +kernel))) (goodIn_sub (fun _ h => List.mem_cons_of_mem _ (List.mem_append_right _ h)) (by decide +kernel))
set_option maxRecDepth 20000 in
theorem gX10_offer_X10_sourceOf : GoodIn wsX10_offer (wsV RX10 97 RX10 yX10_sourceOf wsX10_sourceOf) := goodIn_app (goodIn_of _ (by decide +kernel)) ggX10_offer_X10_sourceOf
set_option maxRecDepth 20000 in
theorem ggX10_offer_X10_isWithin : GoodIn wsX10_offer wsX10_isWithin := goodIn_r _ [53] (by decide +kernel) (by decide +kernel)
set_option maxRecDepth 20000 in
theorem gX10_offer_X10_isWithin : GoodIn wsX10_offer (va_wsS RX10 21 yX10_isWithin wsX10_isWithin) := goodIn_app (goodIn_of _ (by decide +kernel)) ggX10_offer_X10_isWithin
set_option maxRecDepth 20000 in
theorem ggX10_offer_X10_refuseUnless : GoodIn wsX10_offer wsX10_refuseUnless := goodIn_ca (goodIn_r _ [48, 49, 50] (by decide +kernel) (by decide +kernel)) (goodIn_sub (fun _ h => List.mem_cons_of_mem _ (List.mem_append_right _ h)) (by decide +kernel))
set_option maxRecDepth 20000 in
theorem gX10_offer_X10_refuseUnless : GoodIn wsX10_offer (va_wsS RX10 25 yX10_refuseUnless wsX10_refuseUnless) := goodIn_app (goodIn_of _ (by decide +kernel)) ggX10_offer_X10_refuseUnless
set_option maxRecDepth 20000 in
theorem ggX10_offer_X10_refuseUnlessOpen : GoodIn wsX10_offer wsX10_refuseUnlessOpen := goodIn_ca (goodIn_r _ [57, 1, 2, 58, 122, 123, 124, 125, 126, 95, 96, 97, 98, 99, 100, 101, 102, 103, 104, 105, 106] (by decide +kernel) (by decide +kernel)) (goodIn_sub (fun _ h => List.mem_cons_of_mem _ (List.mem_append_left _ (List.mem_append_left _ (List.mem_append_right _ h)))) (by decide +kernel))
set_option maxRecDepth 20000 in
theorem gX10_offer_X10_refuseUnlessOpen : GoodIn wsX10_offer (wsV RX10 101 RX10 yX10_refuseUnlessOpen wsX10_refuseUnlessOpen) := goodIn_app (goodIn_of _ (by decide +kernel)) ggX10_offer_X10_refuseUnlessOpen
set_option maxRecDepth 20000 in
theorem ggX10_offer_X6_length : GoodIn wsX10_offer wsX6_length := goodIn_r _ [63, 64, 138, 139] (by decide +kernel) (by decide +kernel)
set_option maxRecDepth 20000 in
theorem gX10_offer_X6_length : GoodIn wsX10_offer (wsV RX10 109 RX6 yX6_length wsX6_length) := goodIn_app (goodIn_of _ (by decide +kernel)) ggX10_offer_X6_length
set_option maxRecDepth 20000 in
theorem ggX10_offer_X3_event : GoodIn wsX10_offer wsX3_event := goodIn_r _ [68, 69] (by decide +kernel) (by decide +kernel)
set_option maxRecDepth 20000 in
theorem gX10_offer_X3_event : GoodIn wsX10_offer (va_wsS RX10 114 yX3_event wsX3_event) := goodIn_app (goodIn_of _ (by decide +kernel)) ggX10_offer_X3_event
set_option maxRecDepth 20000 in
theorem ggX10_offer_X6_add : GoodIn wsX10_offer wsX6_add := goodIn_r _ [73, 64, 74, 75, 76, 77, 78, 79, 80, 81, 82, 83, 84, 85, 86, 87, 88, 89, 90, 91, 92, 93, 94, 138, 139] (by decide +kernel) (by decide +kernel)
set_option maxRecDepth 20000 in
theorem gX10_offer_X6_add : GoodIn wsX10_offer (wsV RX10 120 RX6 yX6_add wsX6_add) := goodIn_app (goodIn_of _ (by decide +kernel)) ggX10_offer_X6_add
theorem dX10_offer_0 : decode cX10_offer 0 = .ok (.aload_n 0, 1) := by decide +kernel
theorem dX10_offer_1 : decode cX10_offer 1 = .ok (.iload_n 1, 1) := by decide +kernel
theorem dX10_offer_2 : decode cX10_offer 2 = .ok (.invokevirtual 97, 3) := by decide +kernel
theorem dX10_offer_5 : decode cX10_offer 5 = .ok (.astore 5, 2) := by decide +kernel
theorem dX10_offer_7 : decode cX10_offer 7 = .ok (.iload_n 2, 1) := by decide +kernel
theorem dX10_offer_8 : decode cX10_offer 8 = .ok (.iconst 0, 1) := by decide +kernel
theorem dX10_offer_9 : decode cX10_offer 9 = .ok (.bipush 99, 2) := by decide +kernel
theorem dX10_offer_11 : decode cX10_offer 11 = .ok (.invokestatic 21, 3) := by decide +kernel
theorem dX10_offer_14 : decode cX10_offer 14 = .ok (.ifCond .eq 18, 3) := by decide +kernel
theorem dX10_offer_17 : decode cX10_offer 17 = .ok (.iload 4, 2) := by decide +kernel
theorem dX10_offer_19 : decode cX10_offer 19 = .ok (.iconst 0, 1) := by decide +kernel
theorem dX10_offer_20 : decode cX10_offer 20 = .ok (.ldc 100, 2) := by decide +kernel
theorem dX10_offer_22 : decode cX10_offer 22 = .ok (.invokestatic 21, 3) := by decide +kernel
theorem dX10_offer_25 : decode cX10_offer 25 = .ok (.ifCond .eq 7, 3) := by decide +kernel
theorem dX10_offer_28 : decode cX10_offer 28 = .ok (.iconst 1, 1) := by decide +kernel
theorem dX10_offer_29 : decode cX10_offer 29 = .ok (.goto 4, 3) := by decide +kernel
theorem dX10_offer_32 : decode cX10_offer 32 = .ok (.iconst 0, 1) := by decide +kernel
theorem dX10_offer_33 : decode cX10_offer 33 = .ok (.invokestatic 25, 3) := by decide +kernel
theorem dX10_offer_36 : decode cX10_offer 36 = .ok (.aload_n 0, 1) := by decide +kernel
theorem dX10_offer_37 : decode cX10_offer 37 = .ok (.aload 5, 2) := by decide +kernel
theorem dX10_offer_39 : decode cX10_offer 39 = .ok (.invokevirtual 101, 3) := by decide +kernel
theorem dX10_offer_42 : decode cX10_offer 42 = .ok (.aload 5, 2) := by decide +kernel
theorem dX10_offer_44 : decode cX10_offer 44 = .ok (.getfield 105, 3) := by decide +kernel
theorem dX10_offer_47 : decode cX10_offer 47 = .ok (.invokevirtual 109, 3) := by decide +kernel
theorem dX10_offer_50 : decode cX10_offer 50 = .ok (.sipush 150, 3) := by decide +kernel
theorem dX10_offer_53 : decode cX10_offer 53 = .ok (.if_icmp .lt 11, 3) := by decide +kernel
theorem dX10_offer_56 : decode cX10_offer 56 = .ok (.new 91, 3) := by decide +kernel
theorem dX10_offer_59 : decode cX10_offer 59 = .ok (.dup, 1) := by decide +kernel
theorem dX10_offer_60 : decode cX10_offer 60 = .ok (.invokespecial 93, 3) := by decide +kernel
theorem dX10_offer_63 : decode cX10_offer 63 = .ok (.athrow, 1) := by decide +kernel
theorem dX10_offer_64 : decode cX10_offer 64 = .ok (.aload 5, 2) := by decide +kernel
theorem dX10_offer_66 : decode cX10_offer 66 = .ok (.getfield 105, 3) := by decide +kernel
theorem dX10_offer_69 : decode cX10_offer 69 = .ok (.iload_n 2, 1) := by decide +kernel
theorem dX10_offer_70 : decode cX10_offer 70 = .ok (.iload_n 3, 1) := by decide +kernel
theorem dX10_offer_71 : decode cX10_offer 71 = .ok (.iload 4, 2) := by decide +kernel
theorem dX10_offer_73 : decode cX10_offer 73 = .ok (.invokestatic 114, 3) := by decide +kernel
theorem dX10_offer_76 : decode cX10_offer 76 = .ok (.invokevirtual 120, 3) := by decide +kernel
theorem dX10_offer_79 : decode cX10_offer 79 = .ok (.aload 5, 2) := by decide +kernel
theorem dX10_offer_81 : decode cX10_offer 81 = .ok (.getfield 105, 3) := by decide +kernel
theorem dX10_offer_84 : decode cX10_offer 84 = .ok (.invokevirtual 109, 3) := by decide +kernel
theorem dX10_offer_87 : decode cX10_offer 87 = .ok (.ireturn, 1) := by decide +kernel
set_option maxRecDepth 20000 in
theorem ggX10_close_X10_sourceOf : GoodIn wsX10_close wsX10_sourceOf := goodIn_ca (goodIn_ca (goodIn_r _ [5, 6, 7, 8, 4, 9, 10, 11, 12, 13, 14, 15, 16, 17, 18, 19, 20, 21, 22, 23, 24, 25, 26, 27, 28, 29, 30, 31, 32, 33, 34, 35, 36, 37, 38, 39, 40, 41, 42, 43, 44, 45, 46, 47, 68, 69, 70, 71, 72, 73, 74, 75, 76, 77, 78, 79, 80, 81, 82, 83, 84, 85, 86, 87, 88, 89, 90, 91, 92, 93, 94, 95, 96, 97, 98, 99, 100, 101, 102, 103, 104, 105, 106, 107, 108, 109, 110] (by decide +kernel) (by decide +kernel)) (goodIn_sub (fun _ h => List.mem_cons_of_mem _ (List.mem_append_left _ (List.mem_append_left _ (List.mem_append_right _ h)))) (by decide +kernel))) (goodIn_sub (fun _ h => List.mem_cons_of_mem _ (List.mem_append_left _ (List.mem_append_right _ h))) (by decide +kernel))
set_option maxRecDepth 20000 in
theorem gX10_close_X10_sourceOf : GoodIn wsX10_close (wsV RX10 97 RX10 yX10_sourceOf wsX10_sourceOf) := goodIn_app (goodIn_of _ (by decide +kernel)) ggX10_close_X10_sourceOf
set_option maxRecDepth 20000 in
theorem ggX10_close_X10_refuseUnlessOpen : GoodIn wsX10_close wsX10_refuseUnlessOpen := goodIn_ca (goodIn_r _ [51, 52, 53, 54, 95, 96, 97, 98, 99, 68, 69, 70, 71, 72, 73, 74, 75, 76, 77, 78, 79] (by decide +kernel) (by decide +kernel)) (goodIn_sub (fun _ h => List.mem_cons_of_mem _ (List.mem_append_right _ h)) (by decide +kernel))
set_option maxRecDepth 20000 in
theorem gX10_close_X10_refuseUnlessOpen : GoodIn wsX10_close (wsV RX10 101 RX10 yX10_refuseUnlessOpen wsX10_refuseUnlessOpen) := goodIn_app (goodIn_of _ (by decide +kernel)) ggX10_close_X10_refuseUnlessOpen
set_option maxRecDepth 20000 in
theorem ggX10_close_X8_unread : GoodIn wsX10_close wsX8_unread := goodIn_r _ [59, 60, 61, 62, 63, 64, 65, 66, 67, 68, 69, 70, 71, 72, 73, 74, 75, 76, 77, 78, 79, 111, 112, 113, 114, 115, 116, 117, 118, 119, 120, 121, 122, 123] (by decide +kernel) (by decide +kernel)
set_option maxRecDepth 20000 in
theorem gX10_close_X8_unread : GoodIn wsX10_close (wsV RX10 127 RX8 yX8_unread wsX8_unread) := goodIn_app (goodIn_of _ (by decide +kernel)) ggX10_close_X8_unread
