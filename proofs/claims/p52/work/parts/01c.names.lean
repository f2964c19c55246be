theorem dX2_channels_4 : decode cX2_channels 4 = .ok (.iload_n 2, 1) := by decide +kernel
theorem dX2_channels_5 : decode cX2_channels 5 = .ok (.aload_n 0, 1) := by decide +kernel
theorem dX2_channels_6 : decode cX2_channels 6 = .ok (.getfield 12, 3) := by decide +kernel
theorem dX2_channels_9 : decode cX2_channels 9 = .ok (.invokevirtual 29, 3) := by decide +kernel
theorem dX2_channels_12 : decode cX2_channels 12 = .ok (.if_icmp .ge 32, 3) := by decide +kernel
theorem dX2_channels_15 : decode cX2_channels 15 = .ok (.iload_n 1, 1) := by decide +kernel
theorem dX2_channels_16 : decode cX2_channels 16 = .ok (.aload_n 0, 1) := by decide +kernel
theorem dX2_channels_17 : decode cX2_channels 17 = .ok (.getfield 12, 3) := by decide +kernel
theorem dX2_channels_20 : decode cX2_channels 20 = .ok (.iload_n 2, 1) := by decide +kernel
theorem dX2_channels_21 : decode cX2_channels 21 = .ok (.invokevirtual 33, 3) := by decide +kernel
theorem dX2_channels_24 : decode cX2_channels 24 = .ok (.checkcast 37, 3) := by decide +kernel
theorem dX2_channels_27 : decode cX2_channels 27 = .ok (.getfield 62, 3) := by decide +kernel
theorem dX2_channels_30 : decode cX2_channels 30 = .ok (.getfield 72, 3) := by decide +kernel
theorem dX2_channels_33 : decode cX2_channels 33 = .ok (.invokevirtual 29, 3) := by decide +kernel
theorem dX2_channels_36 : decode cX2_channels 36 = .ok (.iadd, 1) := by decide +kernel
theorem dX2_channels_37 : decode cX2_channels 37 = .ok (.istore_n 1, 1) := by decide +kernel
theorem dX2_channels_38 : decode cX2_channels 38 = .ok (.iinc 2 1, 3) := by decide +kernel
theorem dX2_channels_41 : decode cX2_channels 41 = .ok (.goto (-37), 3) := by decide +kernel
theorem dX2_channels_44 : decode cX2_channels 44 = .ok (.iload_n 1, 1) := by decide +kernel
theorem dX2_channels_45 : decode cX2_channels 45 = .ok (.ireturn, 1) := by decide +kernel
set_option maxRecDepth 20000 in
theorem ggX2_waiting_Jx4a65c_size_8abf5 : GoodIn wsX2_waiting wsJx4a65c_size_8abf5 := goodIn_r _ [7, 8, 59, 60, 61] (by decide +kernel) (by decide +kernel)
set_option maxRecDepth 20000 in
theorem gX2_waiting_Jx4a65c_size_8abf5 : GoodIn wsX2_waiting (wsV RX2 29 RJx4a65c yJx4a65c_size_8abf5 wsJx4a65c_size_8abf5) := goodIn_app (goodIn_of _ (by decide +kernel)) ggX2_waiting_Jx4a65c_size_8abf5
set_option maxRecDepth 20000 in
theorem ggX2_waiting_Jx4a65c_get_915e3 : GoodIn wsX2_waiting wsJx4a65c_get_915e3 := goodIn_r _ [12, 8, 13, 14, 15, 16, 17, 18, 19, 20, 21, 22, 23, 6, 24, 25, 59, 60, 61] (by decide +kernel) (by decide +kernel)
set_option maxRecDepth 20000 in
theorem gX2_waiting_Jx4a65c_get_915e3 : GoodIn wsX2_waiting (wsV RX2 33 RJx4a65c yJx4a65c_get_915e3 wsJx4a65c_get_915e3) := goodIn_app (goodIn_of _ (by decide +kernel)) ggX2_waiting_Jx4a65c_get_915e3
set_option maxRecDepth 20000 in
theorem ggX2_waiting_X1_length : GoodIn wsX2_waiting wsX1_length := goodIn_r _ [30, 31, 32, 33, 34, 35, 36, 37, 38, 62, 63, 64, 65, 66] (by decide +kernel) (by decide +kernel)
set_option maxRecDepth 20000 in
theorem gX2_waiting_X1_length : GoodIn wsX2_waiting (wsV RX2 78 RX1 yX1_length wsX1_length) := goodIn_app (goodIn_of _ (by decide +kernel)) ggX2_waiting_X1_length
theorem dX2_waiting_0 : decode cX2_waiting 0 = .ok (.iconst 0, 1) := by decide +kernel
theorem dX2_waiting_1 : decode cX2_waiting 1 = .ok (.istore_n 1, 1) := by decide +kernel
theorem dX2_waiting_2 : decode cX2_waiting 2 = .ok (.iconst 0, 1) := by decide +kernel
theorem dX2_waiting_3 : decode cX2_waiting 3 = .ok (.istore_n 2, 1) := by decide +kernel
theorem dX2_waiting_4 : decode cX2_waiting 4 = .ok (.iload_n 2, 1) := by decide +kernel
theorem dX2_waiting_5 : decode cX2_waiting 5 = .ok (.aload_n 0, 1) := by decide +kernel
theorem dX2_waiting_6 : decode cX2_waiting 6 = .ok (.getfield 12, 3) := by decide +kernel
theorem dX2_waiting_9 : decode cX2_waiting 9 = .ok (.invokevirtual 29, 3) := by decide +kernel
theorem dX2_waiting_12 : decode cX2_waiting 12 = .ok (.if_icmp .ge 63, 3) := by decide +kernel
theorem dX2_waiting_15 : decode cX2_waiting 15 = .ok (.aload_n 0, 1) := by decide +kernel
theorem dX2_waiting_16 : decode cX2_waiting 16 = .ok (.getfield 12, 3) := by decide +kernel
theorem dX2_waiting_19 : decode cX2_waiting 19 = .ok (.iload_n 2, 1) := by decide +kernel
theorem dX2_waiting_20 : decode cX2_waiting 20 = .ok (.invokevirtual 33, 3) := by decide +kernel
theorem dX2_waiting_23 : decode cX2_waiting 23 = .ok (.checkcast 37, 3) := by decide +kernel
theorem dX2_waiting_26 : decode cX2_waiting 26 = .ok (.astore_n 3, 1) := by decide +kernel
theorem dX2_waiting_27 : decode cX2_waiting 27 = .ok (.iload_n 1, 1) := by decide +kernel
theorem dX2_waiting_28 : decode cX2_waiting 28 = .ok (.aload_n 3, 1) := by decide +kernel
theorem dX2_waiting_29 : decode cX2_waiting 29 = .ok (.getfield 75, 3) := by decide +kernel
theorem dX2_waiting_32 : decode cX2_waiting 32 = .ok (.ifnonnull 7, 3) := by decide +kernel
theorem dX2_waiting_35 : decode cX2_waiting 35 = .ok (.iconst 0, 1) := by decide +kernel
theorem dX2_waiting_36 : decode cX2_waiting 36 = .ok (.goto 10, 3) := by decide +kernel
theorem dX2_waiting_39 : decode cX2_waiting 39 = .ok (.aload_n 3, 1) := by decide +kernel
theorem dX2_waiting_40 : decode cX2_waiting 40 = .ok (.getfield 75, 3) := by decide +kernel
theorem dX2_waiting_43 : decode cX2_waiting 43 = .ok (.invokevirtual 78, 3) := by decide +kernel
theorem dX2_waiting_46 : decode cX2_waiting 46 = .ok (.iadd, 1) := by decide +kernel
theorem dX2_waiting_47 : decode cX2_waiting 47 = .ok (.istore_n 1, 1) := by decide +kernel
theorem dX2_waiting_48 : decode cX2_waiting 48 = .ok (.iload_n 1, 1) := by decide +kernel
theorem dX2_waiting_49 : decode cX2_waiting 49 = .ok (.aload_n 3, 1) := by decide +kernel
theorem dX2_waiting_50 : decode cX2_waiting 50 = .ok (.getfield 83, 3) := by decide +kernel
theorem dX2_waiting_53 : decode cX2_waiting 53 = .ok (.ifnonnull 7, 3) := by decide +kernel
theorem dX2_waiting_56 : decode cX2_waiting 56 = .ok (.iconst 0, 1) := by decide +kernel
theorem dX2_waiting_57 : decode cX2_waiting 57 = .ok (.goto 10, 3) := by decide +kernel
theorem dX2_waiting_60 : decode cX2_waiting 60 = .ok (.aload_n 3, 1) := by decide +kernel
theorem dX2_waiting_61 : decode cX2_waiting 61 = .ok (.getfield 83, 3) := by decide +kernel
theorem dX2_waiting_64 : decode cX2_waiting 64 = .ok (.invokevirtual 78, 3) := by decide +kernel
theorem dX2_waiting_67 : decode cX2_waiting 67 = .ok (.iadd, 1) := by decide +kernel
theorem dX2_waiting_68 : decode cX2_waiting 68 = .ok (.istore_n 1, 1) := by decide +kernel
theorem dX2_waiting_69 : decode cX2_waiting 69 = .ok (.iinc 2 1, 3) := by decide +kernel
theorem dX2_waiting_72 : decode cX2_waiting 72 = .ok (.goto (-68), 3) := by decide +kernel
theorem dX2_waiting_75 : decode cX2_waiting 75 = .ok (.iload_n 1, 1) := by decide +kernel
theorem dX2_waiting_76 : decode cX2_waiting 76 = .ok (.ireturn, 1) := by decide +kernel
set_option maxRecDepth 20000 in
theorem ggX2_nextToWork_Jx4a65c_size_8abf5 : GoodIn wsX2_nextToWork wsJx4a65c_size_8abf5 := goodIn_r _ [8, 9, 97, 98, 99] (by decide +kernel) (by decide +kernel)
set_option maxRecDepth 20000 in
theorem gX2_nextToWork_Jx4a65c_size_8abf5 : GoodIn wsX2_nextToWork (wsV RX2 29 RJx4a65c yJx4a65c_size_8abf5 wsJx4a65c_size_8abf5) := goodIn_app (goodIn_of _ (by decide +kernel)) ggX2_nextToWork_Jx4a65c_size_8abf5
set_option maxRecDepth 20000 in
theorem ggX2_nextToWork_X2_at : GoodIn wsX2_nextToWork wsX2_at := goodIn_r _ [14, 1, 15, 4, 5, 6, 7, 8, 9, 16, 17, 18, 19, 20, 21, 22, 23, 24, 25, 26, 27, 28, 29, 30, 31, 32, 89, 90, 91, 92, 93, 94, 95, 96, 97, 98, 99] (by decide +kernel) (by decide +kernel)
set_option maxRecDepth 20000 in
theorem gX2_nextToWork_X2_at : GoodIn wsX2_nextToWork (wsV RX2 58 RX2 yX2_at wsX2_at) := goodIn_app (goodIn_of _ (by decide +kernel)) ggX2_nextToWork_X2_at
set_option maxRecDepth 20000 in
theorem ggX2_nextToWork_X8_canWork : GoodIn wsX2_nextToWork wsX8_canWork := goodIn_r _ [37, 38, 39, 40, 41, 42, 43, 44, 45, 46, 47, 48, 49, 50, 51, 52, 53, 54, 55, 56, 57, 58, 59, 60, 61, 62, 63, 64, 65, 66, 67, 68, 5, 6, 7, 8, 9, 69, 17, 18, 19, 20, 21, 22, 23, 24, 25, 26, 27, 28, 29, 30, 31, 32, 70, 71, 72, 36, 73, 74, 75, 76, 77, 78, 79, 80, 81, 82, 83, 84, 85, 86, 87, 88, 100, 101, 102, 103, 104, 105, 106, 107, 108, 109, 110, 111, 112, 113, 114, 115, 116, 117, 118, 119, 120, 121, 122, 123, 124, 125, 126, 127, 128, 129, 130, 131, 132, 133, 134, 135, 136, 137, 138, 139, 140, 141, 142, 143, 144, 97, 98, 99] (by decide +kernel) (by decide +kernel)
set_option maxRecDepth 20000 in
theorem gX2_nextToWork_X8_canWork : GoodIn wsX2_nextToWork (wsV RX2 85 RX8 yX8_canWork wsX8_canWork) := goodIn_app (goodIn_of _ (by decide +kernel)) ggX2_nextToWork_X8_canWork
theorem dX2_nextToWork_0 : decode cX2_nextToWork 0 = .ok (.aload_n 0, 1) := by decide +kernel
theorem dX2_nextToWork_1 : decode cX2_nextToWork 1 = .ok (.getfield 12, 3) := by decide +kernel
theorem dX2_nextToWork_4 : decode cX2_nextToWork 4 = .ok (.invokevirtual 29, 3) := by decide +kernel
theorem dX2_nextToWork_7 : decode cX2_nextToWork 7 = .ok (.istore_n 1, 1) := by decide +kernel
theorem dX2_nextToWork_8 : decode cX2_nextToWork 8 = .ok (.iconst 1, 1) := by decide +kernel
theorem dX2_nextToWork_9 : decode cX2_nextToWork 9 = .ok (.istore_n 2, 1) := by decide +kernel
theorem dX2_nextToWork_10 : decode cX2_nextToWork 10 = .ok (.iload_n 2, 1) := by decide +kernel
theorem dX2_nextToWork_11 : decode cX2_nextToWork 11 = .ok (.iload_n 1, 1) := by decide +kernel
theorem dX2_nextToWork_12 : decode cX2_nextToWork 12 = .ok (.if_icmp .gt 64, 3) := by decide +kernel
theorem dX2_nextToWork_15 : decode cX2_nextToWork 15 = .ok (.aload_n 0, 1) := by decide +kernel
theorem dX2_nextToWork_16 : decode cX2_nextToWork 16 = .ok (.getfield 22, 3) := by decide +kernel
theorem dX2_nextToWork_19 : decode cX2_nextToWork 19 = .ok (.iload_n 2, 1) := by decide +kernel
theorem dX2_nextToWork_20 : decode cX2_nextToWork 20 = .ok (.iadd, 1) := by decide +kernel
theorem dX2_nextToWork_21 : decode cX2_nextToWork 21 = .ok (.istore_n 3, 1) := by decide +kernel
theorem dX2_nextToWork_22 : decode cX2_nextToWork 22 = .ok (.aload_n 0, 1) := by decide +kernel
theorem dX2_nextToWork_23 : decode cX2_nextToWork 23 = .ok (.iload_n 3, 1) := by decide +kernel
theorem dX2_nextToWork_24 : decode cX2_nextToWork 24 = .ok (.iload_n 1, 1) := by decide +kernel
theorem dX2_nextToWork_25 : decode cX2_nextToWork 25 = .ok (.if_icmp .ge 7, 3) := by decide +kernel
theorem dX2_nextToWork_28 : decode cX2_nextToWork 28 = .ok (.iload_n 3, 1) := by decide +kernel
theorem dX2_nextToWork_29 : decode cX2_nextToWork 29 = .ok (.goto 6, 3) := by decide +kernel
theorem dX2_nextToWork_32 : decode cX2_nextToWork 32 = .ok (.iload_n 3, 1) := by decide +kernel
theorem dX2_nextToWork_33 : decode cX2_nextToWork 33 = .ok (.iload_n 1, 1) := by decide +kernel
theorem dX2_nextToWork_34 : decode cX2_nextToWork 34 = .ok (.isub, 1) := by decide +kernel
theorem dX2_nextToWork_35 : decode cX2_nextToWork 35 = .ok (.invokevirtual 58, 3) := by decide +kernel
theorem dX2_nextToWork_38 : decode cX2_nextToWork 38 = .ok (.astore 4, 2) := by decide +kernel
theorem dX2_nextToWork_40 : decode cX2_nextToWork 40 = .ok (.aload 4, 2) := by decide +kernel
theorem dX2_nextToWork_42 : decode cX2_nextToWork 42 = .ok (.ifnull 28, 3) := by decide +kernel
theorem dX2_nextToWork_45 : decode cX2_nextToWork 45 = .ok (.aload 4, 2) := by decide +kernel
theorem dX2_nextToWork_47 : decode cX2_nextToWork 47 = .ok (.aload_n 0, 1) := by decide +kernel
theorem dX2_nextToWork_48 : decode cX2_nextToWork 48 = .ok (.getfield 18, 3) := by decide +kernel
theorem dX2_nextToWork_51 : decode cX2_nextToWork 51 = .ok (.invokevirtual 85, 3) := by decide +kernel
theorem dX2_nextToWork_54 : decode cX2_nextToWork 54 = .ok (.ifCond .eq 16, 3) := by decide +kernel
theorem dX2_nextToWork_57 : decode cX2_nextToWork 57 = .ok (.iload_n 3, 1) := by decide +kernel
theorem dX2_nextToWork_58 : decode cX2_nextToWork 58 = .ok (.iload_n 1, 1) := by decide +kernel
theorem dX2_nextToWork_59 : decode cX2_nextToWork 59 = .ok (.if_icmp .ge 7, 3) := by decide +kernel
theorem dX2_nextToWork_62 : decode cX2_nextToWork 62 = .ok (.iload_n 3, 1) := by decide +kernel
theorem dX2_nextToWork_63 : decode cX2_nextToWork 63 = .ok (.goto 6, 3) := by decide +kernel
theorem dX2_nextToWork_66 : decode cX2_nextToWork 66 = .ok (.iload_n 3, 1) := by decide +kernel
theorem dX2_nextToWork_67 : decode cX2_nextToWork 67 = .ok (.iload_n 1, 1) := by decide +kernel
theorem dX2_nextToWork_68 : decode cX2_nextToWork 68 = .ok (.isub, 1) := by decide +kernel
theorem dX2_nextToWork_69 : decode cX2_nextToWork 69 = .ok (.ireturn, 1) := by decide +kernel
theorem dX2_nextToWork_70 : decode cX2_nextToWork 70 = .ok (.iinc 2 1, 3) := by decide +kernel
theorem dX2_nextToWork_73 : decode cX2_nextToWork 73 = .ok (.goto (-63), 3) := by decide +kernel
theorem dX2_nextToWork_76 : decode cX2_nextToWork 76 = .ok (.iconst (-1), 1) := by decide +kernel
theorem dX2_nextToWork_77 : decode cX2_nextToWork 77 = .ok (.ireturn, 1) := by decide +kernel
set_option maxRecDepth 20000 in
theorem ggX2_step_X2_at : GoodIn wsX2_step wsX2_at := goodIn_r _ [6, 7, 8, 9, 10, 11, 12, 13, 14, 15, 16, 17, 18, 19, 20, 21, 22, 23, 24, 25, 26, 27, 28, 29, 30, 31, 376, 377, 378, 379, 380, 381, 382, 383, 422, 423, 424] (by decide +kernel) (by decide +kernel)
set_option maxRecDepth 20000 in
theorem gX2_step_X2_at : GoodIn wsX2_step (wsV RX2 58 RX2 yX2_at wsX2_at) := goodIn_app (goodIn_of _ (by decide +kernel)) ggX2_step_X2_at
set_option maxRecDepth 20000 in
theorem ggX2_step_X4_forgetGiven : GoodIn wsX2_step wsX4_forgetGiven := goodIn_r _ [36, 37, 38, 39, 40, 41, 42, 35, 43, 44, 45, 46, 47, 48, 49, 50, 51, 52, 53, 54, 10, 11, 12, 13, 14, 55, 16, 17, 18, 19, 20, 21, 22, 23, 24, 25, 26, 27, 28, 29, 30, 31, 56, 57, 58, 59, 60, 61, 62, 63, 64, 425, 426, 427, 428, 429, 430, 431, 422, 423, 424] (by decide +kernel) (by decide +kernel)
set_option maxRecDepth 20000 in
theorem gX2_step_X4_forgetGiven : GoodIn wsX2_step (wsV RX2 89 RX4 yX4_forgetGiven wsX4_forgetGiven) := goodIn_app (goodIn_of _ (by decide +kernel)) ggX2_step_X4_forgetGiven
set_option maxRecDepth 20000 in
theorem ggX2_step_X2_passBarrier : GoodIn wsX2_step wsX2_passBarrier := goodIn_r _ [68, 69, 70, 71, 72, 73, 74, 75, 76, 77, 78, 79, 80, 81, 82, 83, 84, 85, 86, 10, 11, 12, 13, 14, 87, 88, 89, 51, 90, 53, 60, 91, 92, 93, 94, 95, 96, 97, 98, 99, 100, 101, 102, 103, 45, 46, 47, 104, 62, 63, 64, 105, 106, 107, 108, 109, 110, 111, 112, 113, 114, 115, 116, 117, 118, 119, 120, 121, 122, 123, 124, 125, 126, 127, 128, 129, 130, 131, 132, 133, 134, 135, 61, 136, 137, 138, 139, 5, 140, 7, 8, 141, 142, 9, 15, 16, 17, 18, 19, 20, 21, 22, 23, 24, 25, 26, 27, 28, 29, 30, 31, 143, 144, 145, 146, 147, 148, 384, 385, 386, 387, 388, 389, 390, 391, 392, 393, 394, 395, 376, 377, 378, 379, 380, 381, 382, 383, 411, 412, 413, 414, 415, 416, 417, 418, 419, 420, 421, 425, 426, 422, 423, 424, 430, 431, 432, 433] (by decide +kernel) (by decide +kernel)
set_option maxRecDepth 20000 in
theorem gX2_step_X2_passBarrier : GoodIn wsX2_step (wsV RX2 102 RX2 yX2_passBarrier wsX2_passBarrier) := goodIn_app (goodIn_of _ (by decide +kernel)) ggX2_step_X2_passBarrier
set_option maxRecDepth 20000 in
theorem ggX2_step_X8_read : GoodIn wsX2_step wsX8_read := goodIn_r _ [152, 153, 154, 81, 155, 156, 157, 158, 79, 159, 160, 49, 50, 51, 52, 53, 161, 162, 163, 164, 60, 165, 77, 78, 80, 82, 83, 84, 73, 85, 86, 10, 11, 12, 13, 14, 87, 88, 89, 90, 91, 92, 93, 94, 95, 96, 97, 98, 99, 100, 101, 102, 103, 45, 46, 47, 104, 62, 63, 64, 166, 167, 168, 169, 384, 385, 386, 387, 388, 389, 390, 391, 392, 393, 394, 395, 411, 412, 413, 414, 415, 416, 417, 418, 419, 420, 421, 396, 397, 398, 399, 400, 401, 402, 403, 404, 405, 406, 407, 408, 409, 410, 430, 431, 425, 426, 422, 423, 424] (by decide +kernel) (by decide +kernel)
set_option maxRecDepth 20000 in
theorem gX2_step_X8_read : GoodIn wsX2_step (wsV RX2 106 RX8 yX8_read wsX8_read) := goodIn_app (goodIn_of _ (by decide +kernel)) ggX2_step_X8_read
set_option maxRecDepth 20000 in
theorem ggX2_step_X8_raiseMark : GoodIn wsX2_step wsX8_raiseMark := goodIn_r _ [173, 81, 155, 174, 175, 176, 79, 177, 178, 179, 180, 124, 181, 182, 183, 184, 185, 126, 186, 49, 50, 51, 52, 53, 187, 162, 163, 164, 60, 188, 189, 190, 191, 192, 193, 194, 195, 127, 196, 197, 198, 199, 200, 201, 202, 203, 204, 205, 206, 207, 208, 209, 210, 211, 212, 213, 214, 215, 216, 73, 217, 218, 165, 77, 78, 80, 82, 83, 84, 85, 86, 10, 11, 12, 13, 14, 87, 88, 89, 90, 91, 92, 93, 94, 95, 96, 97, 98, 99, 100, 101, 102, 103, 45, 46, 47, 104, 62, 63, 64, 219, 220, 221, 222, 223, 57, 58, 59, 61, 224, 225, 226, 160, 161, 166, 167, 168, 169, 227, 228, 229, 230, 231, 384, 385, 386, 387, 388, 389, 390, 391, 392, 393, 394, 395, 411, 412, 413, 414, 415, 416, 417, 418, 419, 420, 421, 396, 397, 398, 399, 400, 401, 402, 403, 404, 405, 406, 407, 408, 409, 410, 432, 433, 430, 431, 425, 426, 422, 423, 424] (by decide +kernel) (by decide +kernel)
set_option maxRecDepth 20000 in
theorem gX2_step_X8_raiseMark : GoodIn wsX2_step (wsV RX2 109 RX8 yX8_raiseMark wsX8_raiseMark) := goodIn_app (goodIn_of _ (by decide +kernel)) ggX2_step_X8_raiseMark
set_option maxRecDepth 20000 in
theorem ggX2_step_X8_turnsToSecond : GoodIn wsX2_step wsX8_turnsToSecond := goodIn_r _ [235, 236, 81, 237, 238, 239, 240, 241, 242, 243, 244, 245, 246, 247, 248, 249, 250, 49, 50, 51, 52, 53, 384, 385, 386, 387, 388, 389, 390, 391, 392, 393, 394, 395, 411, 412, 413, 414, 415, 416, 417, 418, 419, 420, 421, 427, 428, 429, 430, 431] (by decide +kernel) (by decide +kernel)
set_option maxRecDepth 20000 in
theorem gX2_step_X8_turnsToSecond : GoodIn wsX2_step (wsV RX2 113 RX8 yX8_turnsToSecond wsX8_turnsToSecond) := goodIn_app (goodIn_of _ (by decide +kernel)) ggX2_step_X8_turnsToSecond
set_option maxRecDepth 20000 in
theorem ggX2_step_X8_channel : GoodIn wsX2_step wsX8_channel := goodIn_r _ [254, 236, 237, 384, 385, 386, 387, 388, 389, 390, 391, 392, 393, 394, 395] (by decide +kernel) (by decide +kernel)
set_option maxRecDepth 20000 in
theorem gX2_step_X8_channel : GoodIn wsX2_step (wsV RX2 117 RX8 yX8_channel wsX8_channel) := goodIn_app (goodIn_of _ (by decide +kernel)) ggX2_step_X8_channel
set_option maxRecDepth 20000 in
theorem ggX2_step_X1_canGive : GoodIn wsX2_step wsX1_canGive := goodIn_r _ [242, 243, 244, 245, 246, 241, 247, 248, 249, 250, 49, 50, 51, 52, 53, 427, 428, 429, 430, 431] (by decide +kernel) (by decide +kernel)
set_option maxRecDepth 20000 in
theorem gX2_step_X1_canGive : GoodIn wsX2_step (wsV RX2 121 RX1 yX1_canGive wsX1_canGive) := goodIn_app (goodIn_of _ (by decide +kernel)) ggX2_step_X1_canGive
set_option maxRecDepth 20000 in
theorem ggX2_step_X1_give : GoodIn wsX2_step wsX1_give := goodIn_r _ [259, 248, 249, 260, 162, 163, 51, 164, 53, 60, 427, 428, 429, 430, 431] (by decide +kernel) (by decide +kernel)
set_option maxRecDepth 20000 in
theorem gX2_step_X1_give : GoodIn wsX2_step (wsV RX2 124 RX1 yX1_give wsX1_give) := goodIn_app (goodIn_of _ (by decide +kernel)) ggX2_step_X1_give
set_option maxRecDepth 20000 in
theorem ggX2_step_X3_kind : GoodIn wsX2_step wsX3_kind := goodIn_r _ [85] (by decide +kernel) (by decide +kernel)
set_option maxRecDepth 20000 in
theorem gX2_step_X3_kind : GoodIn wsX2_step (va_wsS RX2 137 yX3_kind wsX3_kind) := goodIn_app (goodIn_of _ (by decide +kernel)) ggX2_step_X3_kind
set_option maxRecDepth 20000 in
theorem ggX2_step_X8_takeEvent : GoodIn wsX2_step wsX8_takeEvent := goodIn_r _ [265, 81, 155, 266, 267, 268, 79, 269, 270, 271, 73, 272, 273, 274, 275, 276, 277, 278, 279, 280, 165, 77, 78, 80, 82, 83, 84, 85, 86, 10, 11, 12, 13, 14, 87, 88, 89, 51, 90, 53, 60, 91, 92, 93, 94, 95, 96, 97, 98, 99, 100, 101, 102, 103, 45, 46, 47, 104, 62, 63, 64, 281, 282, 283, 284, 166, 167, 168, 169, 215, 216, 217, 218, 285, 286, 287, 288, 289, 290, 291, 292, 293, 294, 295, 296, 297, 124, 298, 299, 183, 184, 185, 126, 186, 49, 50, 52, 187, 162, 163, 164, 300, 301, 198, 302, 303, 304, 305, 306, 307, 308, 309, 310, 311, 312, 192, 193, 194, 195, 127, 313, 314, 315, 316, 317, 134, 135, 203, 204, 205, 200, 201, 202, 318, 319, 320, 321, 322, 323, 324, 325, 326, 327, 328, 329, 330, 331, 332, 333, 61, 188, 189, 190, 191, 196, 197, 199, 206, 207, 208, 209, 210, 211, 212, 213, 214, 334, 335, 336, 337, 338, 339, 340, 341, 342, 343, 344, 345, 346, 347, 348, 219, 220, 221, 222, 223, 57, 58, 59, 349, 350, 351, 352, 160, 161, 353, 354, 355, 356, 357, 358, 359, 360, 227, 361, 362, 363, 364, 365, 366, 384, 385, 386, 387, 388, 389, 390, 391, 392, 393, 394, 395, 411, 412, 413, 414, 415, 416, 417, 418, 419, 420, 421, 396, 397, 398, 399, 400, 401, 402, 403, 404, 405, 406, 407, 408, 409, 410, 425, 426, 422, 423, 424, 430, 431, 432, 433] (by decide +kernel) (by decide +kernel)
set_option maxRecDepth 20000 in
theorem gX2_step_X8_takeEvent : GoodIn wsX2_step (wsV RX2 143 RX8 yX8_takeEvent wsX8_takeEvent) := goodIn_app (goodIn_of _ (by decide +kernel)) ggX2_step_X8_takeEvent
set_option maxRecDepth 20000 in
theorem ggX2_step_X3_time : GoodIn wsX2_step wsX3_time := goodIn_r _ [168, 169] (by decide +kernel) (by decide +kernel)
set_option maxRecDepth 20000 in
theorem gX2_step_X3_time : GoodIn wsX2_step (va_wsS RX2 147 yX3_time wsX3_time) := goodIn_app (goodIn_of _ (by decide +kernel)) ggX2_step_X3_time
set_option maxRecDepth 20000 in
theorem ggX2_step_X8_leastMark : GoodIn wsX2_step wsX8_leastMark := goodIn_r _ [371, 81, 236, 338, 45, 46, 47, 384, 385, 386, 387, 388, 389, 390, 391, 392, 393, 394, 395, 411, 412, 413, 414, 415, 416, 417, 418, 419, 420, 421] (by decide +kernel) (by decide +kernel)
set_option maxRecDepth 20000 in
theorem gX2_step_X8_leastMark : GoodIn wsX2_step (wsV RX2 150 RX8 yX8_leastMark wsX8_leastMark) := goodIn_app (goodIn_of _ (by decide +kernel)) ggX2_step_X8_leastMark
set_option maxRecDepth 20000 in
theorem ggX2_step_X2_takeBarrier : GoodIn wsX2_step wsX2_takeBarrier := goodIn_r _ [375, 65, 66, 67, 5, 68, 69, 70, 71, 72, 73, 74, 75, 76, 77, 78, 79, 80, 81, 82, 83, 84, 85, 86, 10, 11, 12, 13, 14, 87, 88, 89, 51, 90, 53, 60, 91, 92, 93, 94, 95, 96, 97, 98, 99, 100, 101, 102, 103, 45, 46, 47, 104, 62, 63, 64, 105, 106, 107, 108, 109, 110, 111, 112, 113, 114, 115, 116, 117, 118, 119, 120, 121, 122, 123, 124, 125, 126, 127, 128, 129, 130, 131, 132, 133, 134, 135, 61, 136, 137, 138, 139, 140, 7, 8, 141, 142, 9, 15, 16, 17, 18, 19, 20, 21, 22, 23, 24, 25, 26, 27, 28, 29, 30, 31, 143, 144, 145, 146, 147, 148, 427, 428, 429, 384, 385, 386, 387, 388, 389, 390, 391, 392, 393, 394, 395, 376, 377, 378, 379, 380, 381, 382, 383, 411, 412, 413, 414, 415, 416, 417, 418, 419, 420, 421, 425, 426, 422, 423, 424, 430, 431, 432, 433] (by decide +kernel) (by decide +kernel)
set_option maxRecDepth 20000 in
theorem gX2_step_X2_takeBarrier : GoodIn wsX2_step (wsV RX2 154 RX2 yX2_takeBarrier wsX2_takeBarrier) := goodIn_app (goodIn_of _ (by decide +kernel)) ggX2_step_X2_takeBarrier
theorem dX2_step_0 : decode cX2_step 0 = .ok (.aload_n 0, 1) := by decide +kernel
theorem dX2_step_1 : decode cX2_step 1 = .ok (.iload_n 1, 1) := by decide +kernel
theorem dX2_step_2 : decode cX2_step 2 = .ok (.invokevirtual 58, 3) := by decide +kernel
theorem dX2_step_5 : decode cX2_step 5 = .ok (.astore_n 2, 1) := by decide +kernel
theorem dX2_step_6 : decode cX2_step 6 = .ok (.aload_n 2, 1) := by decide +kernel
theorem dX2_step_7 : decode cX2_step 7 = .ok (.ifnonnull 5, 3) := by decide +kernel
theorem dX2_step_10 : decode cX2_step 10 = .ok (.iconst 0, 1) := by decide +kernel
theorem dX2_step_11 : decode cX2_step 11 = .ok (.ireturn, 1) := by decide +kernel
theorem dX2_step_12 : decode cX2_step 12 = .ok (.aload_n 0, 1) := by decide +kernel
theorem dX2_step_13 : decode cX2_step 13 = .ok (.iload_n 1, 1) := by decide +kernel
theorem dX2_step_14 : decode cX2_step 14 = .ok (.putfield 22, 3) := by decide +kernel
theorem dX2_step_17 : decode cX2_step 17 = .ok (.aload_n 2, 1) := by decide +kernel
theorem dX2_step_18 : decode cX2_step 18 = .ok (.getfield 62, 3) := by decide +kernel
theorem dX2_step_21 : decode cX2_step 21 = .ok (.invokevirtual 89, 3) := by decide +kernel
theorem dX2_step_24 : decode cX2_step 24 = .ok (.aload_n 2, 1) := by decide +kernel
theorem dX2_step_25 : decode cX2_step 25 = .ok (.getfield 92, 3) := by decide +kernel
theorem dX2_step_28 : decode cX2_step 28 = .ok (.getfield 96, 3) := by decide +kernel
theorem dX2_step_31 : decode cX2_step 31 = .ok (.ifCond .ne 28, 3) := by decide +kernel
theorem dX2_step_34 : decode cX2_step 34 = .ok (.aload_n 2, 1) := by decide +kernel
theorem dX2_step_35 : decode cX2_step 35 = .ok (.getfield 99, 3) := by decide +kernel
theorem dX2_step_38 : decode cX2_step 38 = .ok (.ifCond .eq 11, 3) := by decide +kernel
theorem dX2_step_41 : decode cX2_step 41 = .ok (.aload_n 0, 1) := by decide +kernel
theorem dX2_step_42 : decode cX2_step 42 = .ok (.aload_n 2, 1) := by decide +kernel
theorem dX2_step_43 : decode cX2_step 43 = .ok (.invokevirtual 102, 3) := by decide +kernel
theorem dX2_step_46 : decode cX2_step 46 = .ok (.goto 11, 3) := by decide +kernel
theorem dX2_step_49 : decode cX2_step 49 = .ok (.aload_n 2, 1) := by decide +kernel
theorem dX2_step_50 : decode cX2_step 50 = .ok (.aload_n 2, 1) := by decide +kernel
theorem dX2_step_51 : decode cX2_step 51 = .ok (.invokevirtual 106, 3) := by decide +kernel
theorem dX2_step_54 : decode cX2_step 54 = .ok (.invokevirtual 109, 3) := by decide +kernel
theorem dX2_step_57 : decode cX2_step 57 = .ok (.iconst 1, 1) := by decide +kernel
theorem dX2_step_58 : decode cX2_step 58 = .ok (.ireturn, 1) := by decide +kernel
theorem dX2_step_59 : decode cX2_step 59 = .ok (.aload_n 2, 1) := by decide +kernel
theorem dX2_step_60 : decode cX2_step 60 = .ok (.invokevirtual 113, 3) := by decide +kernel
theorem dX2_step_63 : decode cX2_step 63 = .ok (.istore_n 3, 1) := by decide +kernel
theorem dX2_step_64 : decode cX2_step 64 = .ok (.aload_n 2, 1) := by decide +kernel
theorem dX2_step_65 : decode cX2_step 65 = .ok (.iload_n 3, 1) := by decide +kernel
theorem dX2_step_66 : decode cX2_step 66 = .ok (.invokevirtual 117, 3) := by decide +kernel
theorem dX2_step_69 : decode cX2_step 69 = .ok (.astore 4, 2) := by decide +kernel
theorem dX2_step_71 : decode cX2_step 71 = .ok (.aload 4, 2) := by decide +kernel
theorem dX2_step_73 : decode cX2_step 73 = .ok (.ifnull 11, 3) := by decide +kernel
theorem dX2_step_76 : decode cX2_step 76 = .ok (.aload 4, 2) := by decide +kernel
theorem dX2_step_78 : decode cX2_step 78 = .ok (.invokevirtual 121, 3) := by decide +kernel
theorem dX2_step_81 : decode cX2_step 81 = .ok (.ifCond .ne 5, 3) := by decide +kernel
theorem dX2_step_84 : decode cX2_step 84 = .ok (.iconst 0, 1) := by decide +kernel
theorem dX2_step_85 : decode cX2_step 85 = .ok (.ireturn, 1) := by decide +kernel
theorem dX2_step_86 : decode cX2_step 86 = .ok (.aload 4, 2) := by decide +kernel
theorem dX2_step_88 : decode cX2_step 88 = .ok (.invokevirtual 124, 3) := by decide +kernel
theorem dX2_step_91 : decode cX2_step 91 = .ok (.lstore 5, 2) := by decide +kernel
theorem dX2_step_93 : decode cX2_step 93 = .ok (.aload_n 2, 1) := by decide +kernel
theorem dX2_step_94 : decode cX2_step 94 = .ok (.getfield 128, 3) := by decide +kernel
theorem dX2_step_97 : decode cX2_step 97 = .ok (.iload_n 3, 1) := by decide +kernel
theorem dX2_step_98 : decode cX2_step 98 = .ok (.putfield 132, 3) := by decide +kernel
theorem dX2_step_101 : decode cX2_step 101 = .ok (.lload 5, 2) := by decide +kernel
theorem dX2_step_103 : decode cX2_step 103 = .ok (.invokestatic 137, 3) := by decide +kernel
theorem dX2_step_106 : decode cX2_step 106 = .ok (.istore 7, 2) := by decide +kernel
theorem dX2_step_108 : decode cX2_step 108 = .ok (.iload 7, 2) := by decide +kernel
theorem dX2_step_110 : decode cX2_step 110 = .ok (.ifCond .ne 13, 3) := by decide +kernel
theorem dX2_step_113 : decode cX2_step 113 = .ok (.aload_n 2, 1) := by decide +kernel
theorem dX2_step_114 : decode cX2_step 114 = .ok (.lload 5, 2) := by decide +kernel
theorem dX2_step_116 : decode cX2_step 116 = .ok (.iload_n 3, 1) := by decide +kernel
theorem dX2_step_117 : decode cX2_step 117 = .ok (.invokevirtual 143, 3) := by decide +kernel
theorem dX2_step_120 : decode cX2_step 120 = .ok (.goto 46, 3) := by decide +kernel
theorem dX2_step_123 : decode cX2_step 123 = .ok (.iload 7, 2) := by decide +kernel
theorem dX2_step_125 : decode cX2_step 125 = .ok (.iconst 1, 1) := by decide +kernel
theorem dX2_step_126 : decode cX2_step 126 = .ok (.if_icmp .ne 20, 3) := by decide +kernel
theorem dX2_step_129 : decode cX2_step 129 = .ok (.aload_n 2, 1) := by decide +kernel
theorem dX2_step_130 : decode cX2_step 130 = .ok (.aload_n 2, 1) := by decide +kernel
theorem dX2_step_131 : decode cX2_step 131 = .ok (.lload 5, 2) := by decide +kernel
theorem dX2_step_133 : decode cX2_step 133 = .ok (.invokestatic 147, 3) := by decide +kernel
theorem dX2_step_136 : decode cX2_step 136 = .ok (.iload_n 3, 1) := by decide +kernel
theorem dX2_step_137 : decode cX2_step 137 = .ok (.invokevirtual 150, 3) := by decide +kernel
theorem dX2_step_140 : decode cX2_step 140 = .ok (.invokevirtual 109, 3) := by decide +kernel
theorem dX2_step_143 : decode cX2_step 143 = .ok (.goto 23, 3) := by decide +kernel
theorem dX2_step_146 : decode cX2_step 146 = .ok (.aload_n 0, 1) := by decide +kernel
theorem dX2_step_147 : decode cX2_step 147 = .ok (.aload_n 2, 1) := by decide +kernel
theorem dX2_step_148 : decode cX2_step 148 = .ok (.aload 4, 2) := by decide +kernel
theorem dX2_step_150 : decode cX2_step 150 = .ok (.aload_n 2, 1) := by decide +kernel
theorem dX2_step_151 : decode cX2_step 151 = .ok (.iload_n 3, 1) := by decide +kernel
theorem dX2_step_152 : decode cX2_step 152 = .ok (.ifCond .ne 7, 3) := by decide +kernel
theorem dX2_step_155 : decode cX2_step 155 = .ok (.iconst 1, 1) := by decide +kernel
theorem dX2_step_156 : decode cX2_step 156 = .ok (.goto 4, 3) := by decide +kernel
theorem dX2_step_159 : decode cX2_step 159 = .ok (.iconst 0, 1) := by decide +kernel
theorem dX2_step_160 : decode cX2_step 160 = .ok (.invokevirtual 117, 3) := by decide +kernel
theorem dX2_step_163 : decode cX2_step 163 = .ok (.invokevirtual 154, 3) := by decide +kernel
theorem dX2_step_166 : decode cX2_step 166 = .ok (.iconst 1, 1) := by decide +kernel
theorem dX2_step_167 : decode cX2_step 167 = .ok (.ireturn, 1) := by decide +kernel
set_option maxRecDepth 20000 in
theorem ggX2_takeBarrier_X2_passBarrier : GoodIn wsX2_takeBarrier wsX2_passBarrier := goodIn_r _ [5, 6, 7, 8, 9, 10, 11, 12, 13, 14, 15, 16, 17, 18, 19, 20, 21, 22, 23, 24, 25, 26, 27, 28, 29, 30, 31, 32, 33, 34, 35, 36, 37, 38, 39, 40, 41, 42, 43, 44, 45, 46, 47, 48, 49, 50, 51, 52, 53, 54, 55, 56, 57, 58, 59, 60, 61, 62, 63, 64, 65, 66, 67, 68, 69, 70, 71, 72, 73, 74, 75, 76, 77, 78, 79, 80, 81, 82, 83, 84, 85, 86, 87, 88, 89, 90, 91, 4, 92, 93, 94, 95, 96, 97, 98, 99, 100, 101, 102, 103, 104, 105, 106, 107, 108, 109, 110, 111, 112, 113, 114, 115, 116, 117, 118, 119, 120, 124, 125, 126, 127, 128, 129, 130, 131, 132, 133, 134, 135, 136, 137, 138, 139, 140, 141, 142, 143, 144, 145, 146, 147, 148, 149, 150, 151, 152, 153, 154, 155, 156, 157, 158, 159, 160, 161, 162, 163] (by decide +kernel) (by decide +kernel)
set_option maxRecDepth 20000 in
theorem gX2_takeBarrier_X2_passBarrier : GoodIn wsX2_takeBarrier (wsV RX2 102 RX2 yX2_passBarrier wsX2_passBarrier) := goodIn_app (goodIn_of _ (by decide +kernel)) ggX2_takeBarrier_X2_passBarrier
theorem dX2_takeBarrier_0 : decode cX2_takeBarrier 0 = .ok (.aload_n 3, 1) := by decide +kernel
theorem dX2_takeBarrier_1 : decode cX2_takeBarrier 1 = .ok (.ifnull 16, 3) := by decide +kernel
theorem dX2_takeBarrier_4 : decode cX2_takeBarrier 4 = .ok (.aload_n 3, 1) := by decide +kernel
theorem dX2_takeBarrier_5 : decode cX2_takeBarrier 5 = .ok (.getfield 158, 3) := by decide +kernel
theorem dX2_takeBarrier_8 : decode cX2_takeBarrier 8 = .ok (.ifCond .ne 9, 3) := by decide +kernel
theorem dX2_takeBarrier_11 : decode cX2_takeBarrier 11 = .ok (.aload_n 2, 1) := by decide +kernel
theorem dX2_takeBarrier_12 : decode cX2_takeBarrier 12 = .ok (.iconst 1, 1) := by decide +kernel
theorem dX2_takeBarrier_13 : decode cX2_takeBarrier 13 = .ok (.putfield 158, 3) := by decide +kernel
theorem dX2_takeBarrier_16 : decode cX2_takeBarrier 16 = .ok (.return_, 1) := by decide +kernel
theorem dX2_takeBarrier_17 : decode cX2_takeBarrier 17 = .ok (.aload_n 3, 1) := by decide +kernel
theorem dX2_takeBarrier_18 : decode cX2_takeBarrier 18 = .ok (.ifnull 8, 3) := by decide +kernel
theorem dX2_takeBarrier_21 : decode cX2_takeBarrier 21 = .ok (.aload_n 3, 1) := by decide +kernel
theorem dX2_takeBarrier_22 : decode cX2_takeBarrier 22 = .ok (.iconst 0, 1) := by decide +kernel
theorem dX2_takeBarrier_23 : decode cX2_takeBarrier 23 = .ok (.putfield 158, 3) := by decide +kernel
theorem dX2_takeBarrier_26 : decode cX2_takeBarrier 26 = .ok (.aload_n 0, 1) := by decide +kernel
theorem dX2_takeBarrier_27 : decode cX2_takeBarrier 27 = .ok (.aload_n 1, 1) := by decide +kernel
theorem dX2_takeBarrier_28 : decode cX2_takeBarrier 28 = .ok (.invokevirtual 102, 3) := by decide +kernel
theorem dX2_takeBarrier_31 : decode cX2_takeBarrier 31 = .ok (.return_, 1) := by decide +kernel
set_option maxRecDepth 20000 in
theorem ggX2_passBarrier_X3_barrier : GoodIn wsX2_passBarrier wsX3_barrier := goodIn_r _ [6, 7] (by decide +kernel) (by decide +kernel)
set_option maxRecDepth 20000 in
theorem gX2_passBarrier_X3_barrier : GoodIn wsX2_passBarrier (va_wsS RX2 161 yX3_barrier wsX3_barrier) := goodIn_app (goodIn_of _ (by decide +kernel)) ggX2_passBarrier_X3_barrier
set_option maxRecDepth 20000 in
theorem ggX2_passBarrier_X8_emit : GoodIn wsX2_passBarrier wsX8_emit := goodIn_r _ [12, 13, 14, 15, 16, 5, 17, 18, 19, 20, 21, 22, 23, 24, 25, 26, 27, 28, 29, 30, 31, 32, 33, 34, 35, 36, 37, 38, 39, 40, 41, 42, 43, 44, 45, 46, 47, 48, 49, 50, 117, 118, 119, 120, 121, 122, 123, 124, 125, 126, 127, 128, 137, 138, 139, 140, 141, 142, 143, 144, 145, 146, 147, 148, 149, 150, 151, 152, 153, 154] (by decide +kernel) (by decide +kernel)
set_option maxRecDepth 20000 in
theorem gX2_passBarrier_X8_emit : GoodIn wsX2_passBarrier (wsV RX2 164 RX8 yX8_emit wsX8_emit) := goodIn_app (goodIn_of _ (by decide +kernel)) ggX2_passBarrier_X8_emit
set_option maxRecDepth 20000 in
theorem ggX2_passBarrier_X9_become : GoodIn wsX2_passBarrier wsX9_become := goodIn_r _ [55, 56, 57, 58, 59, 60, 61, 62, 63, 64, 65, 66, 67, 68, 69, 70, 71, 72, 73, 74, 75, 76, 27, 77, 29, 78, 44, 45, 46, 79, 80, 81, 30, 31, 42, 82, 48, 49, 50, 83, 137, 138, 139, 140, 141, 142, 143, 144, 145, 146, 147, 155, 156, 153, 154] (by decide +kernel) (by decide +kernel)
set_option maxRecDepth 20000 in
theorem gX2_passBarrier_X9_become : GoodIn wsX2_passBarrier (wsV RX2 171 RX9 yX9_become wsX9_become) := goodIn_app (goodIn_of _ (by decide +kernel)) ggX2_passBarrier_X9_become
set_option maxRecDepth 20000 in
theorem ggX2_passBarrier_X2_completeCheckpoint : GoodIn wsX2_passBarrier wsX2_completeCheckpoint := goodIn_r _ [88, 89, 90, 91, 92, 93, 19, 20, 21, 22, 23, 94, 95, 96, 97, 98, 99, 100, 101, 102, 103, 104, 105, 106, 107, 108, 109, 110, 111, 112, 113, 11, 114, 115, 116, 129, 130, 131, 132, 133, 134, 135, 136, 150, 151, 152, 117, 118, 119, 120, 121, 122, 123, 124, 125, 126, 127, 128] (by decide +kernel) (by decide +kernel)
set_option maxRecDepth 20000 in
theorem gX2_passBarrier_X2_completeCheckpoint : GoodIn wsX2_passBarrier (wsV RX2 178 RX2 yX2_completeCheckpoint wsX2_completeCheckpoint) := goodIn_app (goodIn_of _ (by decide +kernel)) ggX2_passBarrier_X2_completeCheckpoint
theorem dX2_passBarrier_0 : decode cX2_passBarrier 0 = .ok (.aload_n 1, 1) := by decide +kernel
theorem dX2_passBarrier_1 : decode cX2_passBarrier 1 = .ok (.iconst 0, 1) := by decide +kernel
theorem dX2_passBarrier_2 : decode cX2_passBarrier 2 = .ok (.putfield 99, 3) := by decide +kernel
theorem dX2_passBarrier_5 : decode cX2_passBarrier 5 = .ok (.aload_n 1, 1) := by decide +kernel
theorem dX2_passBarrier_6 : decode cX2_passBarrier 6 = .ok (.invokestatic 161, 3) := by decide +kernel
theorem dX2_passBarrier_9 : decode cX2_passBarrier 9 = .ok (.invokevirtual 164, 3) := by decide +kernel
theorem dX2_passBarrier_12 : decode cX2_passBarrier 12 = .ok (.aload_n 0, 1) := by decide +kernel
theorem dX2_passBarrier_13 : decode cX2_passBarrier 13 = .ok (.getfield 25, 3) := by decide +kernel
theorem dX2_passBarrier_16 : decode cX2_passBarrier 16 = .ok (.ifCond .eq 4, 3) := by decide +kernel
theorem dX2_passBarrier_19 : decode cX2_passBarrier 19 = .ok (.return_, 1) := by decide +kernel
theorem dX2_passBarrier_20 : decode cX2_passBarrier 20 = .ok (.aload_n 1, 1) := by decide +kernel
theorem dX2_passBarrier_21 : decode cX2_passBarrier 21 = .ok (.getfield 168, 3) := by decide +kernel
theorem dX2_passBarrier_24 : decode cX2_passBarrier 24 = .ok (.aload_n 1, 1) := by decide +kernel
theorem dX2_passBarrier_25 : decode cX2_passBarrier 25 = .ok (.getfield 128, 3) := by decide +kernel
theorem dX2_passBarrier_28 : decode cX2_passBarrier 28 = .ok (.invokevirtual 171, 3) := by decide +kernel
theorem dX2_passBarrier_31 : decode cX2_passBarrier 31 = .ok (.aload_n 0, 1) := by decide +kernel
theorem dX2_passBarrier_32 : decode cX2_passBarrier 32 = .ok (.dup, 1) := by decide +kernel
theorem dX2_passBarrier_33 : decode cX2_passBarrier 33 = .ok (.getfield 175, 3) := by decide +kernel
theorem dX2_passBarrier_36 : decode cX2_passBarrier 36 = .ok (.iconst 1, 1) := by decide +kernel
theorem dX2_passBarrier_37 : decode cX2_passBarrier 37 = .ok (.isub, 1) := by decide +kernel
theorem dX2_passBarrier_38 : decode cX2_passBarrier 38 = .ok (.putfield 175, 3) := by decide +kernel
theorem dX2_passBarrier_41 : decode cX2_passBarrier 41 = .ok (.aload_n 0, 1) := by decide +kernel
theorem dX2_passBarrier_42 : decode cX2_passBarrier 42 = .ok (.getfield 175, 3) := by decide +kernel
theorem dX2_passBarrier_45 : decode cX2_passBarrier 45 = .ok (.ifCond .ne 7, 3) := by decide +kernel
theorem dX2_passBarrier_48 : decode cX2_passBarrier 48 = .ok (.aload_n 0, 1) := by decide +kernel
theorem dX2_passBarrier_49 : decode cX2_passBarrier 49 = .ok (.invokevirtual 178, 3) := by decide +kernel
theorem dX2_passBarrier_52 : decode cX2_passBarrier 52 = .ok (.return_, 1) := by decide +kernel
set_option maxRecDepth 20000 in
theorem ggX2_completeCheckpoint_Jx4a65c_size_8abf5 : GoodIn wsX2_completeCheckpoint wsJx4a65c_size_8abf5 := goodIn_r _ [9, 10, 43, 44, 45] (by decide +kernel) (by decide +kernel)
set_option maxRecDepth 20000 in
theorem gX2_completeCheckpoint_Jx4a65c_size_8abf5 : GoodIn wsX2_completeCheckpoint (wsV RX2 29 RJx4a65c yJx4a65c_size_8abf5 wsJx4a65c_size_8abf5) := goodIn_app (goodIn_of _ (by decide +kernel)) ggX2_completeCheckpoint_Jx4a65c_size_8abf5
set_option maxRecDepth 20000 in
theorem ggX2_completeCheckpoint_Jx4a65c_get_915e3 : GoodIn wsX2_completeCheckpoint wsJx4a65c_get_915e3 := goodIn_r _ [14, 10, 15, 16, 17, 18, 19, 20, 21, 22, 23, 24, 25, 8, 26, 27, 43, 44, 45] (by decide +kernel) (by decide +kernel)
set_option maxRecDepth 20000 in
theorem gX2_completeCheckpoint_Jx4a65c_get_915e3 : GoodIn wsX2_completeCheckpoint (wsV RX2 33 RJx4a65c yJx4a65c_get_915e3 wsJx4a65c_get_915e3) := goodIn_app (goodIn_of _ (by decide +kernel)) ggX2_completeCheckpoint_Jx4a65c_get_915e3
set_option maxRecDepth 20000 in
theorem ggX2_completeCheckpoint_X8_adoptSaved : GoodIn wsX2_completeCheckpoint wsX8_adoptSaved := goodIn_r _ [32, 33, 34, 46, 47, 48, 49, 50, 51, 52, 53, 54, 55, 56, 57] (by decide +kernel) (by decide +kernel)
set_option maxRecDepth 20000 in
theorem gX2_completeCheckpoint_X8_adoptSaved : GoodIn wsX2_completeCheckpoint (wsV RX2 181 RX8 yX8_adoptSaved wsX8_adoptSaved) := goodIn_app (goodIn_of _ (by decide +kernel)) ggX2_completeCheckpoint_X8_adoptSaved
theorem dX2_completeCheckpoint_0 : decode cX2_completeCheckpoint 0 = .ok (.iconst 0, 1) := by decide +kernel
theorem dX2_completeCheckpoint_1 : decode cX2_completeCheckpoint 1 = .ok (.istore_n 1, 1) := by decide +kernel
theorem dX2_completeCheckpoint_2 : decode cX2_completeCheckpoint 2 = .ok (.iload_n 1, 1) := by decide +kernel
theorem dX2_completeCheckpoint_3 : decode cX2_completeCheckpoint 3 = .ok (.aload_n 0, 1) := by decide +kernel
theorem dX2_completeCheckpoint_4 : decode cX2_completeCheckpoint 4 = .ok (.getfield 12, 3) := by decide +kernel
theorem dX2_completeCheckpoint_7 : decode cX2_completeCheckpoint 7 = .ok (.invokevirtual 29, 3) := by decide +kernel
theorem dX2_completeCheckpoint_10 : decode cX2_completeCheckpoint 10 = .ok (.if_icmp .ge 23, 3) := by decide +kernel
theorem dX2_completeCheckpoint_13 : decode cX2_completeCheckpoint 13 = .ok (.aload_n 0, 1) := by decide +kernel
theorem dX2_completeCheckpoint_14 : decode cX2_completeCheckpoint 14 = .ok (.getfield 12, 3) := by decide +kernel
theorem dX2_completeCheckpoint_17 : decode cX2_completeCheckpoint 17 = .ok (.iload_n 1, 1) := by decide +kernel
theorem dX2_completeCheckpoint_18 : decode cX2_completeCheckpoint 18 = .ok (.invokevirtual 33, 3) := by decide +kernel
theorem dX2_completeCheckpoint_21 : decode cX2_completeCheckpoint 21 = .ok (.checkcast 37, 3) := by decide +kernel
theorem dX2_completeCheckpoint_24 : decode cX2_completeCheckpoint 24 = .ok (.invokevirtual 181, 3) := by decide +kernel
theorem dX2_completeCheckpoint_27 : decode cX2_completeCheckpoint 27 = .ok (.iinc 1 1, 3) := by decide +kernel
theorem dX2_completeCheckpoint_30 : decode cX2_completeCheckpoint 30 = .ok (.goto (-28), 3) := by decide +kernel
theorem dX2_completeCheckpoint_33 : decode cX2_completeCheckpoint 33 = .ok (.aload_n 0, 1) := by decide +kernel
theorem dX2_completeCheckpoint_34 : decode cX2_completeCheckpoint 34 = .ok (.aload_n 0, 1) := by decide +kernel
theorem dX2_completeCheckpoint_35 : decode cX2_completeCheckpoint 35 = .ok (.getfield 184, 3) := by decide +kernel
theorem dX2_completeCheckpoint_38 : decode cX2_completeCheckpoint 38 = .ok (.putfield 187, 3) := by decide +kernel
theorem dX2_completeCheckpoint_41 : decode cX2_completeCheckpoint 41 = .ok (.aload_n 0, 1) := by decide +kernel
theorem dX2_completeCheckpoint_42 : decode cX2_completeCheckpoint 42 = .ok (.iconst 0, 1) := by decide +kernel
theorem dX2_completeCheckpoint_43 : decode cX2_completeCheckpoint 43 = .ok (.putfield 184, 3) := by decide +kernel
theorem dX2_completeCheckpoint_46 : decode cX2_completeCheckpoint 46 = .ok (.return_, 1) := by decide +kernel
set_option maxRecDepth 20000 in
theorem ggX2_beginCheckpoint_Jx4a65c_size_8abf5 : GoodIn wsX2_beginCheckpoint wsJx4a65c_size_8abf5 := goodIn_r _ [10, 11, 64, 65, 66] (by decide +kernel) (by decide +kernel)
set_option maxRecDepth 20000 in
theorem gX2_beginCheckpoint_Jx4a65c_size_8abf5 : GoodIn wsX2_beginCheckpoint (wsV RX2 29 RJx4a65c yJx4a65c_size_8abf5 wsJx4a65c_size_8abf5) := goodIn_app (goodIn_of _ (by decide +kernel)) ggX2_beginCheckpoint_Jx4a65c_size_8abf5
set_option maxRecDepth 20000 in
theorem ggX2_beginCheckpoint_Jx4a65c_get_915e3 : GoodIn wsX2_beginCheckpoint wsJx4a65c_get_915e3 := goodIn_r _ [15, 11, 16, 17, 18, 19, 20, 21, 22, 23, 24, 25, 26, 9, 27, 28, 64, 65, 66] (by decide +kernel) (by decide +kernel)
set_option maxRecDepth 20000 in
theorem gX2_beginCheckpoint_Jx4a65c_get_915e3 : GoodIn wsX2_beginCheckpoint (wsV RX2 33 RJx4a65c yJx4a65c_get_915e3 wsJx4a65c_get_915e3) := goodIn_app (goodIn_of _ (by decide +kernel)) ggX2_beginCheckpoint_Jx4a65c_get_915e3
theorem dX2_beginCheckpoint_0 : decode cX2_beginCheckpoint 0 = .ok (.aload_n 0, 1) := by decide +kernel
theorem dX2_beginCheckpoint_1 : decode cX2_beginCheckpoint 1 = .ok (.dup, 1) := by decide +kernel
theorem dX2_beginCheckpoint_2 : decode cX2_beginCheckpoint 2 = .ok (.getfield 190, 3) := by decide +kernel
theorem dX2_beginCheckpoint_5 : decode cX2_beginCheckpoint 5 = .ok (.iconst 1, 1) := by decide +kernel
theorem dX2_beginCheckpoint_6 : decode cX2_beginCheckpoint 6 = .ok (.iadd, 1) := by decide +kernel
theorem dX2_beginCheckpoint_7 : decode cX2_beginCheckpoint 7 = .ok (.putfield 190, 3) := by decide +kernel
theorem dX2_beginCheckpoint_10 : decode cX2_beginCheckpoint 10 = .ok (.aload_n 0, 1) := by decide +kernel
theorem dX2_beginCheckpoint_11 : decode cX2_beginCheckpoint 11 = .ok (.aload_n 0, 1) := by decide +kernel
theorem dX2_beginCheckpoint_12 : decode cX2_beginCheckpoint 12 = .ok (.getfield 190, 3) := by decide +kernel
theorem dX2_beginCheckpoint_15 : decode cX2_beginCheckpoint 15 = .ok (.putfield 184, 3) := by decide +kernel
theorem dX2_beginCheckpoint_18 : decode cX2_beginCheckpoint 18 = .ok (.aload_n 0, 1) := by decide +kernel
theorem dX2_beginCheckpoint_19 : decode cX2_beginCheckpoint 19 = .ok (.aload_n 0, 1) := by decide +kernel
theorem dX2_beginCheckpoint_20 : decode cX2_beginCheckpoint 20 = .ok (.getfield 12, 3) := by decide +kernel
theorem dX2_beginCheckpoint_23 : decode cX2_beginCheckpoint 23 = .ok (.invokevirtual 29, 3) := by decide +kernel
theorem dX2_beginCheckpoint_26 : decode cX2_beginCheckpoint 26 = .ok (.putfield 175, 3) := by decide +kernel
theorem dX2_beginCheckpoint_29 : decode cX2_beginCheckpoint 29 = .ok (.iconst 0, 1) := by decide +kernel
theorem dX2_beginCheckpoint_30 : decode cX2_beginCheckpoint 30 = .ok (.istore_n 1, 1) := by decide +kernel
theorem dX2_beginCheckpoint_31 : decode cX2_beginCheckpoint 31 = .ok (.iload_n 1, 1) := by decide +kernel
theorem dX2_beginCheckpoint_32 : decode cX2_beginCheckpoint 32 = .ok (.aload_n 0, 1) := by decide +kernel
theorem dX2_beginCheckpoint_33 : decode cX2_beginCheckpoint 33 = .ok (.getfield 12, 3) := by decide +kernel
theorem dX2_beginCheckpoint_36 : decode cX2_beginCheckpoint 36 = .ok (.invokevirtual 29, 3) := by decide +kernel
theorem dX2_beginCheckpoint_39 : decode cX2_beginCheckpoint 39 = .ok (.if_icmp .ge 40, 3) := by decide +kernel
theorem dX2_beginCheckpoint_42 : decode cX2_beginCheckpoint 42 = .ok (.aload_n 0, 1) := by decide +kernel
theorem dX2_beginCheckpoint_43 : decode cX2_beginCheckpoint 43 = .ok (.getfield 12, 3) := by decide +kernel
theorem dX2_beginCheckpoint_46 : decode cX2_beginCheckpoint 46 = .ok (.iload_n 1, 1) := by decide +kernel
theorem dX2_beginCheckpoint_47 : decode cX2_beginCheckpoint 47 = .ok (.invokevirtual 33, 3) := by decide +kernel
theorem dX2_beginCheckpoint_50 : decode cX2_beginCheckpoint 50 = .ok (.checkcast 37, 3) := by decide +kernel
theorem dX2_beginCheckpoint_53 : decode cX2_beginCheckpoint 53 = .ok (.astore_n 2, 1) := by decide +kernel
theorem dX2_beginCheckpoint_54 : decode cX2_beginCheckpoint 54 = .ok (.aload_n 2, 1) := by decide +kernel
theorem dX2_beginCheckpoint_55 : decode cX2_beginCheckpoint 55 = .ok (.aload_n 2, 1) := by decide +kernel
theorem dX2_beginCheckpoint_56 : decode cX2_beginCheckpoint 56 = .ok (.getfield 92, 3) := by decide +kernel
theorem dX2_beginCheckpoint_59 : decode cX2_beginCheckpoint 59 = .ok (.getfield 96, 3) := by decide +kernel
theorem dX2_beginCheckpoint_62 : decode cX2_beginCheckpoint 62 = .ok (.ifCond .ne 7, 3) := by decide +kernel
theorem dX2_beginCheckpoint_65 : decode cX2_beginCheckpoint 65 = .ok (.iconst 1, 1) := by decide +kernel
theorem dX2_beginCheckpoint_66 : decode cX2_beginCheckpoint 66 = .ok (.goto 4, 3) := by decide +kernel
theorem dX2_beginCheckpoint_69 : decode cX2_beginCheckpoint 69 = .ok (.iconst 0, 1) := by decide +kernel
theorem dX2_beginCheckpoint_70 : decode cX2_beginCheckpoint 70 = .ok (.putfield 99, 3) := by decide +kernel
theorem dX2_beginCheckpoint_73 : decode cX2_beginCheckpoint 73 = .ok (.iinc 1 1, 3) := by decide +kernel
theorem dX2_beginCheckpoint_76 : decode cX2_beginCheckpoint 76 = .ok (.goto (-45), 3) := by decide +kernel
theorem dX2_beginCheckpoint_79 : decode cX2_beginCheckpoint 79 = .ok (.aload_n 0, 1) := by decide +kernel
theorem dX2_beginCheckpoint_80 : decode cX2_beginCheckpoint 80 = .ok (.getfield 184, 3) := by decide +kernel
theorem dX2_beginCheckpoint_83 : decode cX2_beginCheckpoint 83 = .ok (.ireturn, 1) := by decide +kernel
set_option maxRecDepth 20000 in
theorem ggX2_goBack_Jx4a65c_size_8abf5 : GoodIn wsX2_goBack wsJx4a65c_size_8abf5 := goodIn_r _ [10, 11, 106, 107, 108] (by decide +kernel) (by decide +kernel)
set_option maxRecDepth 20000 in
theorem gX2_goBack_Jx4a65c_size_8abf5 : GoodIn wsX2_goBack (wsV RX2 29 RJx4a65c yJx4a65c_size_8abf5 wsJx4a65c_size_8abf5) := goodIn_app (goodIn_of _ (by decide +kernel)) ggX2_goBack_Jx4a65c_size_8abf5
set_option maxRecDepth 20000 in
theorem ggX2_goBack_Jx4a65c_get_915e3 : GoodIn wsX2_goBack wsJx4a65c_get_915e3 := goodIn_r _ [15, 11, 16, 17, 18, 19, 20, 21, 22, 23, 24, 25, 26, 9, 27, 28, 106, 107, 108] (by decide +kernel) (by decide +kernel)
set_option maxRecDepth 20000 in
theorem gX2_goBack_Jx4a65c_get_915e3 : GoodIn wsX2_goBack (wsV RX2 33 RJx4a65c yJx4a65c_get_915e3 wsJx4a65c_get_915e3) := goodIn_app (goodIn_of _ (by decide +kernel)) ggX2_goBack_Jx4a65c_get_915e3
set_option maxRecDepth 20000 in
theorem ggX2_goBack_X8_goBack : GoodIn wsX2_goBack wsX8_goBack := goodIn_r _ [33, 34, 35, 36, 37, 38, 39, 40, 41, 42, 43, 44, 45, 46, 47, 48, 49, 50, 51, 52, 53, 54, 55, 56, 57, 58, 59, 60, 61, 62, 63, 64, 65, 66, 67, 68, 69, 70, 71, 72, 73, 74, 75, 76, 77, 78, 79, 80, 81, 82, 83, 84, 85, 86, 87, 88, 89, 90, 91, 92, 93, 94, 95, 96, 7, 8, 9, 10, 11, 97, 13, 14, 15, 16, 17, 18, 19, 20, 21, 22, 23, 24, 25, 26, 27, 28, 109, 110, 111, 112, 113, 114, 115, 116, 117, 118, 119, 120, 121, 122, 123, 124, 125, 126, 127, 128, 129, 130, 131, 132, 133, 134, 135, 136, 137, 138, 139, 140, 106, 107, 108] (by decide +kernel) (by decide +kernel)
set_option maxRecDepth 20000 in
theorem gX2_goBack_X8_goBack : GoodIn wsX2_goBack (wsV RX2 193 RX8 yX8_goBack wsX8_goBack) := goodIn_app (goodIn_of _ (by decide +kernel)) ggX2_goBack_X8_goBack
theorem dX2_goBack_0 : decode cX2_goBack 0 = .ok (.iconst 0, 1) := by decide +kernel
theorem dX2_goBack_1 : decode cX2_goBack 1 = .ok (.istore_n 1, 1) := by decide +kernel
theorem dX2_goBack_2 : decode cX2_goBack 2 = .ok (.iload_n 1, 1) := by decide +kernel
theorem dX2_goBack_3 : decode cX2_goBack 3 = .ok (.aload_n 0, 1) := by decide +kernel
theorem dX2_goBack_4 : decode cX2_goBack 4 = .ok (.getfield 12, 3) := by decide +kernel
theorem dX2_goBack_7 : decode cX2_goBack 7 = .ok (.invokevirtual 29, 3) := by decide +kernel
theorem dX2_goBack_10 : decode cX2_goBack 10 = .ok (.if_icmp .ge 23, 3) := by decide +kernel
theorem dX2_goBack_13 : decode cX2_goBack 13 = .ok (.aload_n 0, 1) := by decide +kernel
theorem dX2_goBack_14 : decode cX2_goBack 14 = .ok (.getfield 12, 3) := by decide +kernel
theorem dX2_goBack_17 : decode cX2_goBack 17 = .ok (.iload_n 1, 1) := by decide +kernel
theorem dX2_goBack_18 : decode cX2_goBack 18 = .ok (.invokevirtual 33, 3) := by decide +kernel
theorem dX2_goBack_21 : decode cX2_goBack 21 = .ok (.checkcast 37, 3) := by decide +kernel
theorem dX2_goBack_24 : decode cX2_goBack 24 = .ok (.invokevirtual 193, 3) := by decide +kernel
theorem dX2_goBack_27 : decode cX2_goBack 27 = .ok (.iinc 1 1, 3) := by decide +kernel
theorem dX2_goBack_30 : decode cX2_goBack 30 = .ok (.goto (-28), 3) := by decide +kernel
theorem dX2_goBack_33 : decode cX2_goBack 33 = .ok (.aload_n 0, 1) := by decide +kernel
theorem dX2_goBack_34 : decode cX2_goBack 34 = .ok (.iconst 0, 1) := by decide +kernel
theorem dX2_goBack_35 : decode cX2_goBack 35 = .ok (.putfield 184, 3) := by decide +kernel
theorem dX2_goBack_38 : decode cX2_goBack 38 = .ok (.aload_n 0, 1) := by decide +kernel
theorem dX2_goBack_39 : decode cX2_goBack 39 = .ok (.iconst (-1), 1) := by decide +kernel
theorem dX2_goBack_40 : decode cX2_goBack 40 = .ok (.putfield 22, 3) := by decide +kernel
theorem dX2_goBack_43 : decode cX2_goBack 43 = .ok (.aload_n 0, 1) := by decide +kernel
theorem dX2_goBack_44 : decode cX2_goBack 44 = .ok (.getfield 187, 3) := by decide +kernel
theorem dX2_goBack_47 : decode cX2_goBack 47 = .ok (.ireturn, 1) := by decide +kernel
set_option maxRecDepth 20000 in
theorem ggX2_become_Jx4a65c_size_8abf5 : GoodIn wsX2_become wsJx4a65c_size_8abf5 := goodIn_r _ [9, 10, 109, 110, 111] (by decide +kernel) (by decide +kernel)
set_option maxRecDepth 20000 in
theorem gX2_become_Jx4a65c_size_8abf5 : GoodIn wsX2_become (wsV RX2 29 RJx4a65c yJx4a65c_size_8abf5 wsJx4a65c_size_8abf5) := goodIn_app (goodIn_of _ (by decide +kernel)) ggX2_become_Jx4a65c_size_8abf5
set_option maxRecDepth 20000 in
theorem ggX2_become_Jx4a65c_get_915e3 : GoodIn wsX2_become wsJx4a65c_get_915e3 := goodIn_r _ [14, 10, 15, 16, 17, 18, 19, 20, 21, 22, 23, 24, 25, 8, 26, 27, 109, 110, 111] (by decide +kernel) (by decide +kernel)
set_option maxRecDepth 20000 in
theorem gX2_become_Jx4a65c_get_915e3 : GoodIn wsX2_become (wsV RX2 33 RJx4a65c yJx4a65c_get_915e3 wsJx4a65c_get_915e3) := goodIn_app (goodIn_of _ (by decide +kernel)) ggX2_become_Jx4a65c_get_915e3
set_option maxRecDepth 20000 in
theorem ggX2_become_X8_become : GoodIn wsX2_become wsX8_become := goodIn_r _ [32, 33, 34, 35, 36, 37, 38, 39, 40, 41, 42, 43, 44, 45, 46, 47, 48, 49, 50, 51, 52, 53, 54, 55, 56, 57, 58, 59, 60, 61, 62, 63, 64, 65, 66, 67, 68, 69, 70, 71, 72, 73, 74, 75, 76, 77, 78, 79, 80, 81, 82, 83, 84, 85, 86, 87, 88, 89, 90, 91, 92, 93, 94, 95, 96, 97, 98, 6, 7, 8, 9, 10, 99, 12, 13, 14, 15, 16, 17, 18, 19, 20, 21, 22, 23, 24, 25, 26, 27, 100, 112, 113, 114, 115, 116, 117, 118, 119, 120, 121, 122, 123, 124, 125, 126, 127, 128, 129, 130, 131, 132, 133, 134, 135, 136, 137, 138, 139, 140, 141, 142, 143, 109, 110, 111] (by decide +kernel) (by decide +kernel)
set_option maxRecDepth 20000 in
theorem gX2_become_X8_become : GoodIn wsX2_become (wsV RX2 196 RX8 yX8_become wsX8_become) := goodIn_app (goodIn_of _ (by decide +kernel)) ggX2_become_X8_become
theorem dX2_become_0 : decode cX2_become 0 = .ok (.aload_n 0, 1) := by decide +kernel
theorem dX2_become_1 : decode cX2_become 1 = .ok (.aload_n 1, 1) := by decide +kernel
theorem dX2_become_2 : decode cX2_become 2 = .ok (.getfield 18, 3) := by decide +kernel
theorem dX2_become_5 : decode cX2_become 5 = .ok (.putfield 18, 3) := by decide +kernel
theorem dX2_become_8 : decode cX2_become 8 = .ok (.aload_n 0, 1) := by decide +kernel
theorem dX2_become_9 : decode cX2_become 9 = .ok (.aload_n 1, 1) := by decide +kernel
theorem dX2_become_10 : decode cX2_become 10 = .ok (.getfield 22, 3) := by decide +kernel
theorem dX2_become_13 : decode cX2_become 13 = .ok (.putfield 22, 3) := by decide +kernel
theorem dX2_become_16 : decode cX2_become 16 = .ok (.iconst 0, 1) := by decide +kernel
theorem dX2_become_17 : decode cX2_become 17 = .ok (.istore_n 2, 1) := by decide +kernel
theorem dX2_become_18 : decode cX2_become 18 = .ok (.iload_n 2, 1) := by decide +kernel
theorem dX2_become_19 : decode cX2_become 19 = .ok (.aload_n 0, 1) := by decide +kernel
theorem dX2_become_20 : decode cX2_become 20 = .ok (.getfield 12, 3) := by decide +kernel
theorem dX2_become_23 : decode cX2_become 23 = .ok (.invokevirtual 29, 3) := by decide +kernel
theorem dX2_become_26 : decode cX2_become 26 = .ok (.if_icmp .ge 45, 3) := by decide +kernel
theorem dX2_become_29 : decode cX2_become 29 = .ok (.iload_n 2, 1) := by decide +kernel
theorem dX2_become_30 : decode cX2_become 30 = .ok (.aload_n 1, 1) := by decide +kernel
theorem dX2_become_31 : decode cX2_become 31 = .ok (.getfield 12, 3) := by decide +kernel
theorem dX2_become_34 : decode cX2_become 34 = .ok (.invokevirtual 29, 3) := by decide +kernel
theorem dX2_become_37 : decode cX2_become 37 = .ok (.if_icmp .ge 34, 3) := by decide +kernel
theorem dX2_become_40 : decode cX2_become 40 = .ok (.aload_n 0, 1) := by decide +kernel
theorem dX2_become_41 : decode cX2_become 41 = .ok (.getfield 12, 3) := by decide +kernel
theorem dX2_become_44 : decode cX2_become 44 = .ok (.iload_n 2, 1) := by decide +kernel
theorem dX2_become_45 : decode cX2_become 45 = .ok (.invokevirtual 33, 3) := by decide +kernel
theorem dX2_become_48 : decode cX2_become 48 = .ok (.checkcast 37, 3) := by decide +kernel
theorem dX2_become_51 : decode cX2_become 51 = .ok (.aload_n 1, 1) := by decide +kernel
theorem dX2_become_52 : decode cX2_become 52 = .ok (.getfield 12, 3) := by decide +kernel
theorem dX2_become_55 : decode cX2_become 55 = .ok (.iload_n 2, 1) := by decide +kernel
theorem dX2_become_56 : decode cX2_become 56 = .ok (.invokevirtual 33, 3) := by decide +kernel
theorem dX2_become_59 : decode cX2_become 59 = .ok (.checkcast 37, 3) := by decide +kernel
theorem dX2_become_62 : decode cX2_become 62 = .ok (.invokevirtual 196, 3) := by decide +kernel
theorem dX2_become_65 : decode cX2_become 65 = .ok (.iinc 2 1, 3) := by decide +kernel
theorem dX2_become_68 : decode cX2_become 68 = .ok (.goto (-50), 3) := by decide +kernel
theorem dX2_become_71 : decode cX2_become 71 = .ok (.return_, 1) := by decide +kernel
theorem dX3_event_0 : decode cX3_event 0 = .ok (.iload_n 2, 1) := by decide +kernel
theorem dX3_event_1 : decode cX3_event 1 = .ok (.i2l, 1) := by decide +kernel
theorem dX3_event_2 : decode cX3_event 2 = .ok (.bipush 40, 2) := by decide +kernel
theorem dX3_event_4 : decode cX3_event 4 = .ok (.lshl, 1) := by decide +kernel
theorem dX3_event_5 : decode cX3_event 5 = .ok (.iload_n 0, 1) := by decide +kernel
theorem dX3_event_6 : decode cX3_event 6 = .ok (.i2l, 1) := by decide +kernel
theorem dX3_event_7 : decode cX3_event 7 = .ok (.bipush 32, 2) := by decide +kernel
theorem dX3_event_9 : decode cX3_event 9 = .ok (.lshl, 1) := by decide +kernel
theorem dX3_event_10 : decode cX3_event 10 = .ok (.lor, 1) := by decide +kernel
theorem dX3_event_11 : decode cX3_event 11 = .ok (.iload_n 1, 1) := by decide +kernel
theorem dX3_event_12 : decode cX3_event 12 = .ok (.i2l, 1) := by decide +kernel
theorem dX3_event_13 : decode cX3_event 13 = .ok (.ldc2_w 7, 3) := by decide +kernel
theorem dX3_event_16 : decode cX3_event 16 = .ok (.land, 1) := by decide +kernel
theorem dX3_event_17 : decode cX3_event 17 = .ok (.lor, 1) := by decide +kernel
theorem dX3_event_18 : decode cX3_event 18 = .ok (.lreturn, 1) := by decide +kernel
theorem dX3_mark_0 : decode cX3_mark 0 = .ok (.ldc2_w 11, 3) := by decide +kernel
theorem dX3_mark_3 : decode cX3_mark 3 = .ok (.iload_n 0, 1) := by decide +kernel
theorem dX3_mark_4 : decode cX3_mark 4 = .ok (.i2l, 1) := by decide +kernel
theorem dX3_mark_5 : decode cX3_mark 5 = .ok (.bipush 40, 2) := by decide +kernel
theorem dX3_mark_7 : decode cX3_mark 7 = .ok (.lshl, 1) := by decide +kernel
theorem dX3_mark_8 : decode cX3_mark 8 = .ok (.lor, 1) := by decide +kernel
theorem dX3_mark_9 : decode cX3_mark 9 = .ok (.lreturn, 1) := by decide +kernel
theorem dX3_barrier_0 : decode cX3_barrier 0 = .ok (.ldc2_w 13, 3) := by decide +kernel
theorem dX3_barrier_3 : decode cX3_barrier 3 = .ok (.lreturn, 1) := by decide +kernel
theorem dX3_kind_0 : decode cX3_kind 0 = .ok (.lload_n 0, 1) := by decide +kernel
theorem dX3_kind_1 : decode cX3_kind 1 = .ok (.bipush 60, 2) := by decide +kernel
theorem dX3_kind_3 : decode cX3_kind 3 = .ok (.lushr, 1) := by decide +kernel
theorem dX3_kind_4 : decode cX3_kind 4 = .ok (.l2i, 1) := by decide +kernel
theorem dX3_kind_5 : decode cX3_kind 5 = .ok (.ireturn, 1) := by decide +kernel
theorem dX3_time_0 : decode cX3_time 0 = .ok (.lload_n 0, 1) := by decide +kernel
theorem dX3_time_1 : decode cX3_time 1 = .ok (.bipush 40, 2) := by decide +kernel
theorem dX3_time_3 : decode cX3_time 3 = .ok (.lushr, 1) := by decide +kernel
theorem dX3_time_4 : decode cX3_time 4 = .ok (.ldc2_w 15, 3) := by decide +kernel
theorem dX3_time_7 : decode cX3_time 7 = .ok (.land, 1) := by decide +kernel
theorem dX3_time_8 : decode cX3_time 8 = .ok (.l2i, 1) := by decide +kernel
theorem dX3_time_9 : decode cX3_time 9 = .ok (.ireturn, 1) := by decide +kernel
theorem dX3_key_0 : decode cX3_key 0 = .ok (.lload_n 0, 1) := by decide +kernel
theorem dX3_key_1 : decode cX3_key 1 = .ok (.bipush 32, 2) := by decide +kernel
theorem dX3_key_3 : decode cX3_key 3 = .ok (.lushr, 1) := by decide +kernel
theorem dX3_key_4 : decode cX3_key 4 = .ok (.ldc2_w 17, 3) := by decide +kernel
theorem dX3_key_7 : decode cX3_key 7 = .ok (.land, 1) := by decide +kernel
theorem dX3_key_8 : decode cX3_key 8 = .ok (.l2i, 1) := by decide +kernel
theorem dX3_key_9 : decode cX3_key 9 = .ok (.ireturn, 1) := by decide +kernel
theorem dX3_value_0 : decode cX3_value 0 = .ok (.lload_n 0, 1) := by decide +kernel
theorem dX3_value_1 : decode cX3_value 1 = .ok (.l2i, 1) := by decide +kernel
theorem dX3_value_2 : decode cX3_value 2 = .ok (.ireturn, 1) := by decide +kernel
set_option maxRecDepth 20000 in
theorem ggX4_init_X6_init : GoodIn wsX4_init wsX6_init := goodIn_r _ [13, 14, 2, 3, 15, 16, 32, 33] (by decide +kernel) (by decide +kernel)
set_option maxRecDepth 20000 in
theorem gX4_init_X6_init_n9 : GoodIn wsX4_init (wsX6_init) := ggX4_init_X6_init
set_option maxRecDepth 20000 in
theorem ggX4_init_Jx4a65c_init_da8c8 : GoodIn wsX4_init wsJx4a65c_init_da8c8 := goodIn_r _ [19, 20, 21, 22, 23, 24, 25, 26, 27, 28, 29, 30, 31, 2, 3, 36, 37, 38] (by decide +kernel) (by decide +kernel)
set_option maxRecDepth 20000 in
theorem gX4_init_Jx4a65c_init_da8c8 : GoodIn wsX4_init (wsJx4a65c_init_da8c8) := ggX4_init_Jx4a65c_init_da8c8
theorem dX4_init_0 : decode cX4_init 0 = .ok (.aload_n 0, 1) := by decide +kernel
theorem dX4_init_1 : decode cX4_init 1 = .ok (.invokespecial 1, 3) := by decide +kernel
theorem dX4_init_4 : decode cX4_init 4 = .ok (.aload_n 0, 1) := by decide +kernel
theorem dX4_init_5 : decode cX4_init 5 = .ok (.new 7, 3) := by decide +kernel
theorem dX4_init_8 : decode cX4_init 8 = .ok (.dup, 1) := by decide +kernel
theorem dX4_init_9 : decode cX4_init 9 = .ok (.invokespecial 9, 3) := by decide +kernel
theorem dX4_init_12 : decode cX4_init 12 = .ok (.putfield 10, 3) := by decide +kernel
theorem dX4_init_15 : decode cX4_init 15 = .ok (.aload_n 0, 1) := by decide +kernel
theorem dX4_init_16 : decode cX4_init 16 = .ok (.new 16, 3) := by decide +kernel
theorem dX4_init_19 : decode cX4_init 19 = .ok (.dup, 1) := by decide +kernel
theorem dX4_init_20 : decode cX4_init 20 = .ok (.invokespecial 18, 3) := by decide +kernel
theorem dX4_init_23 : decode cX4_init 23 = .ok (.putfield 19, 3) := by decide +kernel
theorem dX4_init_26 : decode cX4_init 26 = .ok (.return_, 1) := by decide +kernel
set_option maxRecDepth 20000 in
theorem ggX4_open_X1_init : GoodIn wsX4_open wsX1_init := goodIn_r _ [8, 9, 10, 11, 12, 69, 70, 71] (by decide +kernel) (by decide +kernel)
set_option maxRecDepth 20000 in
theorem gX4_open_X1_init : GoodIn wsX4_open (wsX1_init) := ggX4_open_X1_init
set_option maxRecDepth 20000 in
theorem ggX4_open_Jx4a65c_add_9ea2d : GoodIn wsX4_open wsJx4a65c_add_9ea2d := goodIn_r _ [17, 18, 19, 20, 21, 22, 23, 24, 16, 25, 26, 27, 28, 29, 30, 31, 32, 33, 34, 35, 36, 37, 38, 39, 40, 41, 42, 43, 44, 45, 46, 47, 48, 49, 50, 51, 52, 53, 54, 55, 56, 57, 58, 59, 60, 61, 62, 63, 64, 65, 66, 67, 68, 74, 75, 76] (by decide +kernel) (by decide +kernel)
set_option maxRecDepth 20000 in
theorem gX4_open_Jx4a65c_add_9ea2d : GoodIn wsX4_open (wsV RX4 28 RJx4a65c yJx4a65c_add_9ea2d wsJx4a65c_add_9ea2d) := goodIn_app (goodIn_of _ (by decide +kernel)) ggX4_open_Jx4a65c_add_9ea2d
theorem dX4_open_0 : decode cX4_open 0 = .ok (.new 23, 3) := by decide +kernel
theorem dX4_open_3 : decode cX4_open 3 = .ok (.dup, 1) := by decide +kernel
theorem dX4_open_4 : decode cX4_open 4 = .ok (.aload_n 0, 1) := by decide +kernel
theorem dX4_open_5 : decode cX4_open 5 = .ok (.getfield 10, 3) := by decide +kernel
theorem dX4_open_8 : decode cX4_open 8 = .ok (.invokespecial 25, 3) := by decide +kernel
theorem dX4_open_11 : decode cX4_open 11 = .ok (.astore_n 1, 1) := by decide +kernel
theorem dX4_open_12 : decode cX4_open 12 = .ok (.aload_n 0, 1) := by decide +kernel
theorem dX4_open_13 : decode cX4_open 13 = .ok (.getfield 19, 3) := by decide +kernel
theorem dX4_open_16 : decode cX4_open 16 = .ok (.aload_n 1, 1) := by decide +kernel
theorem dX4_open_17 : decode cX4_open 17 = .ok (.invokevirtual 28, 3) := by decide +kernel
theorem dX4_open_20 : decode cX4_open 20 = .ok (.pop, 1) := by decide +kernel
theorem dX4_open_21 : decode cX4_open 21 = .ok (.aload_n 1, 1) := by decide +kernel
theorem dX4_open_22 : decode cX4_open 22 = .ok (.areturn, 1) := by decide +kernel
set_option maxRecDepth 20000 in
theorem ggX4_isBelow_X6_length : GoodIn wsX4_isBelow wsX6_length := goodIn_r _ [6, 7, 44, 45] (by decide +kernel) (by decide +kernel)
set_option maxRecDepth 20000 in
theorem gX4_isBelow_X6_length : GoodIn wsX4_isBelow (wsV RX4 32 RX6 yX6_length wsX6_length) := goodIn_app (goodIn_of _ (by decide +kernel)) ggX4_isBelow_X6_length
set_option maxRecDepth 20000 in
theorem ggX4_isBelow_X4_leastGiven : GoodIn wsX4_isBelow wsX4_leastGiven := goodIn_r _ [12, 1, 13, 14, 15, 16, 17, 18, 2, 3, 4, 5, 6, 7, 19, 20, 21, 22, 23, 24, 25, 26, 27, 28, 29, 30, 31, 32, 33, 34, 35, 36, 37, 38, 39, 40, 41, 42, 43, 46, 47, 48, 44, 45, 49, 50, 51] (by decide +kernel) (by decide +kernel)
set_option maxRecDepth 20000 in
theorem gX4_isBelow_X4_leastGiven : GoodIn wsX4_isBelow (wsV RX4 36 RX4 yX4_leastGiven wsX4_leastGiven) := goodIn_app (goodIn_of _ (by decide +kernel)) ggX4_isBelow_X4_leastGiven
theorem dX4_isBelow_0 : decode cX4_isBelow 0 = .ok (.aload_n 0, 1) := by decide +kernel
theorem dX4_isBelow_1 : decode cX4_isBelow 1 = .ok (.getfield 10, 3) := by decide +kernel
theorem dX4_isBelow_4 : decode cX4_isBelow 4 = .ok (.invokevirtual 32, 3) := by decide +kernel
theorem dX4_isBelow_7 : decode cX4_isBelow 7 = .ok (.aload_n 0, 1) := by decide +kernel
theorem dX4_isBelow_8 : decode cX4_isBelow 8 = .ok (.invokevirtual 36, 3) := by decide +kernel
theorem dX4_isBelow_11 : decode cX4_isBelow 11 = .ok (.isub, 1) := by decide +kernel
theorem dX4_isBelow_12 : decode cX4_isBelow 12 = .ok (.iload_n 1, 1) := by decide +kernel
theorem dX4_isBelow_13 : decode cX4_isBelow 13 = .ok (.if_icmp .ge 7, 3) := by decide +kernel
theorem dX4_isBelow_16 : decode cX4_isBelow 16 = .ok (.iconst 1, 1) := by decide +kernel
theorem dX4_isBelow_17 : decode cX4_isBelow 17 = .ok (.goto 4, 3) := by decide +kernel
theorem dX4_isBelow_20 : decode cX4_isBelow 20 = .ok (.iconst 0, 1) := by decide +kernel
theorem dX4_isBelow_21 : decode cX4_isBelow 21 = .ok (.ireturn, 1) := by decide +kernel
set_option maxRecDepth 20000 in
theorem ggX4_leastGiven_X6_length : GoodIn wsX4_leastGiven wsX6_length := goodIn_r _ [12, 13, 42, 43] (by decide +kernel) (by decide +kernel)
set_option maxRecDepth 20000 in
theorem gX4_leastGiven_X6_length : GoodIn wsX4_leastGiven (wsV RX4 32 RX6 yX6_length wsX6_length) := goodIn_app (goodIn_of _ (by decide +kernel)) ggX4_leastGiven_X6_length
set_option maxRecDepth 20000 in
theorem ggX4_leastGiven_Jx4a65c_size_8abf5 : GoodIn wsX4_leastGiven wsJx4a65c_size_8abf5 := goodIn_r _ [18, 19, 44, 45, 46] (by decide +kernel) (by decide +kernel)
set_option maxRecDepth 20000 in
theorem gX4_leastGiven_Jx4a65c_size_8abf5 : GoodIn wsX4_leastGiven (wsV RX4 39 RJx4a65c yJx4a65c_size_8abf5 wsJx4a65c_size_8abf5) := goodIn_app (goodIn_of _ (by decide +kernel)) ggX4_leastGiven_Jx4a65c_size_8abf5
set_option maxRecDepth 20000 in
theorem ggX4_leastGiven_Jx4a65c_get_915e3 : GoodIn wsX4_leastGiven wsJx4a65c_get_915e3 := goodIn_r _ [23, 19, 24, 25, 26, 27, 28, 29, 30, 31, 32, 33, 34, 17, 35, 36, 44, 45, 46] (by decide +kernel) (by decide +kernel)
set_option maxRecDepth 20000 in
theorem gX4_leastGiven_Jx4a65c_get_915e3 : GoodIn wsX4_leastGiven (wsV RX4 42 RJx4a65c yJx4a65c_get_915e3 wsJx4a65c_get_915e3) := goodIn_app (goodIn_of _ (by decide +kernel)) ggX4_leastGiven_Jx4a65c_get_915e3
theorem dX4_leastGiven_0 : decode cX4_leastGiven 0 = .ok (.aload_n 0, 1) := by decide +kernel
theorem dX4_leastGiven_1 : decode cX4_leastGiven 1 = .ok (.getfield 10, 3) := by decide +kernel
theorem dX4_leastGiven_4 : decode cX4_leastGiven 4 = .ok (.invokevirtual 32, 3) := by decide +kernel
theorem dX4_leastGiven_7 : decode cX4_leastGiven 7 = .ok (.istore_n 1, 1) := by decide +kernel
theorem dX4_leastGiven_8 : decode cX4_leastGiven 8 = .ok (.iconst 0, 1) := by decide +kernel
theorem dX4_leastGiven_9 : decode cX4_leastGiven 9 = .ok (.istore_n 2, 1) := by decide +kernel
theorem dX4_leastGiven_10 : decode cX4_leastGiven 10 = .ok (.iload_n 2, 1) := by decide +kernel
theorem dX4_leastGiven_11 : decode cX4_leastGiven 11 = .ok (.aload_n 0, 1) := by decide +kernel
theorem dX4_leastGiven_12 : decode cX4_leastGiven 12 = .ok (.getfield 19, 3) := by decide +kernel
theorem dX4_leastGiven_15 : decode cX4_leastGiven 15 = .ok (.invokevirtual 39, 3) := by decide +kernel
theorem dX4_leastGiven_18 : decode cX4_leastGiven 18 = .ok (.if_icmp .ge 28, 3) := by decide +kernel
theorem dX4_leastGiven_21 : decode cX4_leastGiven 21 = .ok (.iload_n 1, 1) := by decide +kernel
theorem dX4_leastGiven_22 : decode cX4_leastGiven 22 = .ok (.aload_n 0, 1) := by decide +kernel
theorem dX4_leastGiven_23 : decode cX4_leastGiven 23 = .ok (.getfield 19, 3) := by decide +kernel
theorem dX4_leastGiven_26 : decode cX4_leastGiven 26 = .ok (.iload_n 2, 1) := by decide +kernel
theorem dX4_leastGiven_27 : decode cX4_leastGiven 27 = .ok (.invokevirtual 42, 3) := by decide +kernel
theorem dX4_leastGiven_30 : decode cX4_leastGiven 30 = .ok (.checkcast 23, 3) := by decide +kernel
theorem dX4_leastGiven_33 : decode cX4_leastGiven 33 = .ok (.getfield 46, 3) := by decide +kernel
theorem dX4_leastGiven_36 : decode cX4_leastGiven 36 = .ok (.invokestatic 50, 3) := by decide +kernel
theorem dX4_leastGiven_39 : decode cX4_leastGiven 39 = .ok (.istore_n 1, 1) := by decide +kernel
theorem dX4_leastGiven_40 : decode cX4_leastGiven 40 = .ok (.iinc 2 1, 3) := by decide +kernel
theorem dX4_leastGiven_43 : decode cX4_leastGiven 43 = .ok (.goto (-33), 3) := by decide +kernel
theorem dX4_leastGiven_46 : decode cX4_leastGiven 46 = .ok (.iload_n 1, 1) := by decide +kernel
theorem dX4_leastGiven_47 : decode cX4_leastGiven 47 = .ok (.ireturn, 1) := by decide +kernel
set_option maxRecDepth 20000 in
theorem ggX4_forgetGiven_X4_leastGiven : GoodIn wsX4_forgetGiven wsX4_leastGiven := goodIn_r _ [8, 1, 2, 3, 9, 10, 11, 12, 13, 14, 15, 16, 17, 18, 19, 20, 21, 22, 23, 24, 25, 26, 27, 28, 29, 30, 31, 32, 33, 34, 35, 36, 37, 38, 39, 40, 41, 51, 52, 53, 54, 55, 56, 57, 58, 59, 60] (by decide +kernel) (by decide +kernel)
set_option maxRecDepth 20000 in
theorem gX4_forgetGiven_X4_leastGiven : GoodIn wsX4_forgetGiven (wsV RX4 36 RX4 yX4_leastGiven wsX4_leastGiven) := goodIn_app (goodIn_of _ (by decide +kernel)) ggX4_forgetGiven_X4_leastGiven
set_option maxRecDepth 20000 in
theorem ggX4_forgetGiven_X6_length : GoodIn wsX4_forgetGiven wsX6_length := goodIn_r _ [17, 18, 56, 57] (by decide +kernel) (by decide +kernel)
set_option maxRecDepth 20000 in
theorem gX4_forgetGiven_X6_length : GoodIn wsX4_forgetGiven (wsV RX4 32 RX6 yX6_length wsX6_length) := goodIn_app (goodIn_of _ (by decide +kernel)) ggX4_forgetGiven_X6_length
set_option maxRecDepth 20000 in
theorem ggX4_forgetGiven_X6_remove : GoodIn wsX4_forgetGiven wsX6_remove := goodIn_r _ [45, 18, 46, 47, 48, 49, 50, 56, 57] (by decide +kernel) (by decide +kernel)
set_option maxRecDepth 20000 in
theorem gX4_forgetGiven_X6_remove : GoodIn wsX4_forgetGiven (wsV RX4 56 RX6 yX6_remove wsX6_remove) := goodIn_app (goodIn_of _ (by decide +kernel)) ggX4_forgetGiven_X6_remove
set_option maxRecDepth 20000 in
theorem ggX4_forgetGiven_Jx4a65c_size_8abf5 : GoodIn wsX4_forgetGiven wsJx4a65c_size_8abf5 := goodIn_r _ [23, 24, 58, 59, 60] (by decide +kernel) (by decide +kernel)
set_option maxRecDepth 20000 in
theorem gX4_forgetGiven_Jx4a65c_size_8abf5 : GoodIn wsX4_forgetGiven (wsV RX4 39 RJx4a65c yJx4a65c_size_8abf5 wsJx4a65c_size_8abf5) := goodIn_app (goodIn_of _ (by decide +kernel)) ggX4_forgetGiven_Jx4a65c_size_8abf5
set_option maxRecDepth 20000 in
theorem ggX4_forgetGiven_Jx4a65c_get_915e3 : GoodIn wsX4_forgetGiven wsJx4a65c_get_915e3 := goodIn_r _ [28, 24, 29, 30, 31, 32, 33, 34, 35, 36, 37, 38, 39, 22, 40, 41, 58, 59, 60] (by decide +kernel) (by decide +kernel)
set_option maxRecDepth 20000 in
theorem gX4_forgetGiven_Jx4a65c_get_915e3 : GoodIn wsX4_forgetGiven (wsV RX4 42 RJx4a65c yJx4a65c_get_915e3 wsJx4a65c_get_915e3) := goodIn_app (goodIn_of _ (by decide +kernel)) ggX4_forgetGiven_Jx4a65c_get_915e3
theorem dX4_forgetGiven_0 : decode cX4_forgetGiven 0 = .ok (.aload_n 0, 1) := by decide +kernel
theorem dX4_forgetGiven_1 : decode cX4_forgetGiven 1 = .ok (.invokevirtual 36, 3) := by decide +kernel
theorem dX4_forgetGiven_4 : decode cX4_forgetGiven 4 = .ok (.istore_n 1, 1) := by decide +kernel
theorem dX4_forgetGiven_5 : decode cX4_forgetGiven 5 = .ok (.iload_n 1, 1) := by decide +kernel
theorem dX4_forgetGiven_6 : decode cX4_forgetGiven 6 = .ok (.ifCond .le 64, 3) := by decide +kernel
theorem dX4_forgetGiven_9 : decode cX4_forgetGiven 9 = .ok (.iload_n 1, 1) := by decide +kernel
theorem dX4_forgetGiven_10 : decode cX4_forgetGiven 10 = .ok (.aload_n 0, 1) := by decide +kernel
theorem dX4_forgetGiven_11 : decode cX4_forgetGiven 11 = .ok (.getfield 10, 3) := by decide +kernel
theorem dX4_forgetGiven_14 : decode cX4_forgetGiven 14 = .ok (.invokevirtual 32, 3) := by decide +kernel
theorem dX4_forgetGiven_17 : decode cX4_forgetGiven 17 = .ok (.iconst 2, 1) := by decide +kernel
theorem dX4_forgetGiven_18 : decode cX4_forgetGiven 18 = .ok (.idiv, 1) := by decide +kernel
theorem dX4_forgetGiven_19 : decode cX4_forgetGiven 19 = .ok (.if_icmp .lt 51, 3) := by decide +kernel
theorem dX4_forgetGiven_22 : decode cX4_forgetGiven 22 = .ok (.aload_n 0, 1) := by decide +kernel
theorem dX4_forgetGiven_23 : decode cX4_forgetGiven 23 = .ok (.getfield 10, 3) := by decide +kernel
theorem dX4_forgetGiven_26 : decode cX4_forgetGiven 26 = .ok (.iconst 0, 1) := by decide +kernel
theorem dX4_forgetGiven_27 : decode cX4_forgetGiven 27 = .ok (.iload_n 1, 1) := by decide +kernel
theorem dX4_forgetGiven_28 : decode cX4_forgetGiven 28 = .ok (.invokevirtual 56, 3) := by decide +kernel
theorem dX4_forgetGiven_31 : decode cX4_forgetGiven 31 = .ok (.iconst 0, 1) := by decide +kernel
theorem dX4_forgetGiven_32 : decode cX4_forgetGiven 32 = .ok (.istore_n 2, 1) := by decide +kernel
theorem dX4_forgetGiven_33 : decode cX4_forgetGiven 33 = .ok (.iload_n 2, 1) := by decide +kernel
theorem dX4_forgetGiven_34 : decode cX4_forgetGiven 34 = .ok (.aload_n 0, 1) := by decide +kernel
theorem dX4_forgetGiven_35 : decode cX4_forgetGiven 35 = .ok (.getfield 19, 3) := by decide +kernel
theorem dX4_forgetGiven_38 : decode cX4_forgetGiven 38 = .ok (.invokevirtual 39, 3) := by decide +kernel
theorem dX4_forgetGiven_41 : decode cX4_forgetGiven 41 = .ok (.if_icmp .ge 29, 3) := by decide +kernel
theorem dX4_forgetGiven_44 : decode cX4_forgetGiven 44 = .ok (.aload_n 0, 1) := by decide +kernel
theorem dX4_forgetGiven_45 : decode cX4_forgetGiven 45 = .ok (.getfield 19, 3) := by decide +kernel
theorem dX4_forgetGiven_48 : decode cX4_forgetGiven 48 = .ok (.iload_n 2, 1) := by decide +kernel
theorem dX4_forgetGiven_49 : decode cX4_forgetGiven 49 = .ok (.invokevirtual 42, 3) := by decide +kernel
theorem dX4_forgetGiven_52 : decode cX4_forgetGiven 52 = .ok (.checkcast 23, 3) := by decide +kernel
theorem dX4_forgetGiven_55 : decode cX4_forgetGiven 55 = .ok (.dup, 1) := by decide +kernel
theorem dX4_forgetGiven_56 : decode cX4_forgetGiven 56 = .ok (.getfield 46, 3) := by decide +kernel
theorem dX4_forgetGiven_59 : decode cX4_forgetGiven 59 = .ok (.iload_n 1, 1) := by decide +kernel
theorem dX4_forgetGiven_60 : decode cX4_forgetGiven 60 = .ok (.isub, 1) := by decide +kernel
theorem dX4_forgetGiven_61 : decode cX4_forgetGiven 61 = .ok (.putfield 46, 3) := by decide +kernel
theorem dX4_forgetGiven_64 : decode cX4_forgetGiven 64 = .ok (.iinc 2 1, 3) := by decide +kernel
theorem dX4_forgetGiven_67 : decode cX4_forgetGiven 67 = .ok (.goto (-34), 3) := by decide +kernel
theorem dX4_forgetGiven_70 : decode cX4_forgetGiven 70 = .ok (.return_, 1) := by decide +kernel
set_option maxRecDepth 20000 in
theorem ggX4_empty_X6_shorten : GoodIn wsX4_empty wsX6_shorten := goodIn_r _ [8, 9, 38, 39] (by decide +kernel) (by decide +kernel)
set_option maxRecDepth 20000 in
theorem gX4_empty_X6_shorten : GoodIn wsX4_empty (wsV RX4 60 RX6 yX6_shorten wsX6_shorten) := goodIn_app (goodIn_of _ (by decide +kernel)) ggX4_empty_X6_shorten
set_option maxRecDepth 20000 in
theorem ggX4_empty_Jx4a65c_size_8abf5 : GoodIn wsX4_empty wsJx4a65c_size_8abf5 := goodIn_r _ [14, 15, 40, 41, 42] (by decide +kernel) (by decide +kernel)
set_option maxRecDepth 20000 in
theorem gX4_empty_Jx4a65c_size_8abf5 : GoodIn wsX4_empty (wsV RX4 39 RJx4a65c yJx4a65c_size_8abf5 wsJx4a65c_size_8abf5) := goodIn_app (goodIn_of _ (by decide +kernel)) ggX4_empty_Jx4a65c_size_8abf5
set_option maxRecDepth 20000 in
theorem ggX4_empty_Jx4a65c_get_915e3 : GoodIn wsX4_empty wsJx4a65c_get_915e3 := goodIn_r _ [19, 15, 20, 21, 22, 23, 24, 25, 26, 27, 28, 29, 30, 13, 31, 32, 40, 41, 42] (by decide +kernel) (by decide +kernel)
set_option maxRecDepth 20000 in
theorem gX4_empty_Jx4a65c_get_915e3 : GoodIn wsX4_empty (wsV RX4 42 RJx4a65c yJx4a65c_get_915e3 wsJx4a65c_get_915e3) := goodIn_app (goodIn_of _ (by decide +kernel)) ggX4_empty_Jx4a65c_get_915e3
theorem dX4_empty_0 : decode cX4_empty 0 = .ok (.aload_n 0, 1) := by decide +kernel
theorem dX4_empty_1 : decode cX4_empty 1 = .ok (.getfield 10, 3) := by decide +kernel
theorem dX4_empty_4 : decode cX4_empty 4 = .ok (.iconst 0, 1) := by decide +kernel
theorem dX4_empty_5 : decode cX4_empty 5 = .ok (.invokevirtual 60, 3) := by decide +kernel
theorem dX4_empty_8 : decode cX4_empty 8 = .ok (.iconst 0, 1) := by decide +kernel
theorem dX4_empty_9 : decode cX4_empty 9 = .ok (.istore_n 1, 1) := by decide +kernel
theorem dX4_empty_10 : decode cX4_empty 10 = .ok (.iload_n 1, 1) := by decide +kernel
theorem dX4_empty_11 : decode cX4_empty 11 = .ok (.aload_n 0, 1) := by decide +kernel
theorem dX4_empty_12 : decode cX4_empty 12 = .ok (.getfield 19, 3) := by decide +kernel
theorem dX4_empty_15 : decode cX4_empty 15 = .ok (.invokevirtual 39, 3) := by decide +kernel
theorem dX4_empty_18 : decode cX4_empty 18 = .ok (.if_icmp .ge 31, 3) := by decide +kernel
theorem dX4_empty_21 : decode cX4_empty 21 = .ok (.aload_n 0, 1) := by decide +kernel
theorem dX4_empty_22 : decode cX4_empty 22 = .ok (.getfield 19, 3) := by decide +kernel
theorem dX4_empty_25 : decode cX4_empty 25 = .ok (.iload_n 1, 1) := by decide +kernel
theorem dX4_empty_26 : decode cX4_empty 26 = .ok (.invokevirtual 42, 3) := by decide +kernel
theorem dX4_empty_29 : decode cX4_empty 29 = .ok (.checkcast 23, 3) := by decide +kernel
theorem dX4_empty_32 : decode cX4_empty 32 = .ok (.astore_n 2, 1) := by decide +kernel
theorem dX4_empty_33 : decode cX4_empty 33 = .ok (.aload_n 2, 1) := by decide +kernel
theorem dX4_empty_34 : decode cX4_empty 34 = .ok (.iconst 0, 1) := by decide +kernel
theorem dX4_empty_35 : decode cX4_empty 35 = .ok (.putfield 46, 3) := by decide +kernel
theorem dX4_empty_38 : decode cX4_empty 38 = .ok (.aload_n 2, 1) := by decide +kernel
theorem dX4_empty_39 : decode cX4_empty 39 = .ok (.iconst 0, 1) := by decide +kernel
theorem dX4_empty_40 : decode cX4_empty 40 = .ok (.putfield 64, 3) := by decide +kernel
theorem dX4_empty_43 : decode cX4_empty 43 = .ok (.iinc 1 1, 3) := by decide +kernel
theorem dX4_empty_46 : decode cX4_empty 46 = .ok (.goto (-36), 3) := by decide +kernel
theorem dX4_empty_49 : decode cX4_empty 49 = .ok (.return_, 1) := by decide +kernel
set_option maxRecDepth 20000 in
theorem ggX4_become_X4_leastGiven : GoodIn wsX4_become wsX4_leastGiven := goodIn_r _ [8, 1, 2, 3, 9, 10, 11, 12, 13, 14, 15, 16, 17, 18, 19, 20, 21, 22, 23, 24, 25, 26, 27, 28, 29, 30, 31, 32, 33, 34, 35, 36, 37, 38, 39, 40, 41, 57, 58, 59, 60, 61, 62, 63, 64, 65, 66] (by decide +kernel) (by decide +kernel)
set_option maxRecDepth 20000 in
theorem gX4_become_X4_leastGiven : GoodIn wsX4_become (wsV RX4 36 RX4 yX4_leastGiven wsX4_leastGiven) := goodIn_app (goodIn_of _ (by decide +kernel)) ggX4_become_X4_leastGiven
set_option maxRecDepth 20000 in
theorem ggX4_become_X6_become : GoodIn wsX4_become wsX6_become := goodIn_r _ [45, 18, 46, 10, 11, 12, 47, 48, 49, 50, 51, 52, 53, 54, 55, 56, 62, 63] (by decide +kernel) (by decide +kernel)
set_option maxRecDepth 20000 in
theorem gX4_become_X6_become : GoodIn wsX4_become (wsV RX4 68 RX6 yX6_become wsX6_become) := goodIn_app (goodIn_of _ (by decide +kernel)) ggX4_become_X6_become
set_option maxRecDepth 20000 in
theorem ggX4_become_Jx4a65c_size_8abf5 : GoodIn wsX4_become wsJx4a65c_size_8abf5 := goodIn_r _ [23, 24, 64, 65, 66] (by decide +kernel) (by decide +kernel)
set_option maxRecDepth 20000 in
theorem gX4_become_Jx4a65c_size_8abf5 : GoodIn wsX4_become (wsV RX4 39 RJx4a65c yJx4a65c_size_8abf5 wsJx4a65c_size_8abf5) := goodIn_app (goodIn_of _ (by decide +kernel)) ggX4_become_Jx4a65c_size_8abf5
set_option maxRecDepth 20000 in
theorem ggX4_become_Jx4a65c_get_915e3 : GoodIn wsX4_become wsJx4a65c_get_915e3 := goodIn_r _ [28, 24, 29, 30, 31, 32, 33, 34, 35, 36, 37, 38, 39, 22, 40, 41, 64, 65, 66] (by decide +kernel) (by decide +kernel)
set_option maxRecDepth 20000 in
theorem gX4_become_Jx4a65c_get_915e3 : GoodIn wsX4_become (wsV RX4 42 RJx4a65c yJx4a65c_get_915e3 wsJx4a65c_get_915e3) := goodIn_app (goodIn_of _ (by decide +kernel)) ggX4_become_Jx4a65c_get_915e3
theorem dX4_become_0 : decode cX4_become 0 = .ok (.aload_n 1, 1) := by decide +kernel
theorem dX4_become_1 : decode cX4_become 1 = .ok (.invokevirtual 36, 3) := by decide +kernel
theorem dX4_become_4 : decode cX4_become 4 = .ok (.istore_n 2, 1) := by decide +kernel
theorem dX4_become_5 : decode cX4_become 5 = .ok (.aload_n 0, 1) := by decide +kernel
theorem dX4_become_6 : decode cX4_become 6 = .ok (.getfield 10, 3) := by decide +kernel
theorem dX4_become_9 : decode cX4_become 9 = .ok (.aload_n 1, 1) := by decide +kernel
theorem dX4_become_10 : decode cX4_become 10 = .ok (.getfield 10, 3) := by decide +kernel
theorem dX4_become_13 : decode cX4_become 13 = .ok (.iload_n 2, 1) := by decide +kernel
theorem dX4_become_14 : decode cX4_become 14 = .ok (.invokevirtual 68, 3) := by decide +kernel
theorem dX4_become_17 : decode cX4_become 17 = .ok (.iconst 0, 1) := by decide +kernel
theorem dX4_become_18 : decode cX4_become 18 = .ok (.istore_n 3, 1) := by decide +kernel
theorem dX4_become_19 : decode cX4_become 19 = .ok (.iload_n 3, 1) := by decide +kernel
theorem dX4_become_20 : decode cX4_become 20 = .ok (.aload_n 0, 1) := by decide +kernel
theorem dX4_become_21 : decode cX4_become 21 = .ok (.getfield 19, 3) := by decide +kernel
theorem dX4_become_24 : decode cX4_become 24 = .ok (.invokevirtual 39, 3) := by decide +kernel
theorem dX4_become_27 : decode cX4_become 27 = .ok (.if_icmp .ge 68, 3) := by decide +kernel
theorem dX4_become_30 : decode cX4_become 30 = .ok (.iload_n 3, 1) := by decide +kernel
theorem dX4_become_31 : decode cX4_become 31 = .ok (.aload_n 1, 1) := by decide +kernel
theorem dX4_become_32 : decode cX4_become 32 = .ok (.getfield 19, 3) := by decide +kernel
theorem dX4_become_35 : decode cX4_become 35 = .ok (.invokevirtual 39, 3) := by decide +kernel
theorem dX4_become_38 : decode cX4_become 38 = .ok (.if_icmp .ge 57, 3) := by decide +kernel
theorem dX4_become_41 : decode cX4_become 41 = .ok (.aload_n 0, 1) := by decide +kernel
theorem dX4_become_42 : decode cX4_become 42 = .ok (.getfield 19, 3) := by decide +kernel
theorem dX4_become_45 : decode cX4_become 45 = .ok (.iload_n 3, 1) := by decide +kernel
theorem dX4_become_46 : decode cX4_become 46 = .ok (.invokevirtual 42, 3) := by decide +kernel
theorem dX4_become_49 : decode cX4_become 49 = .ok (.checkcast 23, 3) := by decide +kernel
theorem dX4_become_52 : decode cX4_become 52 = .ok (.astore 4, 2) := by decide +kernel
theorem dX4_become_54 : decode cX4_become 54 = .ok (.aload_n 1, 1) := by decide +kernel
theorem dX4_become_55 : decode cX4_become 55 = .ok (.getfield 19, 3) := by decide +kernel
theorem dX4_become_58 : decode cX4_become 58 = .ok (.iload_n 3, 1) := by decide +kernel
theorem dX4_become_59 : decode cX4_become 59 = .ok (.invokevirtual 42, 3) := by decide +kernel
theorem dX4_become_62 : decode cX4_become 62 = .ok (.checkcast 23, 3) := by decide +kernel
theorem dX4_become_65 : decode cX4_become 65 = .ok (.astore 5, 2) := by decide +kernel
theorem dX4_become_67 : decode cX4_become 67 = .ok (.aload 4, 2) := by decide +kernel
theorem dX4_become_69 : decode cX4_become 69 = .ok (.aload 5, 2) := by decide +kernel
theorem dX4_become_71 : decode cX4_become 71 = .ok (.getfield 46, 3) := by decide +kernel
theorem dX4_become_74 : decode cX4_become 74 = .ok (.iload_n 2, 1) := by decide +kernel
theorem dX4_become_75 : decode cX4_become 75 = .ok (.isub, 1) := by decide +kernel
theorem dX4_become_76 : decode cX4_become 76 = .ok (.putfield 46, 3) := by decide +kernel
theorem dX4_become_79 : decode cX4_become 79 = .ok (.aload 4, 2) := by decide +kernel
theorem dX4_become_81 : decode cX4_become 81 = .ok (.aload 5, 2) := by decide +kernel
theorem dX4_become_83 : decode cX4_become 83 = .ok (.getfield 64, 3) := by decide +kernel
theorem dX4_become_86 : decode cX4_become 86 = .ok (.putfield 64, 3) := by decide +kernel
theorem dX4_become_89 : decode cX4_become 89 = .ok (.iinc 3 1, 3) := by decide +kernel
theorem dX4_become_92 : decode cX4_become 92 = .ok (.goto (-73), 3) := by decide +kernel
theorem dX4_become_95 : decode cX4_become 95 = .ok (.return_, 1) := by decide +kernel
theorem dX5_init_0 : decode cX5_init 0 = .ok (.aload_n 0, 1) := by decide +kernel
theorem dX5_init_1 : decode cX5_init 1 = .ok (.invokespecial 1, 3) := by decide +kernel
theorem dX5_init_4 : decode cX5_init 4 = .ok (.aload_n 0, 1) := by decide +kernel
theorem dX5_init_5 : decode cX5_init 5 = .ok (.iload_n 1, 1) := by decide +kernel
theorem dX5_init_6 : decode cX5_init 6 = .ok (.putfield 7, 3) := by decide +kernel
theorem dX5_init_9 : decode cX5_init 9 = .ok (.aload_n 0, 1) := by decide +kernel
theorem dX5_init_10 : decode cX5_init 10 = .ok (.iload_n 2, 1) := by decide +kernel
theorem dX5_init_11 : decode cX5_init 11 = .ok (.putfield 13, 3) := by decide +kernel
theorem dX5_init_14 : decode cX5_init 14 = .ok (.aload_n 0, 1) := by decide +kernel
theorem dX5_init_15 : decode cX5_init 15 = .ok (.iload_n 3, 1) := by decide +kernel
theorem dX5_init_16 : decode cX5_init 16 = .ok (.putfield 16, 3) := by decide +kernel
theorem dX5_init_19 : decode cX5_init 19 = .ok (.return_, 1) := by decide +kernel
theorem dX5_standBehind_0 : decode cX5_standBehind 0 = .ok (.aload_n 1, 1) := by decide +kernel
theorem dX5_standBehind_1 : decode cX5_standBehind 1 = .ok (.ifnull 37, 3) := by decide +kernel
theorem dX5_standBehind_4 : decode cX5_standBehind 4 = .ok (.aload_n 0, 1) := by decide +kernel
theorem dX5_standBehind_5 : decode cX5_standBehind 5 = .ok (.aload_n 0, 1) := by decide +kernel
theorem dX5_standBehind_6 : decode cX5_standBehind 6 = .ok (.getfield 19, 3) := by decide +kernel
theorem dX5_standBehind_9 : decode cX5_standBehind 9 = .ok (.aload_n 1, 1) := by decide +kernel
theorem dX5_standBehind_10 : decode cX5_standBehind 10 = .ok (.getfield 19, 3) := by decide +kernel
theorem dX5_standBehind_13 : decode cX5_standBehind 13 = .ok (.iconst 1, 1) := by decide +kernel
theorem dX5_standBehind_14 : decode cX5_standBehind 14 = .ok (.iadd, 1) := by decide +kernel
theorem dX5_standBehind_15 : decode cX5_standBehind 15 = .ok (.invokestatic 22, 3) := by decide +kernel
theorem dX5_standBehind_18 : decode cX5_standBehind 18 = .ok (.putfield 19, 3) := by decide +kernel
theorem dX5_standBehind_21 : decode cX5_standBehind 21 = .ok (.aload_n 0, 1) := by decide +kernel
theorem dX5_standBehind_22 : decode cX5_standBehind 22 = .ok (.dup, 1) := by decide +kernel
theorem dX5_standBehind_23 : decode cX5_standBehind 23 = .ok (.getfield 28, 3) := by decide +kernel
theorem dX5_standBehind_26 : decode cX5_standBehind 26 = .ok (.aload_n 1, 1) := by decide +kernel
theorem dX5_standBehind_27 : decode cX5_standBehind 27 = .ok (.getfield 28, 3) := by decide +kernel
theorem dX5_standBehind_30 : decode cX5_standBehind 30 = .ok (.iconst 1, 1) := by decide +kernel
theorem dX5_standBehind_31 : decode cX5_standBehind 31 = .ok (.iload_n 2, 1) := by decide +kernel
theorem dX5_standBehind_32 : decode cX5_standBehind 32 = .ok (.ishl, 1) := by decide +kernel
theorem dX5_standBehind_33 : decode cX5_standBehind 33 = .ok (.ior, 1) := by decide +kernel
theorem dX5_standBehind_34 : decode cX5_standBehind 34 = .ok (.ior, 1) := by decide +kernel
theorem dX5_standBehind_35 : decode cX5_standBehind 35 = .ok (.putfield 28, 3) := by decide +kernel
theorem dX5_standBehind_38 : decode cX5_standBehind 38 = .ok (.return_, 1) := by decide +kernel
theorem dX6_init_0 : decode cX6_init 0 = .ok (.aload_n 0, 1) := by decide +kernel
theorem dX6_init_1 : decode cX6_init 1 = .ok (.invokespecial 1, 3) := by decide +kernel
theorem dX6_init_4 : decode cX6_init 4 = .ok (.aload_n 0, 1) := by decide +kernel
theorem dX6_init_5 : decode cX6_init 5 = .ok (.bipush 8, 2) := by decide +kernel
theorem dX6_init_7 : decode cX6_init 7 = .ok (.newarray .long, 2) := by decide +kernel
theorem dX6_init_9 : decode cX6_init 9 = .ok (.putfield 9, 3) := by decide +kernel
theorem dX6_init_12 : decode cX6_init 12 = .ok (.return_, 1) := by decide +kernel
theorem dX6_length_0 : decode cX6_length 0 = .ok (.aload_n 0, 1) := by decide +kernel
theorem dX6_length_1 : decode cX6_length 1 = .ok (.getfield 13, 3) := by decide +kernel
theorem dX6_length_4 : decode cX6_length 4 = .ok (.ireturn, 1) := by decide +kernel
theorem dX6_at_0 : decode cX6_at 0 = .ok (.iload_n 1, 1) := by decide +kernel
theorem dX6_at_1 : decode cX6_at 1 = .ok (.ifCond .lt 29, 3) := by decide +kernel
theorem dX6_at_4 : decode cX6_at 4 = .ok (.iload_n 1, 1) := by decide +kernel
theorem dX6_at_5 : decode cX6_at 5 = .ok (.aload_n 0, 1) := by decide +kernel
theorem dX6_at_6 : decode cX6_at 6 = .ok (.getfield 13, 3) := by decide +kernel
theorem dX6_at_9 : decode cX6_at 9 = .ok (.if_icmp .ge 21, 3) := by decide +kernel
theorem dX6_at_12 : decode cX6_at 12 = .ok (.iload_n 1, 1) := by decide +kernel
theorem dX6_at_13 : decode cX6_at 13 = .ok (.aload_n 0, 1) := by decide +kernel
theorem dX6_at_14 : decode cX6_at 14 = .ok (.getfield 9, 3) := by decide +kernel
theorem dX6_at_17 : decode cX6_at 17 = .ok (.arraylength, 1) := by decide +kernel
theorem dX6_at_18 : decode cX6_at 18 = .ok (.if_icmp .ge 12, 3) := by decide +kernel
theorem dX6_at_21 : decode cX6_at 21 = .ok (.aload_n 0, 1) := by decide +kernel
theorem dX6_at_22 : decode cX6_at 22 = .ok (.getfield 9, 3) := by decide +kernel
theorem dX6_at_25 : decode cX6_at 25 = .ok (.iload_n 1, 1) := by decide +kernel
theorem dX6_at_26 : decode cX6_at 26 = .ok (.laload, 1) := by decide +kernel
theorem dX6_at_27 : decode cX6_at 27 = .ok (.goto 4, 3) := by decide +kernel
theorem dX6_at_30 : decode cX6_at 30 = .ok (.lconst 0, 1) := by decide +kernel
theorem dX6_at_31 : decode cX6_at 31 = .ok (.lreturn, 1) := by decide +kernel
theorem dX6_put_0 : decode cX6_put 0 = .ok (.iload_n 1, 1) := by decide +kernel
theorem dX6_put_1 : decode cX6_put 1 = .ok (.ifCond .lt 27, 3) := by decide +kernel
theorem dX6_put_4 : decode cX6_put 4 = .ok (.iload_n 1, 1) := by decide +kernel
theorem dX6_put_5 : decode cX6_put 5 = .ok (.aload_n 0, 1) := by decide +kernel
theorem dX6_put_6 : decode cX6_put 6 = .ok (.getfield 13, 3) := by decide +kernel
theorem dX6_put_9 : decode cX6_put 9 = .ok (.if_icmp .ge 19, 3) := by decide +kernel
theorem dX6_put_12 : decode cX6_put 12 = .ok (.iload_n 1, 1) := by decide +kernel
theorem dX6_put_13 : decode cX6_put 13 = .ok (.aload_n 0, 1) := by decide +kernel
theorem dX6_put_14 : decode cX6_put 14 = .ok (.getfield 9, 3) := by decide +kernel
theorem dX6_put_17 : decode cX6_put 17 = .ok (.arraylength, 1) := by decide +kernel
theorem dX6_put_18 : decode cX6_put 18 = .ok (.if_icmp .ge 10, 3) := by decide +kernel
theorem dX6_put_21 : decode cX6_put 21 = .ok (.aload_n 0, 1) := by decide +kernel
theorem dX6_put_22 : decode cX6_put 22 = .ok (.getfield 9, 3) := by decide +kernel
theorem dX6_put_25 : decode cX6_put 25 = .ok (.iload_n 1, 1) := by decide +kernel
theorem dX6_put_26 : decode cX6_put 26 = .ok (.lload_n 2, 1) := by decide +kernel
theorem dX6_put_27 : decode cX6_put 27 = .ok (.lastore, 1) := by decide +kernel
theorem dX6_put_28 : decode cX6_put 28 = .ok (.return_, 1) := by decide +kernel
set_option maxRecDepth 20000 in
theorem ggX6_add_J7_copyOf_c38d5 : GoodIn wsX6_add wsJ7_copyOf_c38d5 := goodIn_r _ [7, 8, 9, 10, 11, 12, 13, 14, 15, 16, 17, 18, 19, 20, 21, 22] (by decide +kernel) (by decide +kernel)
set_option maxRecDepth 20000 in
theorem gX6_add_J7_copyOf_c38d5 : GoodIn wsX6_add (va_wsS RX6 18 yJ7_copyOf_c38d5 wsJ7_copyOf_c38d5) := goodIn_app (goodIn_of _ (by decide +kernel)) ggX6_add_J7_copyOf_c38d5
theorem dX6_add_0 : decode cX6_add 0 = .ok (.aload_n 0, 1) := by decide +kernel
theorem dX6_add_1 : decode cX6_add 1 = .ok (.getfield 13, 3) := by decide +kernel
theorem dX6_add_4 : decode cX6_add 4 = .ok (.aload_n 0, 1) := by decide +kernel
theorem dX6_add_5 : decode cX6_add 5 = .ok (.getfield 9, 3) := by decide +kernel
theorem dX6_add_8 : decode cX6_add 8 = .ok (.arraylength, 1) := by decide +kernel
theorem dX6_add_9 : decode cX6_add 9 = .ok (.if_icmp .lt 31, 3) := by decide +kernel
theorem dX6_add_12 : decode cX6_add 12 = .ok (.aload_n 0, 1) := by decide +kernel
theorem dX6_add_13 : decode cX6_add 13 = .ok (.getfield 9, 3) := by decide +kernel
theorem dX6_add_16 : decode cX6_add 16 = .ok (.arraylength, 1) := by decide +kernel
theorem dX6_add_17 : decode cX6_add 17 = .ok (.ldc 17, 2) := by decide +kernel
theorem dX6_add_19 : decode cX6_add 19 = .ok (.if_icmp .ge 21, 3) := by decide +kernel
theorem dX6_add_22 : decode cX6_add 22 = .ok (.aload_n 0, 1) := by decide +kernel
theorem dX6_add_23 : decode cX6_add 23 = .ok (.aload_n 0, 1) := by decide +kernel
theorem dX6_add_24 : decode cX6_add 24 = .ok (.getfield 9, 3) := by decide +kernel
theorem dX6_add_27 : decode cX6_add 27 = .ok (.aload_n 0, 1) := by decide +kernel
theorem dX6_add_28 : decode cX6_add 28 = .ok (.getfield 9, 3) := by decide +kernel
theorem dX6_add_31 : decode cX6_add 31 = .ok (.arraylength, 1) := by decide +kernel
theorem dX6_add_32 : decode cX6_add 32 = .ok (.iconst 2, 1) := by decide +kernel
theorem dX6_add_33 : decode cX6_add 33 = .ok (.imul, 1) := by decide +kernel
theorem dX6_add_34 : decode cX6_add 34 = .ok (.invokestatic 18, 3) := by decide +kernel
theorem dX6_add_37 : decode cX6_add 37 = .ok (.putfield 9, 3) := by decide +kernel
theorem dX6_add_40 : decode cX6_add 40 = .ok (.aload_n 0, 1) := by decide +kernel
theorem dX6_add_41 : decode cX6_add 41 = .ok (.getfield 13, 3) := by decide +kernel
theorem dX6_add_44 : decode cX6_add 44 = .ok (.ifCond .lt 35, 3) := by decide +kernel
theorem dX6_add_47 : decode cX6_add 47 = .ok (.aload_n 0, 1) := by decide +kernel
theorem dX6_add_48 : decode cX6_add 48 = .ok (.getfield 13, 3) := by decide +kernel
theorem dX6_add_51 : decode cX6_add 51 = .ok (.aload_n 0, 1) := by decide +kernel
theorem dX6_add_52 : decode cX6_add 52 = .ok (.getfield 9, 3) := by decide +kernel
theorem dX6_add_55 : decode cX6_add 55 = .ok (.arraylength, 1) := by decide +kernel
theorem dX6_add_56 : decode cX6_add 56 = .ok (.if_icmp .ge 23, 3) := by decide +kernel
theorem dX6_add_59 : decode cX6_add 59 = .ok (.aload_n 0, 1) := by decide +kernel
theorem dX6_add_60 : decode cX6_add 60 = .ok (.getfield 9, 3) := by decide +kernel
theorem dX6_add_63 : decode cX6_add 63 = .ok (.aload_n 0, 1) := by decide +kernel
theorem dX6_add_64 : decode cX6_add 64 = .ok (.getfield 13, 3) := by decide +kernel
theorem dX6_add_67 : decode cX6_add 67 = .ok (.lload_n 1, 1) := by decide +kernel
theorem dX6_add_68 : decode cX6_add 68 = .ok (.lastore, 1) := by decide +kernel
theorem dX6_add_69 : decode cX6_add 69 = .ok (.aload_n 0, 1) := by decide +kernel
theorem dX6_add_70 : decode cX6_add 70 = .ok (.dup, 1) := by decide +kernel
theorem dX6_add_71 : decode cX6_add 71 = .ok (.getfield 13, 3) := by decide +kernel
theorem dX6_add_74 : decode cX6_add 74 = .ok (.iconst 1, 1) := by decide +kernel
theorem dX6_add_75 : decode cX6_add 75 = .ok (.iadd, 1) := by decide +kernel
theorem dX6_add_76 : decode cX6_add 76 = .ok (.putfield 13, 3) := by decide +kernel
theorem dX6_add_79 : decode cX6_add 79 = .ok (.return_, 1) := by decide +kernel
set_option maxRecDepth 20000 in
theorem ggX6_insert_J7_copyOf_c38d5 : GoodIn wsX6_insert wsJ7_copyOf_c38d5 := goodIn_r _ [11, 12, 13, 14, 15, 16, 17, 18, 19, 20, 21, 22, 23, 5, 6, 7] (by decide +kernel) (by decide +kernel)
set_option maxRecDepth 20000 in
theorem gX6_insert_J7_copyOf_c38d5 : GoodIn wsX6_insert (va_wsS RX6 18 yJ7_copyOf_c38d5 wsJ7_copyOf_c38d5) := goodIn_app (goodIn_of _ (by decide +kernel)) ggX6_insert_J7_copyOf_c38d5
theorem dX6_insert_0 : decode cX6_insert 0 = .ok (.aload_n 0, 1) := by decide +kernel
theorem dX6_insert_1 : decode cX6_insert 1 = .ok (.getfield 13, 3) := by decide +kernel
theorem dX6_insert_4 : decode cX6_insert 4 = .ok (.aload_n 0, 1) := by decide +kernel
theorem dX6_insert_5 : decode cX6_insert 5 = .ok (.getfield 9, 3) := by decide +kernel
theorem dX6_insert_8 : decode cX6_insert 8 = .ok (.arraylength, 1) := by decide +kernel
theorem dX6_insert_9 : decode cX6_insert 9 = .ok (.if_icmp .lt 31, 3) := by decide +kernel
theorem dX6_insert_12 : decode cX6_insert 12 = .ok (.aload_n 0, 1) := by decide +kernel
theorem dX6_insert_13 : decode cX6_insert 13 = .ok (.getfield 9, 3) := by decide +kernel
theorem dX6_insert_16 : decode cX6_insert 16 = .ok (.arraylength, 1) := by decide +kernel
theorem dX6_insert_17 : decode cX6_insert 17 = .ok (.ldc 17, 2) := by decide +kernel
theorem dX6_insert_19 : decode cX6_insert 19 = .ok (.if_icmp .ge 21, 3) := by decide +kernel
theorem dX6_insert_22 : decode cX6_insert 22 = .ok (.aload_n 0, 1) := by decide +kernel
theorem dX6_insert_23 : decode cX6_insert 23 = .ok (.aload_n 0, 1) := by decide +kernel
theorem dX6_insert_24 : decode cX6_insert 24 = .ok (.getfield 9, 3) := by decide +kernel
theorem dX6_insert_27 : decode cX6_insert 27 = .ok (.aload_n 0, 1) := by decide +kernel
theorem dX6_insert_28 : decode cX6_insert 28 = .ok (.getfield 9, 3) := by decide +kernel
theorem dX6_insert_31 : decode cX6_insert 31 = .ok (.arraylength, 1) := by decide +kernel
theorem dX6_insert_32 : decode cX6_insert 32 = .ok (.iconst 2, 1) := by decide +kernel
theorem dX6_insert_33 : decode cX6_insert 33 = .ok (.imul, 1) := by decide +kernel
theorem dX6_insert_34 : decode cX6_insert 34 = .ok (.invokestatic 18, 3) := by decide +kernel
theorem dX6_insert_37 : decode cX6_insert 37 = .ok (.putfield 9, 3) := by decide +kernel
theorem dX6_insert_40 : decode cX6_insert 40 = .ok (.iload_n 1, 1) := by decide +kernel
theorem dX6_insert_41 : decode cX6_insert 41 = .ok (.ifCond .lt 61, 3) := by decide +kernel
theorem dX6_insert_44 : decode cX6_insert 44 = .ok (.iload_n 1, 1) := by decide +kernel
theorem dX6_insert_45 : decode cX6_insert 45 = .ok (.aload_n 0, 1) := by decide +kernel
theorem dX6_insert_46 : decode cX6_insert 46 = .ok (.getfield 13, 3) := by decide +kernel
theorem dX6_insert_49 : decode cX6_insert 49 = .ok (.if_icmp .gt 53, 3) := by decide +kernel
theorem dX6_insert_52 : decode cX6_insert 52 = .ok (.aload_n 0, 1) := by decide +kernel
theorem dX6_insert_53 : decode cX6_insert 53 = .ok (.getfield 13, 3) := by decide +kernel
theorem dX6_insert_56 : decode cX6_insert 56 = .ok (.aload_n 0, 1) := by decide +kernel
theorem dX6_insert_57 : decode cX6_insert 57 = .ok (.getfield 9, 3) := by decide +kernel
theorem dX6_insert_60 : decode cX6_insert 60 = .ok (.arraylength, 1) := by decide +kernel
theorem dX6_insert_61 : decode cX6_insert 61 = .ok (.if_icmp .ge 41, 3) := by decide +kernel
theorem dX6_insert_64 : decode cX6_insert 64 = .ok (.aload_n 0, 1) := by decide +kernel
theorem dX6_insert_65 : decode cX6_insert 65 = .ok (.getfield 9, 3) := by decide +kernel
theorem dX6_insert_68 : decode cX6_insert 68 = .ok (.iload_n 1, 1) := by decide +kernel
theorem dX6_insert_69 : decode cX6_insert 69 = .ok (.aload_n 0, 1) := by decide +kernel
theorem dX6_insert_70 : decode cX6_insert 70 = .ok (.getfield 9, 3) := by decide +kernel
theorem dX6_insert_73 : decode cX6_insert 73 = .ok (.iload_n 1, 1) := by decide +kernel
theorem dX6_insert_74 : decode cX6_insert 74 = .ok (.iconst 1, 1) := by decide +kernel
theorem dX6_insert_75 : decode cX6_insert 75 = .ok (.iadd, 1) := by decide +kernel
theorem dX6_insert_76 : decode cX6_insert 76 = .ok (.aload_n 0, 1) := by decide +kernel
theorem dX6_insert_77 : decode cX6_insert 77 = .ok (.getfield 13, 3) := by decide +kernel
theorem dX6_insert_80 : decode cX6_insert 80 = .ok (.iload_n 1, 1) := by decide +kernel
theorem dX6_insert_81 : decode cX6_insert 81 = .ok (.isub, 1) := by decide +kernel
theorem dX6_insert_82 : decode cX6_insert 82 = .ok (.invokestatic 24, 3) := by decide +kernel
theorem dX6_insert_85 : decode cX6_insert 85 = .ok (.aload_n 0, 1) := by decide +kernel
theorem dX6_insert_86 : decode cX6_insert 86 = .ok (.getfield 9, 3) := by decide +kernel
theorem dX6_insert_89 : decode cX6_insert 89 = .ok (.iload_n 1, 1) := by decide +kernel
theorem dX6_insert_90 : decode cX6_insert 90 = .ok (.lload_n 2, 1) := by decide +kernel
theorem dX6_insert_91 : decode cX6_insert 91 = .ok (.lastore, 1) := by decide +kernel
theorem dX6_insert_92 : decode cX6_insert 92 = .ok (.aload_n 0, 1) := by decide +kernel
theorem dX6_insert_93 : decode cX6_insert 93 = .ok (.dup, 1) := by decide +kernel
theorem dX6_insert_94 : decode cX6_insert 94 = .ok (.getfield 13, 3) := by decide +kernel
theorem dX6_insert_97 : decode cX6_insert 97 = .ok (.iconst 1, 1) := by decide +kernel
theorem dX6_insert_98 : decode cX6_insert 98 = .ok (.iadd, 1) := by decide +kernel
theorem dX6_insert_99 : decode cX6_insert 99 = .ok (.putfield 13, 3) := by decide +kernel
theorem dX6_insert_102 : decode cX6_insert 102 = .ok (.return_, 1) := by decide +kernel
theorem dX6_remove_0 : decode cX6_remove 0 = .ok (.iload_n 1, 1) := by decide +kernel
theorem dX6_remove_1 : decode cX6_remove 1 = .ok (.ifCond .lt 62, 3) := by decide +kernel
theorem dX6_remove_4 : decode cX6_remove 4 = .ok (.iload_n 2, 1) := by decide +kernel
theorem dX6_remove_5 : decode cX6_remove 5 = .ok (.ifCond .le 58, 3) := by decide +kernel
theorem dX6_remove_8 : decode cX6_remove 8 = .ok (.iload_n 1, 1) := by decide +kernel
theorem dX6_remove_9 : decode cX6_remove 9 = .ok (.aload_n 0, 1) := by decide +kernel
theorem dX6_remove_10 : decode cX6_remove 10 = .ok (.getfield 13, 3) := by decide +kernel
theorem dX6_remove_13 : decode cX6_remove 13 = .ok (.iload_n 2, 1) := by decide +kernel
theorem dX6_remove_14 : decode cX6_remove 14 = .ok (.isub, 1) := by decide +kernel
theorem dX6_remove_15 : decode cX6_remove 15 = .ok (.if_icmp .gt 48, 3) := by decide +kernel
theorem dX6_remove_18 : decode cX6_remove 18 = .ok (.aload_n 0, 1) := by decide +kernel
theorem dX6_remove_19 : decode cX6_remove 19 = .ok (.getfield 13, 3) := by decide +kernel
theorem dX6_remove_22 : decode cX6_remove 22 = .ok (.aload_n 0, 1) := by decide +kernel
theorem dX6_remove_23 : decode cX6_remove 23 = .ok (.getfield 9, 3) := by decide +kernel
theorem dX6_remove_26 : decode cX6_remove 26 = .ok (.arraylength, 1) := by decide +kernel
theorem dX6_remove_27 : decode cX6_remove 27 = .ok (.if_icmp .gt 36, 3) := by decide +kernel
theorem dX6_remove_30 : decode cX6_remove 30 = .ok (.aload_n 0, 1) := by decide +kernel
theorem dX6_remove_31 : decode cX6_remove 31 = .ok (.getfield 9, 3) := by decide +kernel
theorem dX6_remove_34 : decode cX6_remove 34 = .ok (.iload_n 1, 1) := by decide +kernel
theorem dX6_remove_35 : decode cX6_remove 35 = .ok (.iload_n 2, 1) := by decide +kernel
theorem dX6_remove_36 : decode cX6_remove 36 = .ok (.iadd, 1) := by decide +kernel
theorem dX6_remove_37 : decode cX6_remove 37 = .ok (.aload_n 0, 1) := by decide +kernel
theorem dX6_remove_38 : decode cX6_remove 38 = .ok (.getfield 9, 3) := by decide +kernel
theorem dX6_remove_41 : decode cX6_remove 41 = .ok (.iload_n 1, 1) := by decide +kernel
theorem dX6_remove_42 : decode cX6_remove 42 = .ok (.aload_n 0, 1) := by decide +kernel
theorem dX6_remove_43 : decode cX6_remove 43 = .ok (.getfield 13, 3) := by decide +kernel
theorem dX6_remove_46 : decode cX6_remove 46 = .ok (.iload_n 1, 1) := by decide +kernel
theorem dX6_remove_47 : decode cX6_remove 47 = .ok (.isub, 1) := by decide +kernel
theorem dX6_remove_48 : decode cX6_remove 48 = .ok (.iload_n 2, 1) := by decide +kernel
theorem dX6_remove_49 : decode cX6_remove 49 = .ok (.isub, 1) := by decide +kernel
theorem dX6_remove_50 : decode cX6_remove 50 = .ok (.invokestatic 24, 3) := by decide +kernel
theorem dX6_remove_53 : decode cX6_remove 53 = .ok (.aload_n 0, 1) := by decide +kernel
theorem dX6_remove_54 : decode cX6_remove 54 = .ok (.dup, 1) := by decide +kernel
theorem dX6_remove_55 : decode cX6_remove 55 = .ok (.getfield 13, 3) := by decide +kernel
theorem dX6_remove_58 : decode cX6_remove 58 = .ok (.iload_n 2, 1) := by decide +kernel
theorem dX6_remove_59 : decode cX6_remove 59 = .ok (.isub, 1) := by decide +kernel
theorem dX6_remove_60 : decode cX6_remove 60 = .ok (.putfield 13, 3) := by decide +kernel
theorem dX6_remove_63 : decode cX6_remove 63 = .ok (.return_, 1) := by decide +kernel
theorem dX6_shorten_0 : decode cX6_shorten 0 = .ok (.iload_n 1, 1) := by decide +kernel
theorem dX6_shorten_1 : decode cX6_shorten 1 = .ok (.ifCond .lt 16, 3) := by decide +kernel
theorem dX6_shorten_4 : decode cX6_shorten 4 = .ok (.iload_n 1, 1) := by decide +kernel
theorem dX6_shorten_5 : decode cX6_shorten 5 = .ok (.aload_n 0, 1) := by decide +kernel
theorem dX6_shorten_6 : decode cX6_shorten 6 = .ok (.getfield 13, 3) := by decide +kernel
theorem dX6_shorten_9 : decode cX6_shorten 9 = .ok (.if_icmp .ge 8, 3) := by decide +kernel
theorem dX6_shorten_12 : decode cX6_shorten 12 = .ok (.aload_n 0, 1) := by decide +kernel
theorem dX6_shorten_13 : decode cX6_shorten 13 = .ok (.iload_n 1, 1) := by decide +kernel
theorem dX6_shorten_14 : decode cX6_shorten 14 = .ok (.putfield 13, 3) := by decide +kernel
theorem dX6_shorten_17 : decode cX6_shorten 17 = .ok (.return_, 1) := by decide +kernel
theorem dX6_become_0 : decode cX6_become 0 = .ok (.iconst 0, 1) := by decide +kernel
theorem dX6_become_1 : decode cX6_become 1 = .ok (.iload_n 2, 1) := by decide +kernel
theorem dX6_become_2 : decode cX6_become 2 = .ok (.aload_n 1, 1) := by decide +kernel
theorem dX6_become_3 : decode cX6_become 3 = .ok (.getfield 13, 3) := by decide +kernel
theorem dX6_become_6 : decode cX6_become 6 = .ok (.invokestatic 30, 3) := by decide +kernel
theorem dX6_become_9 : decode cX6_become 9 = .ok (.invokestatic 36, 3) := by decide +kernel
theorem dX6_become_12 : decode cX6_become 12 = .ok (.istore_n 3, 1) := by decide +kernel
theorem dX6_become_13 : decode cX6_become 13 = .ok (.aload_n 1, 1) := by decide +kernel
theorem dX6_become_14 : decode cX6_become 14 = .ok (.getfield 13, 3) := by decide +kernel
theorem dX6_become_17 : decode cX6_become 17 = .ok (.iload_n 3, 1) := by decide +kernel
theorem dX6_become_18 : decode cX6_become 18 = .ok (.isub, 1) := by decide +kernel
theorem dX6_become_19 : decode cX6_become 19 = .ok (.istore 4, 2) := by decide +kernel
theorem dX6_become_21 : decode cX6_become 21 = .ok (.iload 4, 2) := by decide +kernel
theorem dX6_become_23 : decode cX6_become 23 = .ok (.aload_n 0, 1) := by decide +kernel
theorem dX6_become_24 : decode cX6_become 24 = .ok (.getfield 9, 3) := by decide +kernel
theorem dX6_become_27 : decode cX6_become 27 = .ok (.arraylength, 1) := by decide +kernel
theorem dX6_become_28 : decode cX6_become 28 = .ok (.if_icmp .le 51, 3) := by decide +kernel
theorem dX6_become_31 : decode cX6_become 31 = .ok (.iload 4, 2) := by decide +kernel
theorem dX6_become_33 : decode cX6_become 33 = .ok (.ldc 17, 2) := by decide +kernel
theorem dX6_become_35 : decode cX6_become 35 = .ok (.if_icmp .gt 44, 3) := by decide +kernel
theorem dX6_become_38 : decode cX6_become 38 = .ok (.bipush 8, 2) := by decide +kernel
theorem dX6_become_40 : decode cX6_become 40 = .ok (.istore 5, 2) := by decide +kernel
theorem dX6_become_42 : decode cX6_become 42 = .ok (.iconst 0, 1) := by decide +kernel
theorem dX6_become_43 : decode cX6_become 43 = .ok (.istore 6, 2) := by decide +kernel
theorem dX6_become_45 : decode cX6_become 45 = .ok (.iload 6, 2) := by decide +kernel
theorem dX6_become_47 : decode cX6_become 47 = .ok (.bipush 30, 2) := by decide +kernel
theorem dX6_become_49 : decode cX6_become 49 = .ok (.if_icmp .ge 22, 3) := by decide +kernel
theorem dX6_become_52 : decode cX6_become 52 = .ok (.iload 5, 2) := by decide +kernel
theorem dX6_become_54 : decode cX6_become 54 = .ok (.iload 4, 2) := by decide +kernel
theorem dX6_become_56 : decode cX6_become 56 = .ok (.if_icmp .ge 15, 3) := by decide +kernel
theorem dX6_become_59 : decode cX6_become 59 = .ok (.iload 5, 2) := by decide +kernel
theorem dX6_become_61 : decode cX6_become 61 = .ok (.iconst 2, 1) := by decide +kernel
theorem dX6_become_62 : decode cX6_become 62 = .ok (.imul, 1) := by decide +kernel
theorem dX6_become_63 : decode cX6_become 63 = .ok (.istore 5, 2) := by decide +kernel
theorem dX6_become_65 : decode cX6_become 65 = .ok (.iinc 6 1, 3) := by decide +kernel
theorem dX6_become_68 : decode cX6_become 68 = .ok (.goto (-23), 3) := by decide +kernel
theorem dX6_become_71 : decode cX6_become 71 = .ok (.aload_n 0, 1) := by decide +kernel
theorem dX6_become_72 : decode cX6_become 72 = .ok (.iload 5, 2) := by decide +kernel
theorem dX6_become_74 : decode cX6_become 74 = .ok (.newarray .long, 2) := by decide +kernel
theorem dX6_become_76 : decode cX6_become 76 = .ok (.putfield 9, 3) := by decide +kernel
theorem dX6_become_79 : decode cX6_become 79 = .ok (.iload 4, 2) := by decide +kernel
theorem dX6_become_81 : decode cX6_become 81 = .ok (.aload_n 0, 1) := by decide +kernel
theorem dX6_become_82 : decode cX6_become 82 = .ok (.getfield 9, 3) := by decide +kernel
theorem dX6_become_85 : decode cX6_become 85 = .ok (.arraylength, 1) := by decide +kernel
theorem dX6_become_86 : decode cX6_become 86 = .ok (.if_icmp .gt 36, 3) := by decide +kernel
theorem dX6_become_89 : decode cX6_become 89 = .ok (.aload_n 1, 1) := by decide +kernel
theorem dX6_become_90 : decode cX6_become 90 = .ok (.getfield 13, 3) := by decide +kernel
theorem dX6_become_93 : decode cX6_become 93 = .ok (.aload_n 1, 1) := by decide +kernel
theorem dX6_become_94 : decode cX6_become 94 = .ok (.getfield 9, 3) := by decide +kernel
theorem dX6_become_97 : decode cX6_become 97 = .ok (.arraylength, 1) := by decide +kernel
theorem dX6_become_98 : decode cX6_become 98 = .ok (.if_icmp .gt 24, 3) := by decide +kernel
theorem dX6_become_101 : decode cX6_become 101 = .ok (.aload_n 1, 1) := by decide +kernel
theorem dX6_become_102 : decode cX6_become 102 = .ok (.getfield 9, 3) := by decide +kernel
theorem dX6_become_105 : decode cX6_become 105 = .ok (.iload_n 3, 1) := by decide +kernel
theorem dX6_become_106 : decode cX6_become 106 = .ok (.aload_n 0, 1) := by decide +kernel
theorem dX6_become_107 : decode cX6_become 107 = .ok (.getfield 9, 3) := by decide +kernel
theorem dX6_become_110 : decode cX6_become 110 = .ok (.iconst 0, 1) := by decide +kernel
theorem dX6_become_111 : decode cX6_become 111 = .ok (.iload 4, 2) := by decide +kernel
theorem dX6_become_113 : decode cX6_become 113 = .ok (.invokestatic 24, 3) := by decide +kernel
theorem dX6_become_116 : decode cX6_become 116 = .ok (.aload_n 0, 1) := by decide +kernel
theorem dX6_become_117 : decode cX6_become 117 = .ok (.iload 4, 2) := by decide +kernel
theorem dX6_become_119 : decode cX6_become 119 = .ok (.putfield 13, 3) := by decide +kernel
theorem dX6_become_122 : decode cX6_become 122 = .ok (.return_, 1) := by decide +kernel
set_option maxRecDepth 20000 in
theorem ggX7_init_X6_init : GoodIn wsX7_init wsX6_init := goodIn_r _ [10, 11, 2, 3, 12, 13, 14, 15] (by decide +kernel) (by decide +kernel)
set_option maxRecDepth 20000 in
theorem gX7_init_X6_init_n11 : GoodIn wsX7_init (wsX6_init) := ggX7_init_X6_init
theorem dX7_init_0 : decode cX7_init 0 = .ok (.aload_n 0, 1) := by decide +kernel
theorem dX7_init_1 : decode cX7_init 1 = .ok (.invokespecial 3, 3) := by decide +kernel
theorem dX7_init_4 : decode cX7_init 4 = .ok (.aload_n 0, 1) := by decide +kernel
theorem dX7_init_5 : decode cX7_init 5 = .ok (.new 9, 3) := by decide +kernel
theorem dX7_init_8 : decode cX7_init 8 = .ok (.dup, 1) := by decide +kernel
theorem dX7_init_9 : decode cX7_init 9 = .ok (.invokespecial 11, 3) := by decide +kernel
theorem dX7_init_12 : decode cX7_init 12 = .ok (.putfield 12, 3) := by decide +kernel
theorem dX7_init_15 : decode cX7_init 15 = .ok (.aload_n 0, 1) := by decide +kernel
theorem dX7_init_16 : decode cX7_init 16 = .ok (.new 9, 3) := by decide +kernel
theorem dX7_init_19 : decode cX7_init 19 = .ok (.dup, 1) := by decide +kernel
theorem dX7_init_20 : decode cX7_init 20 = .ok (.invokespecial 11, 3) := by decide +kernel
theorem dX7_init_23 : decode cX7_init 23 = .ok (.putfield 18, 3) := by decide +kernel
theorem dX7_init_26 : decode cX7_init 26 = .ok (.return_, 1) := by decide +kernel
theorem dX7_name_0 : decode cX7_name 0 = .ok (.iload_n 0, 1) := by decide +kernel
theorem dX7_name_1 : decode cX7_name 1 = .ok (.i2l, 1) := by decide +kernel
theorem dX7_name_2 : decode cX7_name 2 = .ok (.bipush 29, 2) := by decide +kernel
theorem dX7_name_4 : decode cX7_name 4 = .ok (.lshl, 1) := by decide +kernel
theorem dX7_name_5 : decode cX7_name 5 = .ok (.iload_n 1, 1) := by decide +kernel
theorem dX7_name_6 : decode cX7_name 6 = .ok (.i2l, 1) := by decide +kernel
theorem dX7_name_7 : decode cX7_name 7 = .ok (.bipush 21, 2) := by decide +kernel
theorem dX7_name_9 : decode cX7_name 9 = .ok (.lshl, 1) := by decide +kernel
theorem dX7_name_10 : decode cX7_name 10 = .ok (.lor, 1) := by decide +kernel
theorem dX7_name_11 : decode cX7_name 11 = .ok (.iload_n 2, 1) := by decide +kernel
theorem dX7_name_12 : decode cX7_name 12 = .ok (.sipush 1000, 3) := by decide +kernel
theorem dX7_name_15 : decode cX7_name 15 = .ok (.iadd, 1) := by decide +kernel
theorem dX7_name_16 : decode cX7_name 16 = .ok (.i2l, 1) := by decide +kernel
theorem dX7_name_17 : decode cX7_name 17 = .ok (.lor, 1) := by decide +kernel
theorem dX7_name_18 : decode cX7_name 18 = .ok (.lreturn, 1) := by decide +kernel
set_option maxRecDepth 20000 in
theorem ggX7_length_X6_length : GoodIn wsX7_length wsX6_length := goodIn_r _ [6, 7, 10, 11] (by decide +kernel) (by decide +kernel)
set_option maxRecDepth 20000 in
theorem gX7_length_X6_length : GoodIn wsX7_length (wsV RX7 21 RX6 yX6_length wsX6_length) := goodIn_app (goodIn_of _ (by decide +kernel)) ggX7_length_X6_length
theorem dX7_length_0 : decode cX7_length 0 = .ok (.aload_n 0, 1) := by decide +kernel
theorem dX7_length_1 : decode cX7_length 1 = .ok (.getfield 12, 3) := by decide +kernel
theorem dX7_length_4 : decode cX7_length 4 = .ok (.invokevirtual 21, 3) := by decide +kernel
theorem dX7_length_7 : decode cX7_length 7 = .ok (.ireturn, 1) := by decide +kernel
set_option maxRecDepth 20000 in
theorem ggX7_endAt_X6_at : GoodIn wsX7_endAt wsX6_at := goodIn_r _ [6, 7, 8, 11, 12] (by decide +kernel) (by decide +kernel)
set_option maxRecDepth 20000 in
theorem gX7_endAt_X6_at : GoodIn wsX7_endAt (wsV RX7 25 RX6 yX6_at wsX6_at) := goodIn_app (goodIn_of _ (by decide +kernel)) ggX7_endAt_X6_at
theorem dX7_endAt_0 : decode cX7_endAt 0 = .ok (.aload_n 0, 1) := by decide +kernel
theorem dX7_endAt_1 : decode cX7_endAt 1 = .ok (.getfield 12, 3) := by decide +kernel
theorem dX7_endAt_4 : decode cX7_endAt 4 = .ok (.iload_n 1, 1) := by decide +kernel
theorem dX7_endAt_5 : decode cX7_endAt 5 = .ok (.invokevirtual 25, 3) := by decide +kernel
theorem dX7_endAt_8 : decode cX7_endAt 8 = .ok (.bipush 29, 2) := by decide +kernel
theorem dX7_endAt_10 : decode cX7_endAt 10 = .ok (.lshr, 1) := by decide +kernel
theorem dX7_endAt_11 : decode cX7_endAt 11 = .ok (.l2i, 1) := by decide +kernel
theorem dX7_endAt_12 : decode cX7_endAt 12 = .ok (.ireturn, 1) := by decide +kernel
set_option maxRecDepth 20000 in
theorem ggX7_keyAtPlace_X6_at : GoodIn wsX7_keyAtPlace wsX6_at := goodIn_r _ [7, 8, 9, 12, 13] (by decide +kernel) (by decide +kernel)
set_option maxRecDepth 20000 in
theorem gX7_keyAtPlace_X6_at : GoodIn wsX7_keyAtPlace (wsV RX7 25 RX6 yX6_at wsX6_at) := goodIn_app (goodIn_of _ (by decide +kernel)) ggX7_keyAtPlace_X6_at
theorem dX7_keyAtPlace_0 : decode cX7_keyAtPlace 0 = .ok (.aload_n 0, 1) := by decide +kernel
theorem dX7_keyAtPlace_1 : decode cX7_keyAtPlace 1 = .ok (.getfield 12, 3) := by decide +kernel
theorem dX7_keyAtPlace_4 : decode cX7_keyAtPlace 4 = .ok (.iload_n 1, 1) := by decide +kernel
theorem dX7_keyAtPlace_5 : decode cX7_keyAtPlace 5 = .ok (.invokevirtual 25, 3) := by decide +kernel
theorem dX7_keyAtPlace_8 : decode cX7_keyAtPlace 8 = .ok (.bipush 21, 2) := by decide +kernel
theorem dX7_keyAtPlace_10 : decode cX7_keyAtPlace 10 = .ok (.lshr, 1) := by decide +kernel
theorem dX7_keyAtPlace_11 : decode cX7_keyAtPlace 11 = .ok (.ldc2_w 29, 3) := by decide +kernel
theorem dX7_keyAtPlace_14 : decode cX7_keyAtPlace 14 = .ok (.land, 1) := by decide +kernel
theorem dX7_keyAtPlace_15 : decode cX7_keyAtPlace 15 = .ok (.l2i, 1) := by decide +kernel
theorem dX7_keyAtPlace_16 : decode cX7_keyAtPlace 16 = .ok (.ireturn, 1) := by decide +kernel
set_option maxRecDepth 20000 in
theorem ggX7_beginAt_X6_at : GoodIn wsX7_beginAt wsX6_at := goodIn_r _ [7, 8, 9, 12, 13] (by decide +kernel) (by decide +kernel)
set_option maxRecDepth 20000 in
theorem gX7_beginAt_X6_at : GoodIn wsX7_beginAt (wsV RX7 25 RX6 yX6_at wsX6_at) := goodIn_app (goodIn_of _ (by decide +kernel)) ggX7_beginAt_X6_at
theorem dX7_beginAt_0 : decode cX7_beginAt 0 = .ok (.aload_n 0, 1) := by decide +kernel
theorem dX7_beginAt_1 : decode cX7_beginAt 1 = .ok (.getfield 12, 3) := by decide +kernel
theorem dX7_beginAt_4 : decode cX7_beginAt 4 = .ok (.iload_n 1, 1) := by decide +kernel
theorem dX7_beginAt_5 : decode cX7_beginAt 5 = .ok (.invokevirtual 25, 3) := by decide +kernel
theorem dX7_beginAt_8 : decode cX7_beginAt 8 = .ok (.ldc2_w 31, 3) := by decide +kernel
theorem dX7_beginAt_11 : decode cX7_beginAt 11 = .ok (.land, 1) := by decide +kernel
theorem dX7_beginAt_12 : decode cX7_beginAt 12 = .ok (.l2i, 1) := by decide +kernel
theorem dX7_beginAt_13 : decode cX7_beginAt 13 = .ok (.sipush 1000, 3) := by decide +kernel
theorem dX7_beginAt_16 : decode cX7_beginAt 16 = .ok (.isub, 1) := by decide +kernel
theorem dX7_beginAt_17 : decode cX7_beginAt 17 = .ok (.ireturn, 1) := by decide +kernel
set_option maxRecDepth 20000 in
theorem ggX7_accountAtPlace_X6_at : GoodIn wsX7_accountAtPlace wsX6_at := goodIn_r _ [6, 7, 8, 11, 12] (by decide +kernel) (by decide +kernel)
set_option maxRecDepth 20000 in
theorem gX7_accountAtPlace_X6_at : GoodIn wsX7_accountAtPlace (wsV RX7 25 RX6 yX6_at wsX6_at) := goodIn_app (goodIn_of _ (by decide +kernel)) ggX7_accountAtPlace_X6_at
theorem dX7_accountAtPlace_0 : decode cX7_accountAtPlace 0 = .ok (.aload_n 0, 1) := by decide +kernel
theorem dX7_accountAtPlace_1 : decode cX7_accountAtPlace 1 = .ok (.getfield 18, 3) := by decide +kernel
theorem dX7_accountAtPlace_4 : decode cX7_accountAtPlace 4 = .ok (.iload_n 1, 1) := by decide +kernel
theorem dX7_accountAtPlace_5 : decode cX7_accountAtPlace 5 = .ok (.invokevirtual 25, 3) := by decide +kernel
theorem dX7_accountAtPlace_8 : decode cX7_accountAtPlace 8 = .ok (.lreturn, 1) := by decide +kernel
set_option maxRecDepth 20000 in
theorem ggX7_placeFor_X6_length : GoodIn wsX7_placeFor wsX6_length := goodIn_r _ [6, 7, 15, 16] (by decide +kernel) (by decide +kernel)
set_option maxRecDepth 20000 in
theorem gX7_placeFor_X6_length : GoodIn wsX7_placeFor (wsV RX7 21 RX6 yX6_length wsX6_length) := goodIn_app (goodIn_of _ (by decide +kernel)) ggX7_placeFor_X6_length
set_option maxRecDepth 20000 in
theorem ggX7_placeFor_X6_at : GoodIn wsX7_placeFor wsX6_at := goodIn_r _ [11, 7, 12, 15, 16] (by decide +kernel) (by decide +kernel)
set_option maxRecDepth 20000 in
theorem gX7_placeFor_X6_at : GoodIn wsX7_placeFor (wsV RX7 25 RX6 yX6_at wsX6_at) := goodIn_app (goodIn_of _ (by decide +kernel)) ggX7_placeFor_X6_at
theorem dX7_placeFor_0 : decode cX7_placeFor 0 = .ok (.iconst 0, 1) := by decide +kernel
theorem dX7_placeFor_1 : decode cX7_placeFor 1 = .ok (.istore_n 3, 1) := by decide +kernel
theorem dX7_placeFor_2 : decode cX7_placeFor 2 = .ok (.aload_n 0, 1) := by decide +kernel
theorem dX7_placeFor_3 : decode cX7_placeFor 3 = .ok (.getfield 12, 3) := by decide +kernel
theorem dX7_placeFor_6 : decode cX7_placeFor 6 = .ok (.invokevirtual 21, 3) := by decide +kernel
theorem dX7_placeFor_9 : decode cX7_placeFor 9 = .ok (.istore 4, 2) := by decide +kernel
theorem dX7_placeFor_11 : decode cX7_placeFor 11 = .ok (.iconst 0, 1) := by decide +kernel
theorem dX7_placeFor_12 : decode cX7_placeFor 12 = .ok (.istore 5, 2) := by decide +kernel
theorem dX7_placeFor_14 : decode cX7_placeFor 14 = .ok (.iload 5, 2) := by decide +kernel
theorem dX7_placeFor_16 : decode cX7_placeFor 16 = .ok (.bipush 40, 2) := by decide +kernel
theorem dX7_placeFor_18 : decode cX7_placeFor 18 = .ok (.if_icmp .ge 49, 3) := by decide +kernel
theorem dX7_placeFor_21 : decode cX7_placeFor 21 = .ok (.iload_n 3, 1) := by decide +kernel
theorem dX7_placeFor_22 : decode cX7_placeFor 22 = .ok (.iload 4, 2) := by decide +kernel
theorem dX7_placeFor_24 : decode cX7_placeFor 24 = .ok (.if_icmp .ge 43, 3) := by decide +kernel
theorem dX7_placeFor_27 : decode cX7_placeFor 27 = .ok (.iload_n 3, 1) := by decide +kernel
theorem dX7_placeFor_28 : decode cX7_placeFor 28 = .ok (.iload 4, 2) := by decide +kernel
theorem dX7_placeFor_30 : decode cX7_placeFor 30 = .ok (.iadd, 1) := by decide +kernel
theorem dX7_placeFor_31 : decode cX7_placeFor 31 = .ok (.iconst 1, 1) := by decide +kernel
theorem dX7_placeFor_32 : decode cX7_placeFor 32 = .ok (.iushr, 1) := by decide +kernel
theorem dX7_placeFor_33 : decode cX7_placeFor 33 = .ok (.istore 6, 2) := by decide +kernel
theorem dX7_placeFor_35 : decode cX7_placeFor 35 = .ok (.aload_n 0, 1) := by decide +kernel
theorem dX7_placeFor_36 : decode cX7_placeFor 36 = .ok (.getfield 12, 3) := by decide +kernel
theorem dX7_placeFor_39 : decode cX7_placeFor 39 = .ok (.iload 6, 2) := by decide +kernel
theorem dX7_placeFor_41 : decode cX7_placeFor 41 = .ok (.invokevirtual 25, 3) := by decide +kernel
theorem dX7_placeFor_44 : decode cX7_placeFor 44 = .ok (.lload_n 1, 1) := by decide +kernel
theorem dX7_placeFor_45 : decode cX7_placeFor 45 = .ok (.lcmp, 1) := by decide +kernel
theorem dX7_placeFor_46 : decode cX7_placeFor 46 = .ok (.ifCond .ge 11, 3) := by decide +kernel
theorem dX7_placeFor_49 : decode cX7_placeFor 49 = .ok (.iload 6, 2) := by decide +kernel
theorem dX7_placeFor_51 : decode cX7_placeFor 51 = .ok (.iconst 1, 1) := by decide +kernel
theorem dX7_placeFor_52 : decode cX7_placeFor 52 = .ok (.iadd, 1) := by decide +kernel
theorem dX7_placeFor_53 : decode cX7_placeFor 53 = .ok (.istore_n 3, 1) := by decide +kernel
theorem dX7_placeFor_54 : decode cX7_placeFor 54 = .ok (.goto 7, 3) := by decide +kernel
theorem dX7_placeFor_57 : decode cX7_placeFor 57 = .ok (.iload 6, 2) := by decide +kernel
theorem dX7_placeFor_59 : decode cX7_placeFor 59 = .ok (.istore 4, 2) := by decide +kernel
theorem dX7_placeFor_61 : decode cX7_placeFor 61 = .ok (.iinc 5 1, 3) := by decide +kernel
theorem dX7_placeFor_64 : decode cX7_placeFor 64 = .ok (.goto (-50), 3) := by decide +kernel
theorem dX7_placeFor_67 : decode cX7_placeFor 67 = .ok (.iload_n 3, 1) := by decide +kernel
theorem dX7_placeFor_68 : decode cX7_placeFor 68 = .ok (.ireturn, 1) := by decide +kernel
set_option maxRecDepth 20000 in
theorem ggX7_firstEndingAbove_X7_placeFor : GoodIn wsX7_firstEndingAbove wsX7_placeFor := goodIn_r _ [5, 6, 7, 8, 9, 10, 11, 12, 13, 14, 15, 16, 17, 18, 19, 20, 21] (by decide +kernel) (by decide +kernel)
set_option maxRecDepth 20000 in
theorem gX7_firstEndingAbove_X7_placeFor : GoodIn wsX7_firstEndingAbove (wsV RX7 33 RX7 yX7_placeFor wsX7_placeFor) := goodIn_app (goodIn_of _ (by decide +kernel)) ggX7_firstEndingAbove_X7_placeFor
theorem dX7_firstEndingAbove_0 : decode cX7_firstEndingAbove 0 = .ok (.aload_n 0, 1) := by decide +kernel
theorem dX7_firstEndingAbove_1 : decode cX7_firstEndingAbove 1 = .ok (.iload_n 1, 1) := by decide +kernel
theorem dX7_firstEndingAbove_2 : decode cX7_firstEndingAbove 2 = .ok (.iconst 1, 1) := by decide +kernel
theorem dX7_firstEndingAbove_3 : decode cX7_firstEndingAbove 3 = .ok (.iadd, 1) := by decide +kernel
theorem dX7_firstEndingAbove_4 : decode cX7_firstEndingAbove 4 = .ok (.i2l, 1) := by decide +kernel
theorem dX7_firstEndingAbove_5 : decode cX7_firstEndingAbove 5 = .ok (.bipush 29, 2) := by decide +kernel
theorem dX7_firstEndingAbove_7 : decode cX7_firstEndingAbove 7 = .ok (.lshl, 1) := by decide +kernel
theorem dX7_firstEndingAbove_8 : decode cX7_firstEndingAbove 8 = .ok (.invokevirtual 33, 3) := by decide +kernel
theorem dX7_firstEndingAbove_11 : decode cX7_firstEndingAbove 11 = .ok (.ireturn, 1) := by decide +kernel
set_option maxRecDepth 20000 in
theorem ggX7_isAt_X6_length : GoodIn wsX7_isAt wsX6_length := goodIn_r _ [6, 7, 15, 16] (by decide +kernel) (by decide +kernel)
set_option maxRecDepth 20000 in
theorem gX7_isAt_X6_length : GoodIn wsX7_isAt (wsV RX7 21 RX6 yX6_length wsX6_length) := goodIn_app (goodIn_of _ (by decide +kernel)) ggX7_isAt_X6_length
set_option maxRecDepth 20000 in
theorem ggX7_isAt_X6_at : GoodIn wsX7_isAt wsX6_at := goodIn_r _ [11, 7, 12, 15, 16] (by decide +kernel) (by decide +kernel)
set_option maxRecDepth 20000 in
theorem gX7_isAt_X6_at : GoodIn wsX7_isAt (wsV RX7 25 RX6 yX6_at wsX6_at) := goodIn_app (goodIn_of _ (by decide +kernel)) ggX7_isAt_X6_at
theorem dX7_isAt_0 : decode cX7_isAt 0 = .ok (.iload_n 1, 1) := by decide +kernel
theorem dX7_isAt_1 : decode cX7_isAt 1 = .ok (.aload_n 0, 1) := by decide +kernel
theorem dX7_isAt_2 : decode cX7_isAt 2 = .ok (.getfield 12, 3) := by decide +kernel
theorem dX7_isAt_5 : decode cX7_isAt 5 = .ok (.invokevirtual 21, 3) := by decide +kernel
theorem dX7_isAt_8 : decode cX7_isAt 8 = .ok (.if_icmp .ge 20, 3) := by decide +kernel
theorem dX7_isAt_11 : decode cX7_isAt 11 = .ok (.aload_n 0, 1) := by decide +kernel
theorem dX7_isAt_12 : decode cX7_isAt 12 = .ok (.getfield 12, 3) := by decide +kernel
theorem dX7_isAt_15 : decode cX7_isAt 15 = .ok (.iload_n 1, 1) := by decide +kernel
theorem dX7_isAt_16 : decode cX7_isAt 16 = .ok (.invokevirtual 25, 3) := by decide +kernel
theorem dX7_isAt_19 : decode cX7_isAt 19 = .ok (.lload_n 2, 1) := by decide +kernel
theorem dX7_isAt_20 : decode cX7_isAt 20 = .ok (.lcmp, 1) := by decide +kernel
theorem dX7_isAt_21 : decode cX7_isAt 21 = .ok (.ifCond .ne 7, 3) := by decide +kernel
theorem dX7_isAt_24 : decode cX7_isAt 24 = .ok (.iconst 1, 1) := by decide +kernel
theorem dX7_isAt_25 : decode cX7_isAt 25 = .ok (.goto 4, 3) := by decide +kernel
theorem dX7_isAt_28 : decode cX7_isAt 28 = .ok (.iconst 0, 1) := by decide +kernel
theorem dX7_isAt_29 : decode cX7_isAt 29 = .ok (.ireturn, 1) := by decide +kernel
set_option maxRecDepth 20000 in
theorem ggX7_insert_X6_insert : GoodIn wsX7_insert wsX6_insert := goodIn_r _ [7, 8, 9, 10, 11, 12, 13, 14, 15, 16, 17, 18, 19, 20, 21, 22, 23, 24, 25, 26, 27, 28, 29, 30, 33, 34] (by decide +kernel) (by decide +kernel)
set_option maxRecDepth 20000 in
theorem gX7_insert_X6_insert : GoodIn wsX7_insert (wsV RX7 47 RX6 yX6_insert wsX6_insert) := goodIn_app (goodIn_of _ (by decide +kernel)) ggX7_insert_X6_insert
theorem dX7_insert_0 : decode cX7_insert 0 = .ok (.aload_n 0, 1) := by decide +kernel
theorem dX7_insert_1 : decode cX7_insert 1 = .ok (.getfield 12, 3) := by decide +kernel
theorem dX7_insert_4 : decode cX7_insert 4 = .ok (.iload_n 1, 1) := by decide +kernel
theorem dX7_insert_5 : decode cX7_insert 5 = .ok (.lload_n 2, 1) := by decide +kernel
theorem dX7_insert_6 : decode cX7_insert 6 = .ok (.invokevirtual 47, 3) := by decide +kernel
theorem dX7_insert_9 : decode cX7_insert 9 = .ok (.aload_n 0, 1) := by decide +kernel
theorem dX7_insert_10 : decode cX7_insert 10 = .ok (.getfield 18, 3) := by decide +kernel
theorem dX7_insert_13 : decode cX7_insert 13 = .ok (.iload_n 1, 1) := by decide +kernel
theorem dX7_insert_14 : decode cX7_insert 14 = .ok (.lload 4, 2) := by decide +kernel
theorem dX7_insert_16 : decode cX7_insert 16 = .ok (.invokevirtual 47, 3) := by decide +kernel
theorem dX7_insert_19 : decode cX7_insert 19 = .ok (.return_, 1) := by decide +kernel
set_option maxRecDepth 20000 in
theorem ggX7_setAccount_X6_put : GoodIn wsX7_setAccount wsX6_put := goodIn_r _ [6, 7, 8, 11, 12] (by decide +kernel) (by decide +kernel)
set_option maxRecDepth 20000 in
theorem gX7_setAccount_X6_put : GoodIn wsX7_setAccount (wsV RX7 51 RX6 yX6_put wsX6_put) := goodIn_app (goodIn_of _ (by decide +kernel)) ggX7_setAccount_X6_put
theorem dX7_setAccount_0 : decode cX7_setAccount 0 = .ok (.aload_n 0, 1) := by decide +kernel
theorem dX7_setAccount_1 : decode cX7_setAccount 1 = .ok (.getfield 18, 3) := by decide +kernel
theorem dX7_setAccount_4 : decode cX7_setAccount 4 = .ok (.iload_n 1, 1) := by decide +kernel
theorem dX7_setAccount_5 : decode cX7_setAccount 5 = .ok (.lload_n 2, 1) := by decide +kernel
theorem dX7_setAccount_6 : decode cX7_setAccount 6 = .ok (.invokevirtual 51, 3) := by decide +kernel
theorem dX7_setAccount_9 : decode cX7_setAccount 9 = .ok (.return_, 1) := by decide +kernel
set_option maxRecDepth 20000 in
theorem ggX7_remove_X6_remove : GoodIn wsX7_remove wsX6_remove := goodIn_r _ [7, 8, 9, 10, 11, 12, 13, 16, 17] (by decide +kernel) (by decide +kernel)
set_option maxRecDepth 20000 in
theorem gX7_remove_X6_remove : GoodIn wsX7_remove (wsV RX7 54 RX6 yX6_remove wsX6_remove) := goodIn_app (goodIn_of _ (by decide +kernel)) ggX7_remove_X6_remove
theorem dX7_remove_0 : decode cX7_remove 0 = .ok (.aload_n 0, 1) := by decide +kernel
theorem dX7_remove_1 : decode cX7_remove 1 = .ok (.getfield 12, 3) := by decide +kernel
theorem dX7_remove_4 : decode cX7_remove 4 = .ok (.iload_n 1, 1) := by decide +kernel
theorem dX7_remove_5 : decode cX7_remove 5 = .ok (.iload_n 2, 1) := by decide +kernel
theorem dX7_remove_6 : decode cX7_remove 6 = .ok (.invokevirtual 54, 3) := by decide +kernel
theorem dX7_remove_9 : decode cX7_remove 9 = .ok (.aload_n 0, 1) := by decide +kernel
theorem dX7_remove_10 : decode cX7_remove 10 = .ok (.getfield 18, 3) := by decide +kernel
theorem dX7_remove_13 : decode cX7_remove 13 = .ok (.iload_n 1, 1) := by decide +kernel
theorem dX7_remove_14 : decode cX7_remove 14 = .ok (.iload_n 2, 1) := by decide +kernel
theorem dX7_remove_15 : decode cX7_remove 15 = .ok (.invokevirtual 54, 3) := by decide +kernel
theorem dX7_remove_18 : decode cX7_remove 18 = .ok (.return_, 1) := by decide +kernel
set_option maxRecDepth 20000 in
theorem ggX7_become_X6_become : GoodIn wsX7_become wsX6_become := goodIn_r _ [7, 8, 9, 10, 11, 12, 13, 14, 15, 16, 17, 18, 19, 20, 21, 22, 25, 26] (by decide +kernel) (by decide +kernel)
set_option maxRecDepth 20000 in
theorem gX7_become_X6_become : GoodIn wsX7_become (wsV RX7 58 RX6 yX6_become wsX6_become) := goodIn_app (goodIn_of _ (by decide +kernel)) ggX7_become_X6_become
theorem dX7_become_0 : decode cX7_become 0 = .ok (.aload_n 0, 1) := by decide +kernel
theorem dX7_become_1 : decode cX7_become 1 = .ok (.getfield 12, 3) := by decide +kernel
theorem dX7_become_4 : decode cX7_become 4 = .ok (.aload_n 1, 1) := by decide +kernel
theorem dX7_become_5 : decode cX7_become 5 = .ok (.getfield 12, 3) := by decide +kernel
theorem dX7_become_8 : decode cX7_become 8 = .ok (.iconst 0, 1) := by decide +kernel
theorem dX7_become_9 : decode cX7_become 9 = .ok (.invokevirtual 58, 3) := by decide +kernel
theorem dX7_become_12 : decode cX7_become 12 = .ok (.aload_n 0, 1) := by decide +kernel
theorem dX7_become_13 : decode cX7_become 13 = .ok (.getfield 18, 3) := by decide +kernel
theorem dX7_become_16 : decode cX7_become 16 = .ok (.aload_n 1, 1) := by decide +kernel
theorem dX7_become_17 : decode cX7_become 17 = .ok (.getfield 18, 3) := by decide +kernel
theorem dX7_become_20 : decode cX7_become 20 = .ok (.iconst 0, 1) := by decide +kernel
theorem dX7_become_21 : decode cX7_become 21 = .ok (.invokevirtual 58, 3) := by decide +kernel
theorem dX7_become_24 : decode cX7_become 24 = .ok (.return_, 1) := by decide +kernel
set_option maxRecDepth 20000 in
theorem ggX8_init_X4_init : GoodIn wsX8_init wsX4_init := goodIn_r _ [24, 25, 2, 3, 26, 9, 10, 27, 28, 29, 30, 31, 32, 33, 34, 35, 36, 37, 38, 39, 40, 41, 42, 43, 44, 45, 46, 47, 48, 49, 50, 51, 86, 87, 72, 73, 99, 100, 101] (by decide +kernel) (by decide +kernel)
set_option maxRecDepth 20000 in
theorem gX8_init_X4_init_n11 : GoodIn wsX8_init (wsX4_init) := ggX8_init_X4_init
set_option maxRecDepth 20000 in
theorem ggX8_init_X6_init : GoodIn wsX8_init wsX6_init := goodIn_r _ [33, 34, 2, 3, 35, 36, 86, 87] (by decide +kernel) (by decide +kernel)
set_option maxRecDepth 20000 in
theorem gX8_init_X6_init_n20 : GoodIn wsX8_init (wsX6_init) := ggX8_init_X6_init
set_option maxRecDepth 20000 in
theorem ggX8_init_X9_init : GoodIn wsX8_init wsX9_init := goodIn_r _ [53, 54, 2, 3, 55, 56, 57, 58, 59, 60, 61, 62, 63, 9, 10, 64, 65, 66, 67, 68, 69, 70, 71, 32, 33, 34, 35, 36, 88, 89, 90, 91, 92, 93, 94, 95, 96, 97, 98, 102, 103, 86, 87] (by decide +kernel) (by decide +kernel)
set_option maxRecDepth 20000 in
theorem gX8_init_X9_init_n27 : GoodIn wsX8_init (wsX9_init) := ggX8_init_X9_init
theorem dX8_init_0 : decode cX8_init 0 = .ok (.aload_n 0, 1) := by decide +kernel
theorem dX8_init_1 : decode cX8_init 1 = .ok (.invokespecial 3, 3) := by decide +kernel
theorem dX8_init_4 : decode cX8_init 4 = .ok (.aload_n 0, 1) := by decide +kernel
theorem dX8_init_5 : decode cX8_init 5 = .ok (.new 9, 3) := by decide +kernel
theorem dX8_init_8 : decode cX8_init 8 = .ok (.dup, 1) := by decide +kernel
theorem dX8_init_9 : decode cX8_init 9 = .ok (.invokespecial 11, 3) := by decide +kernel
theorem dX8_init_12 : decode cX8_init 12 = .ok (.putfield 12, 3) := by decide +kernel
theorem dX8_init_15 : decode cX8_init 15 = .ok (.aload_n 0, 1) := by decide +kernel
theorem dX8_init_16 : decode cX8_init 16 = .ok (.new 18, 3) := by decide +kernel
theorem dX8_init_19 : decode cX8_init 19 = .ok (.dup, 1) := by decide +kernel
theorem dX8_init_20 : decode cX8_init 20 = .ok (.invokespecial 20, 3) := by decide +kernel
theorem dX8_init_23 : decode cX8_init 23 = .ok (.putfield 21, 3) := by decide +kernel
theorem dX8_init_26 : decode cX8_init 26 = .ok (.aload_n 0, 1) := by decide +kernel
theorem dX8_init_27 : decode cX8_init 27 = .ok (.new 25, 3) := by decide +kernel
theorem dX8_init_30 : decode cX8_init 30 = .ok (.dup, 1) := by decide +kernel
theorem dX8_init_31 : decode cX8_init 31 = .ok (.invokespecial 27, 3) := by decide +kernel
theorem dX8_init_34 : decode cX8_init 34 = .ok (.putfield 28, 3) := by decide +kernel
theorem dX8_init_37 : decode cX8_init 37 = .ok (.aload_n 0, 1) := by decide +kernel
theorem dX8_init_38 : decode cX8_init 38 = .ok (.new 25, 3) := by decide +kernel
theorem dX8_init_41 : decode cX8_init 41 = .ok (.dup, 1) := by decide +kernel
theorem dX8_init_42 : decode cX8_init 42 = .ok (.invokespecial 27, 3) := by decide +kernel
theorem dX8_init_45 : decode cX8_init 45 = .ok (.putfield 32, 3) := by decide +kernel
theorem dX8_init_48 : decode cX8_init 48 = .ok (.aload_n 0, 1) := by decide +kernel
theorem dX8_init_49 : decode cX8_init 49 = .ok (.new 25, 3) := by decide +kernel
theorem dX8_init_52 : decode cX8_init 52 = .ok (.dup, 1) := by decide +kernel
theorem dX8_init_53 : decode cX8_init 53 = .ok (.invokespecial 27, 3) := by decide +kernel
theorem dX8_init_56 : decode cX8_init 56 = .ok (.putfield 35, 3) := by decide +kernel
theorem dX8_init_59 : decode cX8_init 59 = .ok (.aload_n 0, 1) := by decide +kernel
theorem dX8_init_60 : decode cX8_init 60 = .ok (.aload_n 1, 1) := by decide +kernel
theorem dX8_init_61 : decode cX8_init 61 = .ok (.putfield 38, 3) := by decide +kernel
theorem dX8_init_64 : decode cX8_init 64 = .ok (.aload_n 0, 1) := by decide +kernel
theorem dX8_init_65 : decode cX8_init 65 = .ok (.aload_n 2, 1) := by decide +kernel
theorem dX8_init_66 : decode cX8_init 66 = .ok (.putfield 42, 3) := by decide +kernel
theorem dX8_init_69 : decode cX8_init 69 = .ok (.aload_n 0, 1) := by decide +kernel
theorem dX8_init_70 : decode cX8_init 70 = .ok (.aload_n 3, 1) := by decide +kernel
theorem dX8_init_71 : decode cX8_init 71 = .ok (.putfield 45, 3) := by decide +kernel
theorem dX8_init_74 : decode cX8_init 74 = .ok (.aload_n 0, 1) := by decide +kernel
theorem dX8_init_75 : decode cX8_init 75 = .ok (.aload 4, 2) := by decide +kernel
theorem dX8_init_77 : decode cX8_init 77 = .ok (.putfield 49, 3) := by decide +kernel
theorem dX8_init_80 : decode cX8_init 80 = .ok (.aload_n 0, 1) := by decide +kernel
theorem dX8_init_81 : decode cX8_init 81 = .ok (.iload 5, 2) := by decide +kernel
theorem dX8_init_83 : decode cX8_init 83 = .ok (.putfield 52, 3) := by decide +kernel
theorem dX8_init_86 : decode cX8_init 86 = .ok (.return_, 1) := by decide +kernel
theorem dX8_channel_0 : decode cX8_channel 0 = .ok (.iload_n 1, 1) := by decide +kernel
theorem dX8_channel_1 : decode cX8_channel 1 = .ok (.ifCond .eq 10, 3) := by decide +kernel
theorem dX8_channel_4 : decode cX8_channel 4 = .ok (.aload_n 0, 1) := by decide +kernel
theorem dX8_channel_5 : decode cX8_channel 5 = .ok (.getfield 49, 3) := by decide +kernel
theorem dX8_channel_8 : decode cX8_channel 8 = .ok (.goto 7, 3) := by decide +kernel
theorem dX8_channel_11 : decode cX8_channel 11 = .ok (.aload_n 0, 1) := by decide +kernel
theorem dX8_channel_12 : decode cX8_channel 12 = .ok (.getfield 45, 3) := by decide +kernel
theorem dX8_channel_15 : decode cX8_channel 15 = .ok (.areturn, 1) := by decide +kernel
set_option maxRecDepth 20000 in
theorem ggX8_unread_X6_length : GoodIn wsX8_unread wsX6_length := goodIn_r _ [7, 8, 32, 33] (by decide +kernel) (by decide +kernel)
set_option maxRecDepth 20000 in
theorem gX8_unread_X6_length : GoodIn wsX8_unread (wsV RX8 56 RX6 yX6_length wsX6_length) := goodIn_app (goodIn_of _ (by decide +kernel)) ggX8_unread_X6_length
theorem dX8_unread_0 : decode cX8_unread 0 = .ok (.aload_n 0, 1) := by decide +kernel
theorem dX8_unread_1 : decode cX8_unread 1 = .ok (.getfield 42, 3) := by decide +kernel
theorem dX8_unread_4 : decode cX8_unread 4 = .ok (.invokevirtual 56, 3) := by decide +kernel
theorem dX8_unread_7 : decode cX8_unread 7 = .ok (.aload_n 0, 1) := by decide +kernel
theorem dX8_unread_8 : decode cX8_unread 8 = .ok (.getfield 28, 3) := by decide +kernel
theorem dX8_unread_11 : decode cX8_unread 11 = .ok (.getfield 60, 3) := by decide +kernel
theorem dX8_unread_14 : decode cX8_unread 14 = .ok (.isub, 1) := by decide +kernel
theorem dX8_unread_15 : decode cX8_unread 15 = .ok (.ireturn, 1) := by decide +kernel
set_option maxRecDepth 20000 in
theorem ggX8_canWork_X4_isBelow : GoodIn wsX8_canWork wsX4_isBelow := goodIn_r _ [13, 14, 15, 16, 17, 18, 19, 20, 21, 22, 23, 12, 24, 25, 26, 27, 28, 29, 30, 31, 32, 33, 34, 35, 36, 37, 38, 39, 40, 41, 42, 43, 44, 45, 46, 47, 48, 49, 50, 51, 52, 53, 112, 113, 114, 115, 116, 117, 118, 119, 120, 121] (by decide +kernel) (by decide +kernel)
set_option maxRecDepth 20000 in
theorem gX8_canWork_X4_isBelow : GoodIn wsX8_canWork (wsV RX8 64 RX4 yX4_isBelow wsX4_isBelow) := goodIn_app (goodIn_of _ (by decide +kernel)) ggX8_canWork_X4_isBelow
set_option maxRecDepth 20000 in
theorem ggX8_canWork_X8_unread : GoodIn wsX8_canWork wsX8_unread := goodIn_r _ [58, 59, 5, 60, 16, 17, 18, 19, 20, 74, 75, 76, 77, 78, 79, 80, 81, 82, 83, 84, 85, 101, 102, 103, 104, 105, 106, 107, 108, 109, 110, 111, 114, 115] (by decide +kernel) (by decide +kernel)
set_option maxRecDepth 20000 in
theorem gX8_canWork_X8_unread : GoodIn wsX8_canWork (wsV RX8 76 RX8 yX8_unread wsX8_unread) := goodIn_app (goodIn_of _ (by decide +kernel)) ggX8_canWork_X8_unread
set_option maxRecDepth 20000 in
theorem ggX8_canWork_X1_canGive : GoodIn wsX8_canWork wsX1_canGive := goodIn_r _ [65, 66, 67, 68, 69, 64, 70, 71, 72, 73, 16, 17, 18, 19, 20, 116, 117, 118, 114, 115] (by decide +kernel) (by decide +kernel)
set_option maxRecDepth 20000 in
theorem gX8_canWork_X1_canGive : GoodIn wsX8_canWork (wsV RX8 86 RX1 yX1_canGive wsX1_canGive) := goodIn_app (goodIn_of _ (by decide +kernel)) ggX8_canWork_X1_canGive
theorem dX8_canWork_0 : decode cX8_canWork 0 = .ok (.aload_n 0, 1) := by decide +kernel
theorem dX8_canWork_1 : decode cX8_canWork 1 = .ok (.getfield 12, 3) := by decide +kernel
theorem dX8_canWork_4 : decode cX8_canWork 4 = .ok (.iload_n 1, 1) := by decide +kernel
theorem dX8_canWork_5 : decode cX8_canWork 5 = .ok (.invokevirtual 64, 3) := by decide +kernel
theorem dX8_canWork_8 : decode cX8_canWork 8 = .ok (.ifCond .ne 5, 3) := by decide +kernel
theorem dX8_canWork_11 : decode cX8_canWork 11 = .ok (.iconst 0, 1) := by decide +kernel
theorem dX8_canWork_12 : decode cX8_canWork 12 = .ok (.ireturn, 1) := by decide +kernel
theorem dX8_canWork_13 : decode cX8_canWork 13 = .ok (.aload_n 0, 1) := by decide +kernel
theorem dX8_canWork_14 : decode cX8_canWork 14 = .ok (.getfield 38, 3) := by decide +kernel
theorem dX8_canWork_17 : decode cX8_canWork 17 = .ok (.getfield 68, 3) := by decide +kernel
theorem dX8_canWork_20 : decode cX8_canWork 20 = .ok (.ifCond .ne 42, 3) := by decide +kernel
theorem dX8_canWork_23 : decode cX8_canWork 23 = .ok (.aload_n 0, 1) := by decide +kernel
theorem dX8_canWork_24 : decode cX8_canWork 24 = .ok (.getfield 73, 3) := by decide +kernel
theorem dX8_canWork_27 : decode cX8_canWork 27 = .ok (.ifCond .ne 29, 3) := by decide +kernel
theorem dX8_canWork_30 : decode cX8_canWork 30 = .ok (.aload_n 0, 1) := by decide +kernel
theorem dX8_canWork_31 : decode cX8_canWork 31 = .ok (.invokevirtual 76, 3) := by decide +kernel
theorem dX8_canWork_34 : decode cX8_canWork 34 = .ok (.ifCond .gt 22, 3) := by decide +kernel
theorem dX8_canWork_37 : decode cX8_canWork 37 = .ok (.aload_n 0, 1) := by decide +kernel
theorem dX8_canWork_38 : decode cX8_canWork 38 = .ok (.getfield 79, 3) := by decide +kernel
theorem dX8_canWork_41 : decode cX8_canWork 41 = .ok (.ifCond .eq 19, 3) := by decide +kernel
theorem dX8_canWork_44 : decode cX8_canWork 44 = .ok (.aload_n 0, 1) := by decide +kernel
theorem dX8_canWork_45 : decode cX8_canWork 45 = .ok (.getfield 28, 3) := by decide +kernel
theorem dX8_canWork_48 : decode cX8_canWork 48 = .ok (.getfield 82, 3) := by decide +kernel
theorem dX8_canWork_51 : decode cX8_canWork 51 = .ok (.ldc 85, 2) := by decide +kernel
theorem dX8_canWork_53 : decode cX8_canWork 53 = .ok (.if_icmp .eq 7, 3) := by decide +kernel
theorem dX8_canWork_56 : decode cX8_canWork 56 = .ok (.iconst 1, 1) := by decide +kernel
theorem dX8_canWork_57 : decode cX8_canWork 57 = .ok (.goto 4, 3) := by decide +kernel
theorem dX8_canWork_60 : decode cX8_canWork 60 = .ok (.iconst 0, 1) := by decide +kernel
theorem dX8_canWork_61 : decode cX8_canWork 61 = .ok (.ireturn, 1) := by decide +kernel
theorem dX8_canWork_62 : decode cX8_canWork 62 = .ok (.aload_n 0, 1) := by decide +kernel
theorem dX8_canWork_63 : decode cX8_canWork 63 = .ok (.getfield 45, 3) := by decide +kernel
theorem dX8_canWork_66 : decode cX8_canWork 66 = .ok (.ifnull 13, 3) := by decide +kernel
theorem dX8_canWork_69 : decode cX8_canWork 69 = .ok (.aload_n 0, 1) := by decide +kernel
theorem dX8_canWork_70 : decode cX8_canWork 70 = .ok (.getfield 45, 3) := by decide +kernel
theorem dX8_canWork_73 : decode cX8_canWork 73 = .ok (.invokevirtual 86, 3) := by decide +kernel
theorem dX8_canWork_76 : decode cX8_canWork 76 = .ok (.ifCond .ne 20, 3) := by decide +kernel
theorem dX8_canWork_79 : decode cX8_canWork 79 = .ok (.aload_n 0, 1) := by decide +kernel
theorem dX8_canWork_80 : decode cX8_canWork 80 = .ok (.getfield 49, 3) := by decide +kernel
theorem dX8_canWork_83 : decode cX8_canWork 83 = .ok (.ifnull 17, 3) := by decide +kernel
theorem dX8_canWork_86 : decode cX8_canWork 86 = .ok (.aload_n 0, 1) := by decide +kernel
theorem dX8_canWork_87 : decode cX8_canWork 87 = .ok (.getfield 49, 3) := by decide +kernel
theorem dX8_canWork_90 : decode cX8_canWork 90 = .ok (.invokevirtual 86, 3) := by decide +kernel
theorem dX8_canWork_93 : decode cX8_canWork 93 = .ok (.ifCond .eq 7, 3) := by decide +kernel
theorem dX8_canWork_96 : decode cX8_canWork 96 = .ok (.iconst 1, 1) := by decide +kernel
theorem dX8_canWork_97 : decode cX8_canWork 97 = .ok (.goto 4, 3) := by decide +kernel
theorem dX8_canWork_100 : decode cX8_canWork 100 = .ok (.iconst 0, 1) := by decide +kernel
theorem dX8_canWork_101 : decode cX8_canWork 101 = .ok (.ireturn, 1) := by decide +kernel
set_option maxRecDepth 20000 in
theorem ggX8_turnsToSecond_X1_canGive : GoodIn wsX8_turnsToSecond wsX1_canGive := goodIn_r _ [8, 9, 10, 11, 12, 7, 13, 14, 15, 16, 17, 18, 19, 20, 21, 45, 46, 47, 48, 49] (by decide +kernel) (by decide +kernel)
set_option maxRecDepth 20000 in
theorem gX8_turnsToSecond_X1_canGive : GoodIn wsX8_turnsToSecond (wsV RX8 86 RX1 yX1_canGive wsX1_canGive) := goodIn_app (goodIn_of _ (by decide +kernel)) ggX8_turnsToSecond_X1_canGive
theorem dX8_turnsToSecond_0 : decode cX8_turnsToSecond 0 = .ok (.aload_n 0, 1) := by decide +kernel
theorem dX8_turnsToSecond_1 : decode cX8_turnsToSecond 1 = .ok (.getfield 49, 3) := by decide +kernel
theorem dX8_turnsToSecond_4 : decode cX8_turnsToSecond 4 = .ok (.ifnull 13, 3) := by decide +kernel
theorem dX8_turnsToSecond_7 : decode cX8_turnsToSecond 7 = .ok (.aload_n 0, 1) := by decide +kernel
theorem dX8_turnsToSecond_8 : decode cX8_turnsToSecond 8 = .ok (.getfield 49, 3) := by decide +kernel
theorem dX8_turnsToSecond_11 : decode cX8_turnsToSecond 11 = .ok (.invokevirtual 86, 3) := by decide +kernel
theorem dX8_turnsToSecond_14 : decode cX8_turnsToSecond 14 = .ok (.ifCond .ne 5, 3) := by decide +kernel
theorem dX8_turnsToSecond_17 : decode cX8_turnsToSecond 17 = .ok (.iconst 0, 1) := by decide +kernel
theorem dX8_turnsToSecond_18 : decode cX8_turnsToSecond 18 = .ok (.ireturn, 1) := by decide +kernel
theorem dX8_turnsToSecond_19 : decode cX8_turnsToSecond 19 = .ok (.aload_n 0, 1) := by decide +kernel
theorem dX8_turnsToSecond_20 : decode cX8_turnsToSecond 20 = .ok (.getfield 28, 3) := by decide +kernel
theorem dX8_turnsToSecond_23 : decode cX8_turnsToSecond 23 = .ok (.getfield 92, 3) := by decide +kernel
theorem dX8_turnsToSecond_26 : decode cX8_turnsToSecond 26 = .ok (.ifCond .eq 20, 3) := by decide +kernel
theorem dX8_turnsToSecond_29 : decode cX8_turnsToSecond 29 = .ok (.aload_n 0, 1) := by decide +kernel
theorem dX8_turnsToSecond_30 : decode cX8_turnsToSecond 30 = .ok (.getfield 45, 3) := by decide +kernel
theorem dX8_turnsToSecond_33 : decode cX8_turnsToSecond 33 = .ok (.ifnull 13, 3) := by decide +kernel
theorem dX8_turnsToSecond_36 : decode cX8_turnsToSecond 36 = .ok (.aload_n 0, 1) := by decide +kernel
theorem dX8_turnsToSecond_37 : decode cX8_turnsToSecond 37 = .ok (.getfield 45, 3) := by decide +kernel
theorem dX8_turnsToSecond_40 : decode cX8_turnsToSecond 40 = .ok (.invokevirtual 86, 3) := by decide +kernel
theorem dX8_turnsToSecond_43 : decode cX8_turnsToSecond 43 = .ok (.ifCond .ne 7, 3) := by decide +kernel
theorem dX8_turnsToSecond_46 : decode cX8_turnsToSecond 46 = .ok (.iconst 1, 1) := by decide +kernel
theorem dX8_turnsToSecond_47 : decode cX8_turnsToSecond 47 = .ok (.goto 4, 3) := by decide +kernel
theorem dX8_turnsToSecond_50 : decode cX8_turnsToSecond 50 = .ok (.iconst 0, 1) := by decide +kernel
theorem dX8_turnsToSecond_51 : decode cX8_turnsToSecond 51 = .ok (.ireturn, 1) := by decide +kernel
set_option maxRecDepth 20000 in
theorem ggX8_emit_X3_kind : GoodIn wsX8_emit wsX3_kind := goodIn_r _ [6] (by decide +kernel) (by decide +kernel)
set_option maxRecDepth 20000 in
theorem gX8_emit_X3_kind : GoodIn wsX8_emit (va_wsS RX8 95 yX3_kind wsX3_kind) := goodIn_app (goodIn_of _ (by decide +kernel)) ggX8_emit_X3_kind
set_option maxRecDepth 20000 in
theorem ggX8_emit_Jx4a65c_size_8abf5 : GoodIn wsX8_emit wsJx4a65c_size_8abf5 := goodIn_r _ [11, 12, 65, 66, 67] (by decide +kernel) (by decide +kernel)
set_option maxRecDepth 20000 in
theorem gX8_emit_Jx4a65c_size_8abf5 : GoodIn wsX8_emit (wsV RX8 108 RJx4a65c yJx4a65c_size_8abf5 wsJx4a65c_size_8abf5) := goodIn_app (goodIn_of _ (by decide +kernel)) ggX8_emit_Jx4a65c_size_8abf5
set_option maxRecDepth 20000 in
theorem ggX8_emit_X6_add : GoodIn wsX8_emit wsX6_add := goodIn_r _ [17, 18, 19, 20, 21, 22, 23, 24, 25, 26, 27, 28, 29, 30, 31, 32, 33, 34, 35, 36, 37, 38, 39, 68, 69] (by decide +kernel) (by decide +kernel)
set_option maxRecDepth 20000 in
theorem gX8_emit_X6_add : GoodIn wsX8_emit (wsV RX8 116 RX6 yX6_add wsX6_add) := goodIn_app (goodIn_of _ (by decide +kernel)) ggX8_emit_X6_add
theorem dX8_emit_0 : decode cX8_emit 0 = .ok (.lload_n 1, 1) := by decide +kernel
theorem dX8_emit_1 : decode cX8_emit 1 = .ok (.invokestatic 95, 3) := by decide +kernel
theorem dX8_emit_4 : decode cX8_emit 4 = .ok (.ifCond .ne 16, 3) := by decide +kernel
theorem dX8_emit_7 : decode cX8_emit 7 = .ok (.aload_n 0, 1) := by decide +kernel
theorem dX8_emit_8 : decode cX8_emit 8 = .ok (.getfield 28, 3) := by decide +kernel
theorem dX8_emit_11 : decode cX8_emit 11 = .ok (.dup, 1) := by decide +kernel
theorem dX8_emit_12 : decode cX8_emit 12 = .ok (.getfield 101, 3) := by decide +kernel
theorem dX8_emit_15 : decode cX8_emit 15 = .ok (.iconst 1, 1) := by decide +kernel
theorem dX8_emit_16 : decode cX8_emit 16 = .ok (.iadd, 1) := by decide +kernel
theorem dX8_emit_17 : decode cX8_emit 17 = .ok (.putfield 101, 3) := by decide +kernel
theorem dX8_emit_20 : decode cX8_emit 20 = .ok (.aload_n 0, 1) := by decide +kernel
theorem dX8_emit_21 : decode cX8_emit 21 = .ok (.getfield 12, 3) := by decide +kernel
theorem dX8_emit_24 : decode cX8_emit 24 = .ok (.getfield 104, 3) := by decide +kernel
theorem dX8_emit_27 : decode cX8_emit 27 = .ok (.invokevirtual 108, 3) := by decide +kernel
theorem dX8_emit_30 : decode cX8_emit 30 = .ok (.ifCond .le 14, 3) := by decide +kernel
theorem dX8_emit_33 : decode cX8_emit 33 = .ok (.aload_n 0, 1) := by decide +kernel
theorem dX8_emit_34 : decode cX8_emit 34 = .ok (.getfield 12, 3) := by decide +kernel
theorem dX8_emit_37 : decode cX8_emit 37 = .ok (.getfield 113, 3) := by decide +kernel
theorem dX8_emit_40 : decode cX8_emit 40 = .ok (.lload_n 1, 1) := by decide +kernel
theorem dX8_emit_41 : decode cX8_emit 41 = .ok (.invokevirtual 116, 3) := by decide +kernel
theorem dX8_emit_44 : decode cX8_emit 44 = .ok (.return_, 1) := by decide +kernel
set_option maxRecDepth 20000 in
theorem ggX8_read_X8_unread : GoodIn wsX8_read wsX8_unread := goodIn_r _ [9, 2, 3, 10, 11, 12, 13, 14, 15, 64, 65, 66, 67, 68, 69, 70, 71, 72, 73, 74, 75, 76, 77, 78, 79, 80, 81, 82, 83, 84, 85, 86, 102, 103] (by decide +kernel) (by decide +kernel)
set_option maxRecDepth 20000 in
theorem gX8_read_X8_unread : GoodIn wsX8_read (wsV RX8 76 RX8 yX8_unread wsX8_unread) := goodIn_app (goodIn_of _ (by decide +kernel)) ggX8_read_X8_unread
set_option maxRecDepth 20000 in
theorem ggX8_read_X6_at : GoodIn wsX8_read wsX6_at := goodIn_r _ [19, 15, 20, 102, 103] (by decide +kernel) (by decide +kernel)
set_option maxRecDepth 20000 in
theorem gX8_read_X6_at : GoodIn wsX8_read (wsV RX8 120 RX6 yX6_at wsX6_at) := goodIn_app (goodIn_of _ (by decide +kernel)) ggX8_read_X6_at
set_option maxRecDepth 20000 in
theorem ggX8_read_X8_emit : GoodIn wsX8_read wsX8_emit := goodIn_r _ [24, 3, 25, 26, 27, 28, 29, 30, 31, 32, 33, 34, 35, 36, 37, 38, 13, 39, 15, 20, 40, 41, 42, 43, 44, 45, 46, 47, 48, 49, 50, 51, 52, 53, 54, 55, 56, 57, 58, 59, 64, 65, 66, 67, 68, 69, 70, 71, 72, 73, 74, 75, 76, 77, 78, 79, 80, 81, 82, 83, 84, 85, 86, 104, 105, 106, 107, 108, 102, 103] (by decide +kernel) (by decide +kernel)
set_option maxRecDepth 20000 in
theorem gX8_read_X8_emit : GoodIn wsX8_read (wsV RX8 124 RX8 yX8_emit wsX8_emit) := goodIn_app (goodIn_of _ (by decide +kernel)) ggX8_read_X8_emit
set_option maxRecDepth 20000 in
theorem ggX8_read_X3_time : GoodIn wsX8_read wsX3_time := goodIn_r _ [62, 63] (by decide +kernel) (by decide +kernel)
set_option maxRecDepth 20000 in
theorem gX8_read_X3_time : GoodIn wsX8_read (va_wsS RX8 127 yX3_time wsX3_time) := goodIn_app (goodIn_of _ (by decide +kernel)) ggX8_read_X3_time
theorem dX8_read_0 : decode cX8_read 0 = .ok (.aload_n 0, 1) := by decide +kernel
theorem dX8_read_1 : decode cX8_read 1 = .ok (.invokevirtual 76, 3) := by decide +kernel
theorem dX8_read_4 : decode cX8_read 4 = .ok (.ifCond .gt 6, 3) := by decide +kernel
theorem dX8_read_7 : decode cX8_read 7 = .ok (.ldc 85, 2) := by decide +kernel
theorem dX8_read_9 : decode cX8_read 9 = .ok (.ireturn, 1) := by decide +kernel
theorem dX8_read_10 : decode cX8_read 10 = .ok (.aload_n 0, 1) := by decide +kernel
theorem dX8_read_11 : decode cX8_read 11 = .ok (.getfield 42, 3) := by decide +kernel
theorem dX8_read_14 : decode cX8_read 14 = .ok (.aload_n 0, 1) := by decide +kernel
theorem dX8_read_15 : decode cX8_read 15 = .ok (.getfield 28, 3) := by decide +kernel
theorem dX8_read_18 : decode cX8_read 18 = .ok (.getfield 60, 3) := by decide +kernel
theorem dX8_read_21 : decode cX8_read 21 = .ok (.invokevirtual 120, 3) := by decide +kernel
theorem dX8_read_24 : decode cX8_read 24 = .ok (.lstore_n 1, 1) := by decide +kernel
theorem dX8_read_25 : decode cX8_read 25 = .ok (.aload_n 0, 1) := by decide +kernel
theorem dX8_read_26 : decode cX8_read 26 = .ok (.getfield 28, 3) := by decide +kernel
theorem dX8_read_29 : decode cX8_read 29 = .ok (.dup, 1) := by decide +kernel
theorem dX8_read_30 : decode cX8_read 30 = .ok (.getfield 60, 3) := by decide +kernel
theorem dX8_read_33 : decode cX8_read 33 = .ok (.iconst 1, 1) := by decide +kernel
theorem dX8_read_34 : decode cX8_read 34 = .ok (.iadd, 1) := by decide +kernel
theorem dX8_read_35 : decode cX8_read 35 = .ok (.putfield 60, 3) := by decide +kernel
theorem dX8_read_38 : decode cX8_read 38 = .ok (.aload_n 0, 1) := by decide +kernel
theorem dX8_read_39 : decode cX8_read 39 = .ok (.lload_n 1, 1) := by decide +kernel
theorem dX8_read_40 : decode cX8_read 40 = .ok (.invokevirtual 124, 3) := by decide +kernel
theorem dX8_read_43 : decode cX8_read 43 = .ok (.lload_n 1, 1) := by decide +kernel
theorem dX8_read_44 : decode cX8_read 44 = .ok (.invokestatic 127, 3) := by decide +kernel
theorem dX8_read_47 : decode cX8_read 47 = .ok (.aload_n 0, 1) := by decide +kernel
theorem dX8_read_48 : decode cX8_read 48 = .ok (.getfield 38, 3) := by decide +kernel
theorem dX8_read_51 : decode cX8_read 51 = .ok (.getfield 130, 3) := by decide +kernel
theorem dX8_read_54 : decode cX8_read 54 = .ok (.isub, 1) := by decide +kernel
theorem dX8_read_55 : decode cX8_read 55 = .ok (.ireturn, 1) := by decide +kernel
set_option maxRecDepth 20000 in
theorem ggX8_takeEvent_X8_passes : GoodIn wsX8_takeEvent wsX8_passes := goodIn_r _ [7, 2, 8, 9, 10, 11, 12, 13, 14, 15, 16, 17, 18, 19, 210, 211, 212, 213, 214, 215, 216, 217, 218, 219, 220, 221, 233, 234, 235, 236, 237, 238, 239, 240, 241, 242, 243, 244, 245, 246, 247] (by decide +kernel) (by decide +kernel)
set_option maxRecDepth 20000 in
theorem gX8_takeEvent_X8_passes : GoodIn wsX8_takeEvent (wsV RX8 133 RX8 yX8_passes wsX8_passes) := goodIn_app (goodIn_of _ (by decide +kernel)) ggX8_takeEvent_X8_passes
set_option maxRecDepth 20000 in
theorem ggX8_takeEvent_X8_emit : GoodIn wsX8_takeEvent wsX8_emit := goodIn_r _ [23, 1, 24, 25, 26, 10, 27, 28, 29, 30, 31, 32, 33, 34, 35, 36, 37, 38, 39, 40, 41, 42, 43, 44, 45, 46, 47, 48, 49, 50, 51, 52, 53, 54, 55, 56, 57, 58, 59, 60, 210, 211, 212, 213, 214, 215, 216, 217, 218, 219, 220, 221, 222, 223, 224, 225, 226, 227, 228, 229, 230, 231, 232, 248, 249, 250, 251, 252, 253, 254] (by decide +kernel) (by decide +kernel)
set_option maxRecDepth 20000 in
theorem gX8_takeEvent_X8_emit : GoodIn wsX8_takeEvent (wsV RX8 124 RX8 yX8_emit wsX8_emit) := goodIn_app (goodIn_of _ (by decide +kernel)) ggX8_takeEvent_X8_emit
set_option maxRecDepth 20000 in
theorem ggX8_takeEvent_X8_mapped : GoodIn wsX8_takeEvent wsX8_mapped := goodIn_r _ [64, 2, 12, 13, 10, 14, 15, 8, 9, 11, 65, 66, 67, 68, 69, 70, 71, 72, 16, 17, 18, 19, 210, 211, 212, 213, 214, 215, 216, 217, 218, 219, 220, 221, 233, 234, 235, 236, 237, 238, 239, 240, 241, 242, 243, 244, 245, 246, 247] (by decide +kernel) (by decide +kernel)
set_option maxRecDepth 20000 in
theorem gX8_takeEvent_X8_mapped : GoodIn wsX8_takeEvent (wsV RX8 137 RX8 yX8_mapped wsX8_mapped) := goodIn_app (goodIn_of _ (by decide +kernel)) ggX8_takeEvent_X8_mapped
set_option maxRecDepth 20000 in
theorem ggX8_takeEvent_X8_takeIntoWindows : GoodIn wsX8_takeEvent wsX8_takeIntoWindows := goodIn_r _ [76, 2, 1, 65, 66, 10, 67, 68, 77, 78, 18, 79, 80, 81, 82, 6, 83, 12, 13, 14, 15, 84, 85, 86, 87, 88, 89, 90, 91, 92, 93, 94, 95, 37, 96, 39, 97, 98, 99, 100, 40, 101, 102, 103, 104, 105, 9, 11, 106, 107, 108, 109, 110, 111, 112, 113, 114, 115, 116, 117, 118, 119, 120, 121, 122, 123, 54, 55, 56, 124, 125, 126, 127, 128, 129, 130, 131, 132, 133, 134, 135, 136, 137, 138, 139, 140, 141, 142, 143, 144, 145, 146, 147, 148, 41, 149, 58, 59, 60, 42, 43, 44, 45, 46, 47, 48, 49, 50, 51, 52, 53, 57, 150, 151, 152, 153, 154, 155, 156, 157, 158, 159, 160, 161, 162, 163, 164, 165, 69, 70, 71, 72, 20, 21, 22, 23, 24, 25, 26, 27, 28, 29, 30, 31, 32, 33, 34, 35, 36, 38, 210, 211, 212, 213, 214, 215, 216, 217, 218, 219, 220, 221, 233, 234, 235, 236, 237, 238, 239, 240, 241, 242, 243, 244, 245, 246, 247, 222, 223, 224, 225, 226, 227, 228, 229, 230, 231, 232, 255, 256, 253, 254, 248, 249, 250, 251, 252] (by decide +kernel) (by decide +kernel)
set_option maxRecDepth 20000 in
theorem gX8_takeEvent_X8_takeIntoWindows : GoodIn wsX8_takeEvent (wsV RX8 141 RX8 yX8_takeIntoWindows wsX8_takeIntoWindows) := goodIn_app (goodIn_of _ (by decide +kernel)) ggX8_takeEvent_X8_takeIntoWindows
set_option maxRecDepth 20000 in
theorem ggX8_takeEvent_X8_takeIntoSession : GoodIn wsX8_takeEvent wsX8_takeIntoSession := goodIn_r _ [169, 1, 2, 170, 54, 55, 56, 171, 125, 126, 12, 13, 10, 14, 15, 65, 66, 67, 68, 101, 102, 103, 104, 105, 9, 11, 106, 107, 108, 109, 110, 172, 173, 174, 86, 175, 92, 93, 94, 95, 37, 96, 39, 157, 158, 159, 160, 161, 97, 98, 99, 100, 40, 176, 177, 178, 179, 180, 162, 163, 164, 165, 115, 116, 117, 118, 119, 120, 121, 122, 123, 124, 127, 128, 129, 130, 131, 132, 181, 182, 183, 184, 185, 186, 187, 188, 149, 58, 59, 60, 84, 85, 87, 88, 89, 90, 91, 141, 142, 143, 144, 145, 146, 147, 148, 41, 42, 43, 44, 45, 46, 47, 48, 49, 50, 51, 52, 53, 57, 210, 211, 212, 213, 214, 215, 216, 217, 218, 219, 220, 221, 222, 223, 224, 225, 226, 227, 228, 229, 230, 231, 232, 233, 234, 235, 236, 237, 238, 239, 240, 241, 242, 243, 244, 245, 246, 247, 255, 256, 253, 254] (by decide +kernel) (by decide +kernel)
set_option maxRecDepth 20000 in
theorem gX8_takeEvent_X8_takeIntoSession : GoodIn wsX8_takeEvent (wsV RX8 144 RX8 yX8_takeIntoSession wsX8_takeIntoSession) := goodIn_app (goodIn_of _ (by decide +kernel)) ggX8_takeEvent_X8_takeIntoSession
set_option maxRecDepth 20000 in
theorem ggX8_takeEvent_X8_takeIntoJoin : GoodIn wsX8_takeEvent wsX8_takeIntoJoin := goodIn_r _ [192, 1, 171, 125, 55, 126, 65, 66, 10, 67, 68, 193, 94, 95, 37, 96, 39, 194, 98, 99, 100, 40, 195, 196, 197, 6, 198, 2, 12, 13, 14, 15, 8, 9, 11, 199, 200, 201, 202, 69, 70, 71, 72, 20, 21, 22, 23, 24, 25, 26, 27, 28, 29, 30, 31, 32, 33, 34, 35, 36, 38, 41, 42, 43, 44, 45, 46, 47, 48, 49, 50, 51, 52, 53, 54, 56, 57, 58, 59, 60, 203, 186, 187, 188, 149, 210, 211, 212, 213, 214, 215, 216, 217, 218, 219, 220, 221, 222, 223, 224, 225, 226, 227, 228, 229, 230, 231, 232, 253, 254, 233, 234, 235, 236, 237, 238, 239, 240, 241, 242, 243, 244, 245, 246, 247, 248, 249, 250, 251, 252] (by decide +kernel) (by decide +kernel)
set_option maxRecDepth 20000 in
theorem gX8_takeEvent_X8_takeIntoJoin : GoodIn wsX8_takeEvent (wsV RX8 147 RX8 yX8_takeIntoJoin wsX8_takeIntoJoin) := goodIn_app (goodIn_of _ (by decide +kernel)) ggX8_takeEvent_X8_takeIntoJoin
set_option maxRecDepth 20000 in
theorem ggX8_takeEvent_X8_putOut : GoodIn wsX8_takeEvent wsX8_putOut := goodIn_r _ [207, 1, 208, 209, 34, 35, 36, 37, 38, 39, 40, 41, 42, 43, 44, 45, 46, 47, 48, 49, 50, 51, 52, 53, 54, 55, 56, 57, 58, 59, 60, 210, 211, 212, 213, 214, 215, 216, 217, 218, 219, 220, 221, 222, 223, 224, 225, 226, 227, 228, 229, 230, 231, 232, 253, 254] (by decide +kernel) (by decide +kernel)
set_option maxRecDepth 20000 in
theorem gX8_takeEvent_X8_putOut : GoodIn wsX8_takeEvent (wsV RX8 151 RX8 yX8_putOut wsX8_putOut) := goodIn_app (goodIn_of _ (by decide +kernel)) ggX8_takeEvent_X8_putOut
theorem dX8_takeEvent_0 : decode cX8_takeEvent 0 = .ok (.aload_n 0, 1) := by decide +kernel
theorem dX8_takeEvent_1 : decode cX8_takeEvent 1 = .ok (.getfield 28, 3) := by decide +kernel
theorem dX8_takeEvent_4 : decode cX8_takeEvent 4 = .ok (.dup, 1) := by decide +kernel
theorem dX8_takeEvent_5 : decode cX8_takeEvent 5 = .ok (.getfield 60, 3) := by decide +kernel
theorem dX8_takeEvent_8 : decode cX8_takeEvent 8 = .ok (.iconst 1, 1) := by decide +kernel
theorem dX8_takeEvent_9 : decode cX8_takeEvent 9 = .ok (.iadd, 1) := by decide +kernel
theorem dX8_takeEvent_10 : decode cX8_takeEvent 10 = .ok (.putfield 60, 3) := by decide +kernel
theorem dX8_takeEvent_13 : decode cX8_takeEvent 13 = .ok (.aload_n 0, 1) := by decide +kernel
theorem dX8_takeEvent_14 : decode cX8_takeEvent 14 = .ok (.getfield 38, 3) := by decide +kernel
theorem dX8_takeEvent_17 : decode cX8_takeEvent 17 = .ok (.getfield 68, 3) := by decide +kernel
theorem dX8_takeEvent_20 : decode cX8_takeEvent 20 = .ok (.tableswitch 101 1 6 #[40, 56, 68, 76, 84, 93], 40) := by decide +kernel
theorem dX8_takeEvent_60 : decode cX8_takeEvent 60 = .ok (.aload_n 0, 1) := by decide +kernel
theorem dX8_takeEvent_61 : decode cX8_takeEvent 61 = .ok (.lload_n 1, 1) := by decide +kernel
theorem dX8_takeEvent_62 : decode cX8_takeEvent 62 = .ok (.invokevirtual 133, 3) := by decide +kernel
theorem dX8_takeEvent_65 : decode cX8_takeEvent 65 = .ok (.ifCond .eq 61, 3) := by decide +kernel
theorem dX8_takeEvent_68 : decode cX8_takeEvent 68 = .ok (.aload_n 0, 1) := by decide +kernel
theorem dX8_takeEvent_69 : decode cX8_takeEvent 69 = .ok (.lload_n 1, 1) := by decide +kernel
theorem dX8_takeEvent_70 : decode cX8_takeEvent 70 = .ok (.invokevirtual 124, 3) := by decide +kernel
theorem dX8_takeEvent_73 : decode cX8_takeEvent 73 = .ok (.goto 53, 3) := by decide +kernel
theorem dX8_takeEvent_76 : decode cX8_takeEvent 76 = .ok (.aload_n 0, 1) := by decide +kernel
theorem dX8_takeEvent_77 : decode cX8_takeEvent 77 = .ok (.aload_n 0, 1) := by decide +kernel
theorem dX8_takeEvent_78 : decode cX8_takeEvent 78 = .ok (.lload_n 1, 1) := by decide +kernel
theorem dX8_takeEvent_79 : decode cX8_takeEvent 79 = .ok (.invokevirtual 137, 3) := by decide +kernel
theorem dX8_takeEvent_82 : decode cX8_takeEvent 82 = .ok (.invokevirtual 124, 3) := by decide +kernel
theorem dX8_takeEvent_85 : decode cX8_takeEvent 85 = .ok (.goto 41, 3) := by decide +kernel
theorem dX8_takeEvent_88 : decode cX8_takeEvent 88 = .ok (.aload_n 0, 1) := by decide +kernel
theorem dX8_takeEvent_89 : decode cX8_takeEvent 89 = .ok (.lload_n 1, 1) := by decide +kernel
theorem dX8_takeEvent_90 : decode cX8_takeEvent 90 = .ok (.invokevirtual 141, 3) := by decide +kernel
theorem dX8_takeEvent_93 : decode cX8_takeEvent 93 = .ok (.goto 33, 3) := by decide +kernel
theorem dX8_takeEvent_96 : decode cX8_takeEvent 96 = .ok (.aload_n 0, 1) := by decide +kernel
theorem dX8_takeEvent_97 : decode cX8_takeEvent 97 = .ok (.lload_n 1, 1) := by decide +kernel
theorem dX8_takeEvent_98 : decode cX8_takeEvent 98 = .ok (.invokevirtual 144, 3) := by decide +kernel
theorem dX8_takeEvent_101 : decode cX8_takeEvent 101 = .ok (.goto 25, 3) := by decide +kernel
theorem dX8_takeEvent_104 : decode cX8_takeEvent 104 = .ok (.aload_n 0, 1) := by decide +kernel
theorem dX8_takeEvent_105 : decode cX8_takeEvent 105 = .ok (.lload_n 1, 1) := by decide +kernel
theorem dX8_takeEvent_106 : decode cX8_takeEvent 106 = .ok (.iload_n 3, 1) := by decide +kernel
theorem dX8_takeEvent_107 : decode cX8_takeEvent 107 = .ok (.invokevirtual 147, 3) := by decide +kernel
theorem dX8_takeEvent_110 : decode cX8_takeEvent 110 = .ok (.goto 16, 3) := by decide +kernel
theorem dX8_takeEvent_113 : decode cX8_takeEvent 113 = .ok (.aload_n 0, 1) := by decide +kernel
theorem dX8_takeEvent_114 : decode cX8_takeEvent 114 = .ok (.lload_n 1, 1) := by decide +kernel
theorem dX8_takeEvent_115 : decode cX8_takeEvent 115 = .ok (.invokevirtual 124, 3) := by decide +kernel
theorem dX8_takeEvent_118 : decode cX8_takeEvent 118 = .ok (.goto 8, 3) := by decide +kernel
theorem dX8_takeEvent_121 : decode cX8_takeEvent 121 = .ok (.aload_n 0, 1) := by decide +kernel
theorem dX8_takeEvent_122 : decode cX8_takeEvent 122 = .ok (.lload_n 1, 1) := by decide +kernel
theorem dX8_takeEvent_123 : decode cX8_takeEvent 123 = .ok (.invokevirtual 151, 3) := by decide +kernel
theorem dX8_takeEvent_126 : decode cX8_takeEvent 126 = .ok (.return_, 1) := by decide +kernel
set_option maxRecDepth 20000 in
theorem ggX8_passes_X3_value : GoodIn wsX8_passes wsX3_value := goodIn_r _ [5] (by decide +kernel) (by decide +kernel)
set_option maxRecDepth 20000 in
theorem gX8_passes_X3_value : GoodIn wsX8_passes (va_wsS RX8 154 yX3_value wsX3_value) := goodIn_app (goodIn_of _ (by decide +kernel)) ggX8_passes_X3_value
set_option maxRecDepth 20000 in
theorem ggX8_passes_X3_key : GoodIn wsX8_passes wsX3_key := goodIn_r _ [8, 9] (by decide +kernel) (by decide +kernel)
set_option maxRecDepth 20000 in
theorem gX8_passes_X3_key : GoodIn wsX8_passes (va_wsS RX8 163 yX3_key wsX3_key) := goodIn_app (goodIn_of _ (by decide +kernel)) ggX8_passes_X3_key
set_option maxRecDepth 20000 in
theorem ggX8_passes_J9_floorMod_7cf53 : GoodIn wsX8_passes wsJ9_floorMod_7cf53 := goodIn_r _ [13] (by decide +kernel) (by decide +kernel)
set_option maxRecDepth 20000 in
theorem gX8_passes_J9_floorMod_7cf53 : GoodIn wsX8_passes (va_wsS RX8 166 yJ9_floorMod_7cf53 wsJ9_floorMod_7cf53) := goodIn_app (goodIn_of _ (by decide +kernel)) ggX8_passes_J9_floorMod_7cf53
theorem dX8_passes_0 : decode cX8_passes 0 = .ok (.lload_n 1, 1) := by decide +kernel
theorem dX8_passes_1 : decode cX8_passes 1 = .ok (.invokestatic 154, 3) := by decide +kernel
theorem dX8_passes_4 : decode cX8_passes 4 = .ok (.istore_n 3, 1) := by decide +kernel
theorem dX8_passes_5 : decode cX8_passes 5 = .ok (.aload_n 0, 1) := by decide +kernel
theorem dX8_passes_6 : decode cX8_passes 6 = .ok (.getfield 38, 3) := by decide +kernel
theorem dX8_passes_9 : decode cX8_passes 9 = .ok (.getfield 157, 3) := by decide +kernel
theorem dX8_passes_12 : decode cX8_passes 12 = .ok (.istore 4, 2) := by decide +kernel
theorem dX8_passes_14 : decode cX8_passes 14 = .ok (.aload_n 0, 1) := by decide +kernel
theorem dX8_passes_15 : decode cX8_passes 15 = .ok (.getfield 38, 3) := by decide +kernel
theorem dX8_passes_18 : decode cX8_passes 18 = .ok (.getfield 160, 3) := by decide +kernel
theorem dX8_passes_21 : decode cX8_passes 21 = .ok (.tableswitch 66 0 2 #[27, 39, 51], 27) := by decide +kernel
theorem dX8_passes_48 : decode cX8_passes 48 = .ok (.iload_n 3, 1) := by decide +kernel
theorem dX8_passes_49 : decode cX8_passes 49 = .ok (.iload 4, 2) := by decide +kernel
theorem dX8_passes_51 : decode cX8_passes 51 = .ok (.if_icmp .lt 7, 3) := by decide +kernel
theorem dX8_passes_54 : decode cX8_passes 54 = .ok (.iconst 1, 1) := by decide +kernel
theorem dX8_passes_55 : decode cX8_passes 55 = .ok (.goto 4, 3) := by decide +kernel
theorem dX8_passes_58 : decode cX8_passes 58 = .ok (.iconst 0, 1) := by decide +kernel
theorem dX8_passes_59 : decode cX8_passes 59 = .ok (.ireturn, 1) := by decide +kernel
theorem dX8_passes_60 : decode cX8_passes 60 = .ok (.iload_n 3, 1) := by decide +kernel
theorem dX8_passes_61 : decode cX8_passes 61 = .ok (.iload 4, 2) := by decide +kernel
theorem dX8_passes_63 : decode cX8_passes 63 = .ok (.if_icmp .ge 7, 3) := by decide +kernel
theorem dX8_passes_66 : decode cX8_passes 66 = .ok (.iconst 1, 1) := by decide +kernel
theorem dX8_passes_67 : decode cX8_passes 67 = .ok (.goto 4, 3) := by decide +kernel
theorem dX8_passes_70 : decode cX8_passes 70 = .ok (.iconst 0, 1) := by decide +kernel
theorem dX8_passes_71 : decode cX8_passes 71 = .ok (.ireturn, 1) := by decide +kernel
theorem dX8_passes_72 : decode cX8_passes 72 = .ok (.lload_n 1, 1) := by decide +kernel
theorem dX8_passes_73 : decode cX8_passes 73 = .ok (.invokestatic 163, 3) := by decide +kernel
theorem dX8_passes_76 : decode cX8_passes 76 = .ok (.iload 4, 2) := by decide +kernel
theorem dX8_passes_78 : decode cX8_passes 78 = .ok (.if_icmp .ne 7, 3) := by decide +kernel
theorem dX8_passes_81 : decode cX8_passes 81 = .ok (.iconst 1, 1) := by decide +kernel
theorem dX8_passes_82 : decode cX8_passes 82 = .ok (.goto 4, 3) := by decide +kernel
theorem dX8_passes_85 : decode cX8_passes 85 = .ok (.iconst 0, 1) := by decide +kernel
theorem dX8_passes_86 : decode cX8_passes 86 = .ok (.ireturn, 1) := by decide +kernel
theorem dX8_passes_87 : decode cX8_passes 87 = .ok (.iload 4, 2) := by decide +kernel
theorem dX8_passes_89 : decode cX8_passes 89 = .ok (.ifCond .eq 16, 3) := by decide +kernel
theorem dX8_passes_92 : decode cX8_passes 92 = .ok (.iload_n 3, 1) := by decide +kernel
theorem dX8_passes_93 : decode cX8_passes 93 = .ok (.iload 4, 2) := by decide +kernel
theorem dX8_passes_95 : decode cX8_passes 95 = .ok (.invokestatic 166, 3) := by decide +kernel
theorem dX8_passes_98 : decode cX8_passes 98 = .ok (.ifCond .ne 7, 3) := by decide +kernel
theorem dX8_passes_101 : decode cX8_passes 101 = .ok (.iconst 1, 1) := by decide +kernel
