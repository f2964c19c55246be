theorem dX10_close_0 : decode cX10_close 0 = .ok (.aload_n 0, 1) := by decide +kernel
theorem dX10_close_1 : decode cX10_close 1 = .ok (.iload_n 1, 1) := by decide +kernel
theorem dX10_close_2 : decode cX10_close 2 = .ok (.invokevirtual 97, 3) := by decide +kernel
theorem dX10_close_5 : decode cX10_close 5 = .ok (.astore_n 2, 1) := by decide +kernel
theorem dX10_close_6 : decode cX10_close 6 = .ok (.aload_n 0, 1) := by decide +kernel
theorem dX10_close_7 : decode cX10_close 7 = .ok (.aload_n 2, 1) := by decide +kernel
theorem dX10_close_8 : decode cX10_close 8 = .ok (.invokevirtual 101, 3) := by decide +kernel
theorem dX10_close_11 : decode cX10_close 11 = .ok (.aload_n 2, 1) := by decide +kernel
theorem dX10_close_12 : decode cX10_close 12 = .ok (.iconst 1, 1) := by decide +kernel
theorem dX10_close_13 : decode cX10_close 13 = .ok (.putfield 124, 3) := by decide +kernel
theorem dX10_close_16 : decode cX10_close 16 = .ok (.aload_n 2, 1) := by decide +kernel
theorem dX10_close_17 : decode cX10_close 17 = .ok (.invokevirtual 127, 3) := by decide +kernel
theorem dX10_close_20 : decode cX10_close 20 = .ok (.ireturn, 1) := by decide +kernel
set_option maxRecDepth 20000 in
theorem ggX10_work_X10_isWithin : GoodIn wsX10_work wsX10_isWithin := goodIn_r _ [6] (by decide +kernel) (by decide +kernel)
set_option maxRecDepth 20000 in
theorem gX10_work_X10_isWithin : GoodIn wsX10_work (va_wsS RX10 21 yX10_isWithin wsX10_isWithin) := goodIn_app (goodIn_of _ (by decide +kernel)) ggX10_work_X10_isWithin
set_option maxRecDepth 20000 in
theorem ggX10_work_X10_refuseUnless : GoodIn wsX10_work wsX10_refuseUnless := goodIn_ca (goodIn_r _ [9, 10, 11] (by decide +kernel) (by decide +kernel)) (goodIn_sub (fun _ h => List.mem_cons_of_mem _ (List.mem_append_left _ (List.mem_append_right _ h))) (by decide +kernel))
set_option maxRecDepth 20000 in
theorem gX10_work_X10_refuseUnless : GoodIn wsX10_work (va_wsS RX10 25 yX10_refuseUnless wsX10_refuseUnless) := goodIn_app (goodIn_of _ (by decide +kernel)) ggX10_work_X10_refuseUnless
set_option maxRecDepth 20000 in
theorem ggX10_work_X10_refuseUnlessStarted : GoodIn wsX10_work wsX10_refuseUnlessStarted := goodIn_ca (goodIn_r _ [15, 16, 17, 18, 413, 414, 415, 416, 417] (by decide +kernel) (by decide +kernel)) (goodIn_sub (fun _ h => List.mem_cons_of_mem _ (List.mem_append_right _ h)) (by decide +kernel))
set_option maxRecDepth 20000 in
theorem gX10_work_X10_refuseUnlessStarted : GoodIn wsX10_work (wsV RX10 130 RX10 yX10_refuseUnlessStarted wsX10_refuseUnlessStarted) := goodIn_app (goodIn_of _ (by decide +kernel)) ggX10_work_X10_refuseUnlessStarted
set_option maxRecDepth 20000 in
theorem ggX10_work_X2_nextToWork : GoodIn wsX10_work wsX2_nextToWork := goodIn_r _ [23, 24, 25, 26, 27, 28, 29, 30, 31, 32, 33, 34, 35, 22, 36, 37, 38, 39, 40, 41, 42, 43, 44, 45, 46, 47, 48, 49, 50, 51, 52, 53, 54, 55, 56, 57, 58, 59, 60, 61, 62, 63, 64, 65, 66, 67, 68, 69, 70, 71, 72, 73, 74, 75, 76, 77, 78, 79, 80, 81, 82, 83, 84, 85, 86, 87, 88, 89, 90, 91, 92, 93, 94, 95, 96, 97, 98, 99, 100, 101, 102, 103, 104, 105, 106, 107, 108, 109, 110, 418, 419, 420, 421, 422, 423, 424, 425, 426, 427, 428, 429, 430, 431, 432, 433, 434, 435, 436, 437, 438, 439, 440, 441, 442, 443, 444, 445, 446, 447, 448, 449, 450, 451, 452, 453, 454, 455, 456, 457, 458, 459, 460, 461, 462, 463, 464, 465, 466, 467, 468, 469, 470, 471, 472, 473] (by decide +kernel) (by decide +kernel)
set_option maxRecDepth 20000 in
theorem gX10_work_X2_nextToWork : GoodIn wsX10_work (wsV RX10 133 RX2 yX2_nextToWork wsX2_nextToWork) := goodIn_app (goodIn_of _ (by decide +kernel)) ggX10_work_X2_nextToWork
set_option maxRecDepth 20000 in
theorem ggX10_work_X2_step : GoodIn wsX10_work wsX2_step := goodIn_r _ [114, 25, 33, 34, 35, 22, 36, 24, 37, 27, 28, 29, 30, 31, 32, 38, 39, 40, 41, 42, 43, 44, 45, 46, 47, 48, 49, 50, 51, 52, 53, 54, 115, 116, 117, 71, 118, 73, 84, 85, 80, 81, 82, 83, 86, 87, 88, 89, 74, 75, 76, 77, 78, 79, 90, 91, 119, 120, 121, 122, 123, 124, 125, 126, 127, 128, 129, 130, 131, 132, 133, 134, 135, 136, 137, 138, 139, 140, 141, 58, 142, 64, 60, 143, 144, 145, 146, 147, 148, 149, 150, 151, 152, 153, 154, 155, 156, 157, 158, 159, 160, 161, 162, 163, 164, 165, 166, 167, 168, 169, 170, 171, 172, 173, 174, 175, 176, 177, 178, 179, 180, 181, 182, 183, 184, 185, 186, 187, 188, 189, 190, 191, 192, 193, 194, 195, 196, 197, 198, 199, 200, 201, 202, 203, 204, 205, 206, 207, 208, 209, 210, 211, 212, 65, 96, 61, 92, 93, 94, 95, 97, 213, 214, 215, 216, 217, 218, 219, 220, 221, 222, 223, 224, 225, 226, 227, 228, 229, 230, 231, 232, 233, 234, 235, 236, 237, 238, 239, 240, 241, 242, 243, 244, 245, 246, 247, 248, 249, 250, 251, 252, 253, 254, 255, 256, 257, 258, 259, 260, 261, 262, 263, 264, 265, 266, 267, 268, 269, 270, 271, 272, 273, 274, 275, 276, 277, 278, 279, 280, 281, 282, 283, 284, 285, 286, 287, 67, 66, 98, 99, 100, 101, 102, 103, 104, 105, 106, 107, 108, 109, 110, 288, 289, 290, 291, 292, 293, 294, 295, 296, 297, 298, 299, 300, 301, 302, 303, 304, 305, 306, 307, 308, 309, 310, 311, 312, 313, 314, 315, 316, 317, 318, 319, 320, 321, 322, 323, 324, 325, 326, 327, 328, 329, 330, 331, 332, 333, 334, 335, 336, 337, 338, 339, 340, 341, 342, 343, 344, 345, 346, 347, 348, 349, 350, 351, 352, 353, 354, 355, 356, 357, 358, 359, 360, 361, 362, 363, 364, 365, 366, 367, 368, 369, 370, 371, 372, 373, 374, 375, 376, 377, 378, 379, 380, 381, 382, 383, 384, 385, 386, 387, 388, 389, 390, 391, 392, 393, 394, 395, 396, 397, 398, 399, 400, 401, 402, 403, 404, 405, 406, 407, 408, 409, 410, 411, 412, 418, 419, 420, 421, 422, 423, 424, 425, 429, 430, 431, 432, 433, 434, 435, 436, 437, 438, 439, 440, 441, 442, 443, 444, 445, 446, 447, 448, 449, 450, 451, 452, 453, 454, 455, 456, 457, 458, 459, 460, 461, 462, 463, 464, 465, 466, 426, 427, 428, 467, 468, 471, 472, 473, 469, 470, 474, 475] (by decide +kernel) (by decide +kernel)
set_option maxRecDepth 20000 in
theorem gX10_work_X2_step : GoodIn wsX10_work (wsV RX10 136 RX2 yX2_step wsX2_step) := goodIn_app (goodIn_of _ (by decide +kernel)) ggX10_work_X2_step
theorem dX10_work_0 : decode cX10_work 0 = .ok (.iload_n 1, 1) := by decide +kernel
theorem dX10_work_1 : decode cX10_work 1 = .ok (.iconst 1, 1) := by decide +kernel
theorem dX10_work_2 : decode cX10_work 2 = .ok (.sipush 200, 3) := by decide +kernel
theorem dX10_work_5 : decode cX10_work 5 = .ok (.invokestatic 21, 3) := by decide +kernel
theorem dX10_work_8 : decode cX10_work 8 = .ok (.invokestatic 25, 3) := by decide +kernel
theorem dX10_work_11 : decode cX10_work 11 = .ok (.aload_n 0, 1) := by decide +kernel
theorem dX10_work_12 : decode cX10_work 12 = .ok (.invokevirtual 130, 3) := by decide +kernel
theorem dX10_work_15 : decode cX10_work 15 = .ok (.iconst 0, 1) := by decide +kernel
theorem dX10_work_16 : decode cX10_work 16 = .ok (.istore_n 2, 1) := by decide +kernel
theorem dX10_work_17 : decode cX10_work 17 = .ok (.iload_n 2, 1) := by decide +kernel
theorem dX10_work_18 : decode cX10_work 18 = .ok (.iload_n 1, 1) := by decide +kernel
theorem dX10_work_19 : decode cX10_work 19 = .ok (.if_icmp .ge 26, 3) := by decide +kernel
theorem dX10_work_22 : decode cX10_work 22 = .ok (.aload_n 0, 1) := by decide +kernel
theorem dX10_work_23 : decode cX10_work 23 = .ok (.getfield 12, 3) := by decide +kernel
theorem dX10_work_26 : decode cX10_work 26 = .ok (.aload_n 0, 1) := by decide +kernel
theorem dX10_work_27 : decode cX10_work 27 = .ok (.getfield 12, 3) := by decide +kernel
theorem dX10_work_30 : decode cX10_work 30 = .ok (.invokevirtual 133, 3) := by decide +kernel
theorem dX10_work_33 : decode cX10_work 33 = .ok (.invokevirtual 136, 3) := by decide +kernel
theorem dX10_work_36 : decode cX10_work 36 = .ok (.ifCond .eq 9, 3) := by decide +kernel
theorem dX10_work_39 : decode cX10_work 39 = .ok (.iinc 2 1, 3) := by decide +kernel
theorem dX10_work_42 : decode cX10_work 42 = .ok (.goto (-25), 3) := by decide +kernel
theorem dX10_work_45 : decode cX10_work 45 = .ok (.aload_n 0, 1) := by decide +kernel
theorem dX10_work_46 : decode cX10_work 46 = .ok (.dup, 1) := by decide +kernel
theorem dX10_work_47 : decode cX10_work 47 = .ok (.getfield 139, 3) := by decide +kernel
theorem dX10_work_50 : decode cX10_work 50 = .ok (.iload_n 2, 1) := by decide +kernel
theorem dX10_work_51 : decode cX10_work 51 = .ok (.iadd, 1) := by decide +kernel
theorem dX10_work_52 : decode cX10_work 52 = .ok (.putfield 139, 3) := by decide +kernel
theorem dX10_work_55 : decode cX10_work 55 = .ok (.iload_n 2, 1) := by decide +kernel
theorem dX10_work_56 : decode cX10_work 56 = .ok (.ireturn, 1) := by decide +kernel
set_option maxRecDepth 20000 in
theorem ggX10_workAt_X10_stageOf : GoodIn wsX10_workAt wsX10_stageOf := goodIn_ca (goodIn_r _ [7, 8, 9, 1, 10, 11, 12, 13, 14, 15, 16, 17, 18, 19, 20, 21, 22, 23, 24, 25, 26, 27, 28, 29, 30, 31, 32, 33, 34, 35, 36, 37, 38, 39, 407, 408, 409, 410, 411, 412, 413, 414, 415, 416, 417, 418, 419, 420, 421, 422] (by decide +kernel) (by decide +kernel)) (goodIn_sub (fun _ h => List.mem_cons_of_mem _ (List.mem_append_left _ (List.mem_append_right _ h))) (by decide +kernel))
set_option maxRecDepth 20000 in
theorem gX10_workAt_X10_stageOf : GoodIn wsX10_workAt (wsV RX10 44 RX10 yX10_stageOf wsX10_stageOf) := goodIn_app (goodIn_of _ (by decide +kernel)) ggX10_workAt_X10_stageOf
set_option maxRecDepth 20000 in
theorem ggX10_workAt_X10_refuseUnlessStarted : GoodIn wsX10_workAt wsX10_refuseUnlessStarted := goodIn_ca (goodIn_r _ [43, 44, 45, 46, 407, 408, 409, 410, 411] (by decide +kernel) (by decide +kernel)) (goodIn_sub (fun _ h => List.mem_cons_of_mem _ (List.mem_append_right _ h)) (by decide +kernel))
set_option maxRecDepth 20000 in
theorem gX10_workAt_X10_refuseUnlessStarted : GoodIn wsX10_workAt (wsV RX10 130 RX10 yX10_refuseUnlessStarted wsX10_refuseUnlessStarted) := goodIn_app (goodIn_of _ (by decide +kernel)) ggX10_workAt_X10_refuseUnlessStarted
set_option maxRecDepth 20000 in
theorem ggX10_workAt_X8_canWork : GoodIn wsX10_workAt wsX8_canWork := goodIn_r _ [51, 52, 53, 54, 55, 56, 57, 58, 59, 60, 61, 62, 63, 64, 65, 66, 67, 68, 69, 70, 71, 72, 73, 74, 75, 76, 77, 78, 79, 80, 81, 82, 18, 19, 20, 21, 22, 83, 24, 25, 26, 27, 28, 29, 30, 31, 32, 33, 34, 35, 36, 37, 38, 39, 84, 85, 86, 50, 87, 88, 89, 90, 91, 92, 93, 94, 95, 96, 97, 98, 99, 100, 101, 102, 423, 424, 425, 426, 427, 428, 429, 430, 431, 432, 433, 434, 435, 436, 437, 438, 439, 440, 441, 442, 443, 444, 445, 446, 447, 448, 449, 450, 451, 452, 453, 454, 455, 456, 457, 458, 459, 460, 461, 462, 463, 464, 465, 466, 467, 420, 421, 422] (by decide +kernel) (by decide +kernel)
set_option maxRecDepth 20000 in
theorem gX10_workAt_X8_canWork : GoodIn wsX10_workAt (wsV RX10 142 RX8 yX8_canWork wsX8_canWork) := goodIn_app (goodIn_of _ (by decide +kernel)) ggX10_workAt_X8_canWork
set_option maxRecDepth 20000 in
theorem ggX10_workAt_X2_step : GoodIn wsX10_workAt wsX2_step := goodIn_r _ [106, 107, 108, 11, 12, 13, 14, 15, 16, 17, 18, 19, 20, 21, 22, 23, 24, 25, 26, 27, 28, 29, 30, 31, 32, 33, 34, 35, 36, 37, 38, 39, 109, 110, 111, 63, 112, 65, 76, 77, 72, 73, 74, 75, 78, 79, 80, 81, 66, 67, 68, 69, 70, 71, 82, 83, 113, 114, 115, 116, 117, 118, 119, 120, 121, 122, 123, 124, 125, 126, 127, 128, 129, 130, 131, 132, 133, 134, 135, 50, 136, 56, 52, 137, 138, 139, 140, 141, 142, 143, 144, 145, 146, 147, 148, 149, 150, 151, 152, 153, 154, 155, 156, 157, 158, 159, 160, 161, 162, 163, 164, 165, 166, 167, 168, 169, 170, 171, 172, 173, 174, 175, 176, 177, 178, 179, 180, 181, 182, 183, 184, 185, 186, 187, 188, 189, 190, 191, 192, 193, 194, 195, 196, 197, 198, 199, 200, 201, 202, 203, 204, 205, 206, 57, 88, 53, 84, 85, 86, 87, 89, 207, 208, 209, 210, 211, 212, 213, 214, 215, 216, 217, 218, 219, 220, 221, 222, 223, 224, 225, 226, 227, 228, 229, 230, 231, 232, 233, 234, 235, 236, 237, 238, 239, 240, 241, 242, 243, 244, 245, 246, 247, 248, 249, 250, 251, 252, 253, 254, 255, 256, 257, 258, 259, 260, 261, 262, 263, 264, 265, 266, 267, 268, 269, 270, 271, 272, 273, 274, 275, 276, 277, 278, 279, 280, 281, 59, 58, 90, 91, 92, 93, 94, 95, 96, 97, 98, 99, 100, 101, 102, 282, 283, 284, 285, 286, 287, 288, 289, 290, 291, 292, 293, 294, 295, 296, 297, 298, 299, 300, 301, 302, 303, 304, 305, 306, 307, 308, 309, 310, 311, 312, 313, 314, 315, 316, 317, 318, 319, 320, 321, 322, 323, 324, 325, 326, 327, 328, 329, 330, 331, 332, 333, 334, 335, 336, 337, 338, 339, 340, 341, 342, 343, 344, 345, 346, 347, 348, 349, 350, 351, 352, 353, 354, 355, 356, 357, 358, 359, 360, 361, 362, 363, 364, 365, 366, 367, 368, 369, 370, 371, 372, 373, 374, 375, 376, 377, 378, 379, 380, 381, 382, 383, 384, 385, 386, 387, 388, 389, 390, 391, 392, 393, 394, 395, 396, 397, 398, 399, 400, 401, 402, 403, 404, 405, 406, 412, 413, 414, 415, 416, 417, 418, 419, 423, 424, 425, 426, 427, 428, 429, 430, 431, 432, 433, 434, 435, 436, 437, 438, 439, 440, 441, 442, 443, 444, 445, 446, 447, 448, 449, 450, 451, 452, 453, 454, 455, 456, 457, 458, 459, 460, 420, 421, 422, 461, 462, 465, 466, 467, 463, 464, 468, 469] (by decide +kernel) (by decide +kernel)
set_option maxRecDepth 20000 in
theorem gX10_workAt_X2_step : GoodIn wsX10_workAt (wsV RX10 136 RX2 yX2_step wsX2_step) := goodIn_app (goodIn_of _ (by decide +kernel)) ggX10_workAt_X2_step
theorem dX10_workAt_0 : decode cX10_workAt 0 = .ok (.aload_n 0, 1) := by decide +kernel
theorem dX10_workAt_1 : decode cX10_workAt 1 = .ok (.iload_n 1, 1) := by decide +kernel
theorem dX10_workAt_2 : decode cX10_workAt 2 = .ok (.invokevirtual 44, 3) := by decide +kernel
theorem dX10_workAt_5 : decode cX10_workAt 5 = .ok (.astore_n 2, 1) := by decide +kernel
theorem dX10_workAt_6 : decode cX10_workAt 6 = .ok (.aload_n 0, 1) := by decide +kernel
theorem dX10_workAt_7 : decode cX10_workAt 7 = .ok (.invokevirtual 130, 3) := by decide +kernel
theorem dX10_workAt_10 : decode cX10_workAt 10 = .ok (.aload_n 2, 1) := by decide +kernel
theorem dX10_workAt_11 : decode cX10_workAt 11 = .ok (.aload_n 0, 1) := by decide +kernel
theorem dX10_workAt_12 : decode cX10_workAt 12 = .ok (.getfield 12, 3) := by decide +kernel
theorem dX10_workAt_15 : decode cX10_workAt 15 = .ok (.getfield 94, 3) := by decide +kernel
theorem dX10_workAt_18 : decode cX10_workAt 18 = .ok (.invokevirtual 142, 3) := by decide +kernel
theorem dX10_workAt_21 : decode cX10_workAt 21 = .ok (.ifCond .eq 14, 3) := by decide +kernel
theorem dX10_workAt_24 : decode cX10_workAt 24 = .ok (.aload_n 0, 1) := by decide +kernel
theorem dX10_workAt_25 : decode cX10_workAt 25 = .ok (.getfield 12, 3) := by decide +kernel
theorem dX10_workAt_28 : decode cX10_workAt 28 = .ok (.iload_n 1, 1) := by decide +kernel
theorem dX10_workAt_29 : decode cX10_workAt 29 = .ok (.invokevirtual 136, 3) := by decide +kernel
theorem dX10_workAt_32 : decode cX10_workAt 32 = .ok (.ifCond .ne 5, 3) := by decide +kernel
theorem dX10_workAt_35 : decode cX10_workAt 35 = .ok (.iconst 0, 1) := by decide +kernel
theorem dX10_workAt_36 : decode cX10_workAt 36 = .ok (.ireturn, 1) := by decide +kernel
theorem dX10_workAt_37 : decode cX10_workAt 37 = .ok (.aload_n 0, 1) := by decide +kernel
theorem dX10_workAt_38 : decode cX10_workAt 38 = .ok (.dup, 1) := by decide +kernel
theorem dX10_workAt_39 : decode cX10_workAt 39 = .ok (.getfield 139, 3) := by decide +kernel
theorem dX10_workAt_42 : decode cX10_workAt 42 = .ok (.iconst 1, 1) := by decide +kernel
theorem dX10_workAt_43 : decode cX10_workAt 43 = .ok (.iadd, 1) := by decide +kernel
theorem dX10_workAt_44 : decode cX10_workAt 44 = .ok (.putfield 139, 3) := by decide +kernel
theorem dX10_workAt_47 : decode cX10_workAt 47 = .ok (.iconst 1, 1) := by decide +kernel
theorem dX10_workAt_48 : decode cX10_workAt 48 = .ok (.ireturn, 1) := by decide +kernel
set_option maxRecDepth 20000 in
theorem ggX10_checkpoint_X10_refuseUnlessStarted : GoodIn wsX10_checkpoint wsX10_refuseUnlessStarted := goodIn_ca (goodIn_r _ [8, 1, 2, 9, 43, 44, 45, 46, 47] (by decide +kernel) (by decide +kernel)) (goodIn_sub (fun _ h => List.mem_cons_of_mem _ (List.mem_append_right _ h)) (by decide +kernel))
set_option maxRecDepth 20000 in
theorem gX10_checkpoint_X10_refuseUnlessStarted : GoodIn wsX10_checkpoint (wsV RX10 130 RX10 yX10_refuseUnlessStarted wsX10_refuseUnlessStarted) := goodIn_app (goodIn_of _ (by decide +kernel)) ggX10_checkpoint_X10_refuseUnlessStarted
set_option maxRecDepth 20000 in
theorem ggX10_checkpoint_X2_beginCheckpoint : GoodIn wsX10_checkpoint wsX2_beginCheckpoint := goodIn_r _ [14, 15, 16, 17, 18, 19, 20, 21, 22, 23, 24, 25, 26, 27, 28, 29, 30, 31, 32, 33, 34, 35, 36, 37, 38, 39, 40, 41, 42, 48, 49, 50, 51, 52, 53, 54, 55, 56, 57, 58, 59, 60, 61, 62, 63, 64, 65, 66, 67, 68, 69, 70, 71, 72, 73, 74, 75, 76, 77, 78, 79, 80, 81, 82, 83, 84, 85] (by decide +kernel) (by decide +kernel)
set_option maxRecDepth 20000 in
theorem gX10_checkpoint_X2_beginCheckpoint : GoodIn wsX10_checkpoint (wsV RX10 148 RX2 yX2_beginCheckpoint wsX2_beginCheckpoint) := goodIn_app (goodIn_of _ (by decide +kernel)) ggX10_checkpoint_X2_beginCheckpoint
theorem dX10_checkpoint_0 : decode cX10_checkpoint 0 = .ok (.aload_n 0, 1) := by decide +kernel
theorem dX10_checkpoint_1 : decode cX10_checkpoint 1 = .ok (.invokevirtual 130, 3) := by decide +kernel
theorem dX10_checkpoint_4 : decode cX10_checkpoint 4 = .ok (.aload_n 0, 1) := by decide +kernel
theorem dX10_checkpoint_5 : decode cX10_checkpoint 5 = .ok (.getfield 12, 3) := by decide +kernel
theorem dX10_checkpoint_8 : decode cX10_checkpoint 8 = .ok (.getfield 145, 3) := by decide +kernel
theorem dX10_checkpoint_11 : decode cX10_checkpoint 11 = .ok (.ifCond .eq 11, 3) := by decide +kernel
theorem dX10_checkpoint_14 : decode cX10_checkpoint 14 = .ok (.new 91, 3) := by decide +kernel
theorem dX10_checkpoint_17 : decode cX10_checkpoint 17 = .ok (.dup, 1) := by decide +kernel
theorem dX10_checkpoint_18 : decode cX10_checkpoint 18 = .ok (.invokespecial 93, 3) := by decide +kernel
theorem dX10_checkpoint_21 : decode cX10_checkpoint 21 = .ok (.athrow, 1) := by decide +kernel
theorem dX10_checkpoint_22 : decode cX10_checkpoint 22 = .ok (.aload_n 0, 1) := by decide +kernel
theorem dX10_checkpoint_23 : decode cX10_checkpoint 23 = .ok (.getfield 12, 3) := by decide +kernel
theorem dX10_checkpoint_26 : decode cX10_checkpoint 26 = .ok (.invokevirtual 148, 3) := by decide +kernel
theorem dX10_checkpoint_29 : decode cX10_checkpoint 29 = .ok (.ireturn, 1) := by decide +kernel
set_option maxRecDepth 20000 in
theorem ggX10_crash_X10_refuseUnlessStarted : GoodIn wsX10_crash wsX10_refuseUnlessStarted := goodIn_ca (goodIn_r _ [7, 8, 9, 10, 113, 114, 115, 116, 117] (by decide +kernel) (by decide +kernel)) (goodIn_sub (fun _ h => List.mem_cons_of_mem _ (List.mem_append_right _ h)) (by decide +kernel))
set_option maxRecDepth 20000 in
theorem gX10_crash_X10_refuseUnlessStarted : GoodIn wsX10_crash (wsV RX10 130 RX10 yX10_refuseUnlessStarted wsX10_refuseUnlessStarted) := goodIn_app (goodIn_of _ (by decide +kernel)) ggX10_crash_X10_refuseUnlessStarted
set_option maxRecDepth 20000 in
theorem ggX10_crash_X2_goBack : GoodIn wsX10_crash wsX2_goBack := goodIn_r _ [15, 16, 17, 18, 19, 20, 21, 22, 23, 24, 25, 26, 27, 28, 29, 30, 31, 32, 33, 34, 35, 36, 37, 38, 39, 40, 41, 42, 43, 44, 45, 46, 47, 48, 49, 50, 51, 52, 53, 54, 55, 56, 57, 58, 59, 60, 61, 62, 63, 64, 65, 66, 67, 68, 69, 70, 71, 72, 73, 74, 75, 76, 77, 78, 79, 80, 81, 82, 83, 84, 85, 86, 87, 88, 89, 90, 91, 92, 93, 94, 95, 96, 97, 98, 99, 100, 101, 102, 103, 104, 105, 106, 107, 108, 109, 110, 111, 112, 118, 119, 120, 121, 122, 123, 124, 125, 126, 127, 128, 129, 130, 131, 132, 133, 134, 135, 136, 137, 138, 139, 140, 141, 142, 143, 144, 145, 146, 147, 148, 149, 150, 151, 152, 153, 154, 155, 156, 157, 158, 159, 160] (by decide +kernel) (by decide +kernel)
set_option maxRecDepth 20000 in
theorem gX10_crash_X2_goBack : GoodIn wsX10_crash (wsV RX10 154 RX2 yX2_goBack wsX2_goBack) := goodIn_app (goodIn_of _ (by decide +kernel)) ggX10_crash_X2_goBack
theorem dX10_crash_0 : decode cX10_crash 0 = .ok (.aload_n 0, 1) := by decide +kernel
theorem dX10_crash_1 : decode cX10_crash 1 = .ok (.invokevirtual 130, 3) := by decide +kernel
theorem dX10_crash_4 : decode cX10_crash 4 = .ok (.aload_n 0, 1) := by decide +kernel
theorem dX10_crash_5 : decode cX10_crash 5 = .ok (.dup, 1) := by decide +kernel
theorem dX10_crash_6 : decode cX10_crash 6 = .ok (.getfield 151, 3) := by decide +kernel
theorem dX10_crash_9 : decode cX10_crash 9 = .ok (.iconst 1, 1) := by decide +kernel
theorem dX10_crash_10 : decode cX10_crash 10 = .ok (.iadd, 1) := by decide +kernel
theorem dX10_crash_11 : decode cX10_crash 11 = .ok (.putfield 151, 3) := by decide +kernel
theorem dX10_crash_14 : decode cX10_crash 14 = .ok (.aload_n 0, 1) := by decide +kernel
theorem dX10_crash_15 : decode cX10_crash 15 = .ok (.getfield 12, 3) := by decide +kernel
theorem dX10_crash_18 : decode cX10_crash 18 = .ok (.invokevirtual 154, 3) := by decide +kernel
theorem dX10_crash_21 : decode cX10_crash 21 = .ok (.ireturn, 1) := by decide +kernel
set_option maxRecDepth 20000 in
theorem ggX10_stages_X2_size : GoodIn wsX10_stages wsX2_size := goodIn_r _ [6, 7, 8, 9, 10, 11, 12, 13, 19, 20, 21, 22, 23, 24, 25, 26, 27, 28, 29] (by decide +kernel) (by decide +kernel)
set_option maxRecDepth 20000 in
theorem gX10_stages_X2_size : GoodIn wsX10_stages (wsV RX10 88 RX2 yX2_size wsX2_size) := goodIn_app (goodIn_of _ (by decide +kernel)) ggX10_stages_X2_size
theorem dX10_stages_0 : decode cX10_stages 0 = .ok (.aload_n 0, 1) := by decide +kernel
theorem dX10_stages_1 : decode cX10_stages 1 = .ok (.getfield 12, 3) := by decide +kernel
theorem dX10_stages_4 : decode cX10_stages 4 = .ok (.invokevirtual 88, 3) := by decide +kernel
theorem dX10_stages_7 : decode cX10_stages 7 = .ok (.ireturn, 1) := by decide +kernel
theorem dX10_isStarted_0 : decode cX10_isStarted 0 = .ok (.aload_n 0, 1) := by decide +kernel
theorem dX10_isStarted_1 : decode cX10_isStarted 1 = .ok (.getfield 84, 3) := by decide +kernel
theorem dX10_isStarted_4 : decode cX10_isStarted 4 = .ok (.ireturn, 1) := by decide +kernel
set_option maxRecDepth 20000 in
theorem ggX10_sortOf_X10_stageOf : GoodIn wsX10_sortOf wsX10_stageOf := goodIn_ca (goodIn_r _ [5, 6, 7, 8, 9, 10, 11, 12, 13, 14, 15, 16, 17, 18, 19, 20, 21, 22, 23, 24, 25, 26, 27, 28, 29, 30, 31, 32, 33, 34, 35, 36, 37, 38, 66, 67, 68, 69, 70, 71, 72, 73, 74, 75, 76, 77, 78, 79, 80, 81] (by decide +kernel) (by decide +kernel)) (goodIn_sub (fun _ h => List.mem_cons_of_mem _ (List.mem_append_right _ h)) (by decide +kernel))
set_option maxRecDepth 20000 in
theorem gX10_sortOf_X10_stageOf : GoodIn wsX10_sortOf (wsV RX10 44 RX10 yX10_stageOf wsX10_stageOf) := goodIn_app (goodIn_of _ (by decide +kernel)) ggX10_sortOf_X10_stageOf
theorem dX10_sortOf_0 : decode cX10_sortOf 0 = .ok (.aload_n 0, 1) := by decide +kernel
theorem dX10_sortOf_1 : decode cX10_sortOf 1 = .ok (.iload_n 1, 1) := by decide +kernel
theorem dX10_sortOf_2 : decode cX10_sortOf 2 = .ok (.invokevirtual 44, 3) := by decide +kernel
theorem dX10_sortOf_5 : decode cX10_sortOf 5 = .ok (.getfield 48, 3) := by decide +kernel
theorem dX10_sortOf_8 : decode cX10_sortOf 8 = .ok (.getfield 54, 3) := by decide +kernel
theorem dX10_sortOf_11 : decode cX10_sortOf 11 = .ok (.ireturn, 1) := by decide +kernel
set_option maxRecDepth 20000 in
theorem ggX10_markOf_X10_stageOf : GoodIn wsX10_markOf wsX10_stageOf := goodIn_ca (goodIn_r _ [5, 6, 7, 8, 9, 10, 11, 12, 13, 14, 15, 16, 17, 18, 19, 20, 21, 22, 23, 24, 25, 26, 27, 28, 29, 30, 31, 32, 33, 34, 35, 36, 37, 38, 62, 63, 64, 65, 66, 67, 68, 69, 70, 71, 72, 73, 74, 75, 76, 77] (by decide +kernel) (by decide +kernel)) (goodIn_sub (fun _ h => List.mem_cons_of_mem _ (List.mem_append_right _ h)) (by decide +kernel))
set_option maxRecDepth 20000 in
theorem gX10_markOf_X10_stageOf : GoodIn wsX10_markOf (wsV RX10 44 RX10 yX10_stageOf wsX10_stageOf) := goodIn_app (goodIn_of _ (by decide +kernel)) ggX10_markOf_X10_stageOf
theorem dX10_markOf_0 : decode cX10_markOf 0 = .ok (.aload_n 0, 1) := by decide +kernel
theorem dX10_markOf_1 : decode cX10_markOf 1 = .ok (.iload_n 1, 1) := by decide +kernel
theorem dX10_markOf_2 : decode cX10_markOf 2 = .ok (.invokevirtual 44, 3) := by decide +kernel
theorem dX10_markOf_5 : decode cX10_markOf 5 = .ok (.getfield 157, 3) := by decide +kernel
theorem dX10_markOf_8 : decode cX10_markOf 8 = .ok (.getfield 161, 3) := by decide +kernel
theorem dX10_markOf_11 : decode cX10_markOf 11 = .ok (.ireturn, 1) := by decide +kernel
set_option maxRecDepth 20000 in
theorem ggX10_taken_X10_stageOf : GoodIn wsX10_taken wsX10_stageOf := goodIn_ca (goodIn_r _ [5, 6, 7, 8, 9, 10, 11, 12, 13, 14, 15, 16, 17, 18, 19, 20, 21, 22, 23, 24, 25, 26, 27, 28, 29, 30, 31, 32, 33, 34, 35, 36, 37, 38, 62, 63, 64, 65, 66, 67, 68, 69, 70, 71, 72, 73, 74, 75, 76, 77] (by decide +kernel) (by decide +kernel)) (goodIn_sub (fun _ h => List.mem_cons_of_mem _ (List.mem_append_right _ h)) (by decide +kernel))
set_option maxRecDepth 20000 in
theorem gX10_taken_X10_stageOf : GoodIn wsX10_taken (wsV RX10 44 RX10 yX10_stageOf wsX10_stageOf) := goodIn_app (goodIn_of _ (by decide +kernel)) ggX10_taken_X10_stageOf
theorem dX10_taken_0 : decode cX10_taken 0 = .ok (.aload_n 0, 1) := by decide +kernel
theorem dX10_taken_1 : decode cX10_taken 1 = .ok (.iload_n 1, 1) := by decide +kernel
theorem dX10_taken_2 : decode cX10_taken 2 = .ok (.invokevirtual 44, 3) := by decide +kernel
theorem dX10_taken_5 : decode cX10_taken 5 = .ok (.getfield 157, 3) := by decide +kernel
theorem dX10_taken_8 : decode cX10_taken 8 = .ok (.getfield 166, 3) := by decide +kernel
theorem dX10_taken_11 : decode cX10_taken 11 = .ok (.ireturn, 1) := by decide +kernel
set_option maxRecDepth 20000 in
theorem ggX10_emitted_X10_stageOf : GoodIn wsX10_emitted wsX10_stageOf := goodIn_ca (goodIn_r _ [5, 6, 7, 8, 9, 10, 11, 12, 13, 14, 15, 16, 17, 18, 19, 20, 21, 22, 23, 24, 25, 26, 27, 28, 29, 30, 31, 32, 33, 34, 35, 36, 37, 38, 62, 63, 64, 65, 66, 67, 68, 69, 70, 71, 72, 73, 74, 75, 76, 77] (by decide +kernel) (by decide +kernel)) (goodIn_sub (fun _ h => List.mem_cons_of_mem _ (List.mem_append_right _ h)) (by decide +kernel))
set_option maxRecDepth 20000 in
theorem gX10_emitted_X10_stageOf : GoodIn wsX10_emitted (wsV RX10 44 RX10 yX10_stageOf wsX10_stageOf) := goodIn_app (goodIn_of _ (by decide +kernel)) ggX10_emitted_X10_stageOf
theorem dX10_emitted_0 : decode cX10_emitted 0 = .ok (.aload_n 0, 1) := by decide +kernel
theorem dX10_emitted_1 : decode cX10_emitted 1 = .ok (.iload_n 1, 1) := by decide +kernel
theorem dX10_emitted_2 : decode cX10_emitted 2 = .ok (.invokevirtual 44, 3) := by decide +kernel
theorem dX10_emitted_5 : decode cX10_emitted 5 = .ok (.getfield 157, 3) := by decide +kernel
theorem dX10_emitted_8 : decode cX10_emitted 8 = .ok (.getfield 169, 3) := by decide +kernel
theorem dX10_emitted_11 : decode cX10_emitted 11 = .ok (.ireturn, 1) := by decide +kernel
set_option maxRecDepth 20000 in
theorem ggX10_late_X10_stageOf : GoodIn wsX10_late wsX10_stageOf := goodIn_ca (goodIn_r _ [5, 6, 7, 8, 9, 10, 11, 12, 13, 14, 15, 16, 17, 18, 19, 20, 21, 22, 23, 24, 25, 26, 27, 28, 29, 30, 31, 32, 33, 34, 35, 36, 37, 38, 62, 63, 64, 65, 66, 67, 68, 69, 70, 71, 72, 73, 74, 75, 76, 77] (by decide +kernel) (by decide +kernel)) (goodIn_sub (fun _ h => List.mem_cons_of_mem _ (List.mem_append_right _ h)) (by decide +kernel))
set_option maxRecDepth 20000 in
theorem gX10_late_X10_stageOf : GoodIn wsX10_late (wsV RX10 44 RX10 yX10_stageOf wsX10_stageOf) := goodIn_app (goodIn_of _ (by decide +kernel)) ggX10_late_X10_stageOf
theorem dX10_late_0 : decode cX10_late 0 = .ok (.aload_n 0, 1) := by decide +kernel
theorem dX10_late_1 : decode cX10_late 1 = .ok (.iload_n 1, 1) := by decide +kernel
theorem dX10_late_2 : decode cX10_late 2 = .ok (.invokevirtual 44, 3) := by decide +kernel
theorem dX10_late_5 : decode cX10_late 5 = .ok (.getfield 157, 3) := by decide +kernel
theorem dX10_late_8 : decode cX10_late 8 = .ok (.getfield 172, 3) := by decide +kernel
theorem dX10_late_11 : decode cX10_late 11 = .ok (.ireturn, 1) := by decide +kernel
set_option maxRecDepth 20000 in
theorem ggX10_kept_X10_stageOf : GoodIn wsX10_kept wsX10_stageOf := goodIn_ca (goodIn_r _ [5, 6, 7, 8, 9, 10, 11, 12, 13, 14, 15, 16, 17, 18, 19, 20, 21, 22, 23, 24, 25, 26, 27, 28, 29, 30, 31, 32, 33, 34, 35, 36, 37, 38, 95, 96, 97, 98, 99, 100, 101, 102, 103, 104, 105, 106, 107, 108, 109, 110] (by decide +kernel) (by decide +kernel)) (goodIn_sub (fun _ h => List.mem_cons_of_mem _ (List.mem_append_right _ h)) (by decide +kernel))
set_option maxRecDepth 20000 in
theorem gX10_kept_X10_stageOf : GoodIn wsX10_kept (wsV RX10 44 RX10 yX10_stageOf wsX10_stageOf) := goodIn_app (goodIn_of _ (by decide +kernel)) ggX10_kept_X10_stageOf
set_option maxRecDepth 20000 in
theorem ggX10_kept_X8_unread : GoodIn wsX10_kept wsX8_unread := goodIn_r _ [43, 44, 45, 46, 47, 48, 49, 50, 51, 68, 69, 70, 71, 72, 73, 74, 75, 76, 77, 78, 79, 111, 112, 113, 114, 115, 116, 117, 118, 119, 120, 121, 122, 123] (by decide +kernel) (by decide +kernel)
set_option maxRecDepth 20000 in
theorem gX10_kept_X8_unread : GoodIn wsX10_kept (wsV RX10 127 RX8 yX8_unread wsX8_unread) := goodIn_app (goodIn_of _ (by decide +kernel)) ggX10_kept_X8_unread
set_option maxRecDepth 20000 in
theorem ggX10_kept_X9_keptCount : GoodIn wsX10_kept wsX9_keptCount := goodIn_r _ [56, 57, 58, 59, 60, 61, 62, 63, 64, 65, 66, 47, 48, 49, 50, 51, 67, 111, 112, 113, 114, 115, 116, 117, 118, 119, 120, 121, 124, 125, 122, 123] (by decide +kernel) (by decide +kernel)
set_option maxRecDepth 20000 in
theorem gX10_kept_X9_keptCount : GoodIn wsX10_kept (wsV RX10 175 RX9 yX9_keptCount wsX9_keptCount) := goodIn_app (goodIn_of _ (by decide +kernel)) ggX10_kept_X9_keptCount
theorem dX10_kept_0 : decode cX10_kept 0 = .ok (.aload_n 0, 1) := by decide +kernel
theorem dX10_kept_1 : decode cX10_kept 1 = .ok (.iload_n 1, 1) := by decide +kernel
theorem dX10_kept_2 : decode cX10_kept 2 = .ok (.invokevirtual 44, 3) := by decide +kernel
theorem dX10_kept_5 : decode cX10_kept 5 = .ok (.astore_n 2, 1) := by decide +kernel
theorem dX10_kept_6 : decode cX10_kept 6 = .ok (.aload_n 2, 1) := by decide +kernel
theorem dX10_kept_7 : decode cX10_kept 7 = .ok (.getfield 48, 3) := by decide +kernel
theorem dX10_kept_10 : decode cX10_kept 10 = .ok (.getfield 54, 3) := by decide +kernel
theorem dX10_kept_13 : decode cX10_kept 13 = .ok (.ifCond .ne 10, 3) := by decide +kernel
theorem dX10_kept_16 : decode cX10_kept 16 = .ok (.aload_n 2, 1) := by decide +kernel
theorem dX10_kept_17 : decode cX10_kept 17 = .ok (.invokevirtual 127, 3) := by decide +kernel
theorem dX10_kept_20 : decode cX10_kept 20 = .ok (.goto 10, 3) := by decide +kernel
theorem dX10_kept_23 : decode cX10_kept 23 = .ok (.aload_n 2, 1) := by decide +kernel
theorem dX10_kept_24 : decode cX10_kept 24 = .ok (.getfield 157, 3) := by decide +kernel
theorem dX10_kept_27 : decode cX10_kept 27 = .ok (.invokevirtual 175, 3) := by decide +kernel
theorem dX10_kept_30 : decode cX10_kept 30 = .ok (.ireturn, 1) := by decide +kernel
set_option maxRecDepth 20000 in
theorem ggX10_isReady_X10_stageOf : GoodIn wsX10_isReady wsX10_stageOf := goodIn_ca (goodIn_r _ [6, 7, 8, 1, 9, 10, 11, 12, 13, 14, 15, 16, 17, 18, 19, 20, 21, 22, 23, 24, 25, 26, 27, 28, 29, 30, 31, 32, 33, 34, 35, 36, 37, 38, 95, 96, 97, 98, 99, 100, 101, 102, 103, 104, 105, 106, 107, 108, 109, 110] (by decide +kernel) (by decide +kernel)) (goodIn_sub (fun _ h => List.mem_cons_of_mem _ (List.mem_append_right _ h)) (by decide +kernel))
set_option maxRecDepth 20000 in
theorem gX10_isReady_X10_stageOf : GoodIn wsX10_isReady (wsV RX10 44 RX10 yX10_stageOf wsX10_stageOf) := goodIn_app (goodIn_of _ (by decide +kernel)) ggX10_isReady_X10_stageOf
set_option maxRecDepth 20000 in
theorem ggX10_isReady_X8_canWork : GoodIn wsX10_isReady wsX8_canWork := goodIn_r _ [43, 44, 45, 46, 47, 48, 49, 50, 51, 52, 53, 54, 55, 56, 57, 58, 59, 60, 61, 62, 63, 64, 65, 66, 67, 68, 69, 70, 71, 72, 73, 74, 17, 18, 19, 20, 21, 75, 23, 24, 25, 26, 27, 28, 29, 30, 31, 32, 33, 34, 35, 36, 37, 38, 76, 77, 78, 42, 79, 80, 81, 82, 83, 84, 85, 86, 87, 88, 89, 90, 91, 92, 93, 94, 111, 112, 113, 114, 115, 116, 117, 118, 119, 120, 121, 122, 123, 124, 125, 126, 127, 128, 129, 130, 131, 132, 133, 134, 135, 136, 137, 138, 139, 140, 141, 142, 143, 144, 145, 146, 147, 148, 149, 150, 151, 152, 153, 154, 155, 108, 109, 110] (by decide +kernel) (by decide +kernel)
set_option maxRecDepth 20000 in
theorem gX10_isReady_X8_canWork : GoodIn wsX10_isReady (wsV RX10 142 RX8 yX8_canWork wsX8_canWork) := goodIn_app (goodIn_of _ (by decide +kernel)) ggX10_isReady_X8_canWork
theorem dX10_isReady_0 : decode cX10_isReady 0 = .ok (.aload_n 0, 1) := by decide +kernel
theorem dX10_isReady_1 : decode cX10_isReady 1 = .ok (.iload_n 1, 1) := by decide +kernel
theorem dX10_isReady_2 : decode cX10_isReady 2 = .ok (.invokevirtual 44, 3) := by decide +kernel
theorem dX10_isReady_5 : decode cX10_isReady 5 = .ok (.aload_n 0, 1) := by decide +kernel
theorem dX10_isReady_6 : decode cX10_isReady 6 = .ok (.getfield 12, 3) := by decide +kernel
theorem dX10_isReady_9 : decode cX10_isReady 9 = .ok (.getfield 94, 3) := by decide +kernel
theorem dX10_isReady_12 : decode cX10_isReady 12 = .ok (.invokevirtual 142, 3) := by decide +kernel
theorem dX10_isReady_15 : decode cX10_isReady 15 = .ok (.ireturn, 1) := by decide +kernel
set_option maxRecDepth 20000 in
theorem ggX10_hasRoom_X10_stageOf : GoodIn wsX10_hasRoom wsX10_stageOf := goodIn_ca (goodIn_r _ [6, 7, 8, 1, 9, 10, 11, 12, 13, 14, 15, 16, 17, 18, 19, 20, 21, 22, 23, 24, 25, 26, 27, 28, 29, 30, 31, 32, 33, 34, 35, 36, 37, 38, 75, 76, 77, 78, 79, 80, 81, 82, 83, 84, 85, 86, 87, 88, 89, 90] (by decide +kernel) (by decide +kernel)) (goodIn_sub (fun _ h => List.mem_cons_of_mem _ (List.mem_append_right _ h)) (by decide +kernel))
set_option maxRecDepth 20000 in
theorem gX10_hasRoom_X10_stageOf : GoodIn wsX10_hasRoom (wsV RX10 44 RX10 yX10_stageOf wsX10_stageOf) := goodIn_app (goodIn_of _ (by decide +kernel)) ggX10_hasRoom_X10_stageOf
set_option maxRecDepth 20000 in
theorem ggX10_hasRoom_X4_isBelow : GoodIn wsX10_hasRoom wsX4_isBelow := goodIn_r _ [43, 44, 45, 46, 47, 48, 49, 50, 51, 52, 53, 42, 54, 55, 56, 57, 58, 59, 60, 61, 17, 18, 19, 20, 21, 62, 23, 24, 25, 26, 27, 28, 29, 30, 31, 32, 33, 34, 35, 36, 37, 38, 91, 92, 93, 94, 95, 96, 97, 88, 89, 90] (by decide +kernel) (by decide +kernel)
set_option maxRecDepth 20000 in
theorem gX10_hasRoom_X4_isBelow : GoodIn wsX10_hasRoom (wsV RX10 182 RX4 yX4_isBelow wsX4_isBelow) := goodIn_app (goodIn_of _ (by decide +kernel)) ggX10_hasRoom_X4_isBelow
theorem dX10_hasRoom_0 : decode cX10_hasRoom 0 = .ok (.aload_n 0, 1) := by decide +kernel
theorem dX10_hasRoom_1 : decode cX10_hasRoom 1 = .ok (.iload_n 1, 1) := by decide +kernel
theorem dX10_hasRoom_2 : decode cX10_hasRoom 2 = .ok (.invokevirtual 44, 3) := by decide +kernel
theorem dX10_hasRoom_5 : decode cX10_hasRoom 5 = .ok (.getfield 178, 3) := by decide +kernel
theorem dX10_hasRoom_8 : decode cX10_hasRoom 8 = .ok (.aload_n 0, 1) := by decide +kernel
theorem dX10_hasRoom_9 : decode cX10_hasRoom 9 = .ok (.getfield 12, 3) := by decide +kernel
theorem dX10_hasRoom_12 : decode cX10_hasRoom 12 = .ok (.getfield 94, 3) := by decide +kernel
theorem dX10_hasRoom_15 : decode cX10_hasRoom 15 = .ok (.invokevirtual 182, 3) := by decide +kernel
theorem dX10_hasRoom_18 : decode cX10_hasRoom 18 = .ok (.ireturn, 1) := by decide +kernel
set_option maxRecDepth 20000 in
theorem ggX10_queued_X10_stageOf : GoodIn wsX10_queued wsX10_stageOf := goodIn_ca (goodIn_r _ [5, 6, 7, 8, 9, 10, 11, 12, 13, 14, 15, 16, 17, 18, 19, 20, 21, 22, 23, 24, 25, 26, 27, 28, 29, 30, 31, 32, 33, 34, 35, 36, 37, 38, 59, 60, 61, 62, 63, 64, 65, 66, 67, 68, 69, 70, 71, 72, 73, 74] (by decide +kernel) (by decide +kernel)) (goodIn_sub (fun _ h => List.mem_cons_of_mem _ (List.mem_append_right _ h)) (by decide +kernel))
set_option maxRecDepth 20000 in
theorem gX10_queued_X10_stageOf : GoodIn wsX10_queued (wsV RX10 44 RX10 yX10_stageOf wsX10_stageOf) := goodIn_app (goodIn_of _ (by decide +kernel)) ggX10_queued_X10_stageOf
set_option maxRecDepth 20000 in
theorem ggX10_queued_X8_channel : GoodIn wsX10_queued wsX8_channel := goodIn_r _ [43, 44, 45, 75, 76, 77, 78, 79, 80, 81, 82, 83, 84, 85, 86] (by decide +kernel) (by decide +kernel)
set_option maxRecDepth 20000 in
theorem gX10_queued_X8_channel : GoodIn wsX10_queued (wsV RX10 187 RX8 yX8_channel wsX8_channel) := goodIn_app (goodIn_of _ (by decide +kernel)) ggX10_queued_X8_channel
set_option maxRecDepth 20000 in
theorem ggX10_queued_X1_length : GoodIn wsX10_queued wsX1_length := goodIn_r _ [50, 51, 52, 53, 54, 55, 56, 57, 58, 87, 88, 89, 90, 91] (by decide +kernel) (by decide +kernel)
set_option maxRecDepth 20000 in
theorem gX10_queued_X1_length : GoodIn wsX10_queued (wsV RX10 191 RX1 yX1_length wsX1_length) := goodIn_app (goodIn_of _ (by decide +kernel)) ggX10_queued_X1_length
theorem dX10_queued_0 : decode cX10_queued 0 = .ok (.aload_n 0, 1) := by decide +kernel
theorem dX10_queued_1 : decode cX10_queued 1 = .ok (.iload_n 1, 1) := by decide +kernel
theorem dX10_queued_2 : decode cX10_queued 2 = .ok (.invokevirtual 44, 3) := by decide +kernel
theorem dX10_queued_5 : decode cX10_queued 5 = .ok (.iload_n 2, 1) := by decide +kernel
theorem dX10_queued_6 : decode cX10_queued 6 = .ok (.invokevirtual 187, 3) := by decide +kernel
theorem dX10_queued_9 : decode cX10_queued 9 = .ok (.astore_n 3, 1) := by decide +kernel
theorem dX10_queued_10 : decode cX10_queued 10 = .ok (.aload_n 3, 1) := by decide +kernel
theorem dX10_queued_11 : decode cX10_queued 11 = .ok (.ifnonnull 7, 3) := by decide +kernel
theorem dX10_queued_14 : decode cX10_queued 14 = .ok (.iconst (-1), 1) := by decide +kernel
theorem dX10_queued_15 : decode cX10_queued 15 = .ok (.goto 7, 3) := by decide +kernel
theorem dX10_queued_18 : decode cX10_queued 18 = .ok (.aload_n 3, 1) := by decide +kernel
theorem dX10_queued_19 : decode cX10_queued 19 = .ok (.invokevirtual 191, 3) := by decide +kernel
theorem dX10_queued_22 : decode cX10_queued 22 = .ok (.ireturn, 1) := by decide +kernel
set_option maxRecDepth 20000 in
theorem ggX10_isBlocked_X10_stageOf : GoodIn wsX10_isBlocked wsX10_stageOf := goodIn_ca (goodIn_r _ [5, 6, 7, 8, 9, 10, 11, 12, 13, 14, 15, 16, 17, 18, 19, 20, 21, 22, 23, 24, 25, 26, 27, 28, 29, 30, 31, 32, 33, 34, 35, 36, 37, 38, 49, 50, 51, 52, 53, 54, 55, 56, 57, 58, 59, 60, 61, 62, 63, 64] (by decide +kernel) (by decide +kernel)) (goodIn_sub (fun _ h => List.mem_cons_of_mem _ (List.mem_append_right _ h)) (by decide +kernel))
set_option maxRecDepth 20000 in
theorem gX10_isBlocked_X10_stageOf : GoodIn wsX10_isBlocked (wsV RX10 44 RX10 yX10_stageOf wsX10_stageOf) := goodIn_app (goodIn_of _ (by decide +kernel)) ggX10_isBlocked_X10_stageOf
set_option maxRecDepth 20000 in
theorem ggX10_isBlocked_X8_channel : GoodIn wsX10_isBlocked wsX8_channel := goodIn_r _ [43, 44, 45, 65, 66, 67, 68, 69, 70, 71, 72, 73, 74, 75, 76] (by decide +kernel) (by decide +kernel)
set_option maxRecDepth 20000 in
theorem gX10_isBlocked_X8_channel : GoodIn wsX10_isBlocked (wsV RX10 187 RX8 yX8_channel wsX8_channel) := goodIn_app (goodIn_of _ (by decide +kernel)) ggX10_isBlocked_X8_channel
theorem dX10_isBlocked_0 : decode cX10_isBlocked 0 = .ok (.aload_n 0, 1) := by decide +kernel
theorem dX10_isBlocked_1 : decode cX10_isBlocked 1 = .ok (.iload_n 1, 1) := by decide +kernel
theorem dX10_isBlocked_2 : decode cX10_isBlocked 2 = .ok (.invokevirtual 44, 3) := by decide +kernel
theorem dX10_isBlocked_5 : decode cX10_isBlocked 5 = .ok (.iload_n 2, 1) := by decide +kernel
theorem dX10_isBlocked_6 : decode cX10_isBlocked 6 = .ok (.invokevirtual 187, 3) := by decide +kernel
theorem dX10_isBlocked_9 : decode cX10_isBlocked 9 = .ok (.astore_n 3, 1) := by decide +kernel
theorem dX10_isBlocked_10 : decode cX10_isBlocked 10 = .ok (.aload_n 3, 1) := by decide +kernel
theorem dX10_isBlocked_11 : decode cX10_isBlocked 11 = .ok (.ifnull 14, 3) := by decide +kernel
theorem dX10_isBlocked_14 : decode cX10_isBlocked 14 = .ok (.aload_n 3, 1) := by decide +kernel
theorem dX10_isBlocked_15 : decode cX10_isBlocked 15 = .ok (.getfield 194, 3) := by decide +kernel
theorem dX10_isBlocked_18 : decode cX10_isBlocked 18 = .ok (.ifCond .eq 7, 3) := by decide +kernel
theorem dX10_isBlocked_21 : decode cX10_isBlocked 21 = .ok (.iconst 1, 1) := by decide +kernel
theorem dX10_isBlocked_22 : decode cX10_isBlocked 22 = .ok (.goto 4, 3) := by decide +kernel
theorem dX10_isBlocked_25 : decode cX10_isBlocked 25 = .ok (.iconst 0, 1) := by decide +kernel
theorem dX10_isBlocked_26 : decode cX10_isBlocked 26 = .ok (.ireturn, 1) := by decide +kernel
set_option maxRecDepth 20000 in
theorem ggX10_depthOf_X10_stageOf : GoodIn wsX10_depthOf wsX10_stageOf := goodIn_ca (goodIn_r _ [5, 6, 7, 8, 9, 10, 11, 12, 13, 14, 15, 16, 17, 18, 19, 20, 21, 22, 23, 24, 25, 26, 27, 28, 29, 30, 31, 32, 33, 34, 35, 36, 37, 38, 66, 67, 68, 69, 70, 71, 72, 73, 74, 75, 76, 77, 78, 79, 80, 81] (by decide +kernel) (by decide +kernel)) (goodIn_sub (fun _ h => List.mem_cons_of_mem _ (List.mem_append_right _ h)) (by decide +kernel))
set_option maxRecDepth 20000 in
theorem gX10_depthOf_X10_stageOf : GoodIn wsX10_depthOf (wsV RX10 44 RX10 yX10_stageOf wsX10_stageOf) := goodIn_app (goodIn_of _ (by decide +kernel)) ggX10_depthOf_X10_stageOf
theorem dX10_depthOf_0 : decode cX10_depthOf 0 = .ok (.aload_n 0, 1) := by decide +kernel
theorem dX10_depthOf_1 : decode cX10_depthOf 1 = .ok (.iload_n 1, 1) := by decide +kernel
theorem dX10_depthOf_2 : decode cX10_depthOf 2 = .ok (.invokevirtual 44, 3) := by decide +kernel
theorem dX10_depthOf_5 : decode cX10_depthOf 5 = .ok (.getfield 48, 3) := by decide +kernel
theorem dX10_depthOf_8 : decode cX10_depthOf 8 = .ok (.getfield 200, 3) := by decide +kernel
theorem dX10_depthOf_11 : decode cX10_depthOf 11 = .ok (.ireturn, 1) := by decide +kernel
set_option maxRecDepth 20000 in
theorem ggX10_nextEnd_X10_spanStageOf : GoodIn wsX10_nextEnd wsX10_spanStageOf := goodIn_ca (goodIn_ca (goodIn_r _ [5, 6, 7, 8, 4, 9, 10, 11, 12, 13, 14, 15, 16, 17, 18, 19, 20, 21, 22, 23, 24, 25, 26, 27, 28, 29, 30, 31, 32, 33, 34, 35, 36, 37, 38, 39, 40, 41, 42, 43, 44, 45, 46, 47, 77, 78, 79, 80, 81, 82, 83, 84, 85, 86, 87, 88, 100, 101, 102, 103, 104, 105, 106, 107, 108, 109, 110, 111, 112, 113, 114, 115, 116, 117, 118, 119, 120, 121, 122, 123, 124, 125, 126, 127, 128, 129, 130] (by decide +kernel) (by decide +kernel)) (goodIn_sub (fun _ h => List.mem_cons_of_mem _ (List.mem_append_left _ (List.mem_append_right _ h))) (by decide +kernel))) (goodIn_sub (fun _ h => List.mem_cons_of_mem _ (List.mem_append_right _ h)) (by decide +kernel))
set_option maxRecDepth 20000 in
theorem gX10_nextEnd_X10_spanStageOf : GoodIn wsX10_nextEnd (wsV RX10 203 RX10 yX10_spanStageOf wsX10_spanStageOf) := goodIn_app (goodIn_of _ (by decide +kernel)) ggX10_nextEnd_X10_spanStageOf
set_option maxRecDepth 20000 in
theorem ggX10_nextEnd_X7_firstEndingAbove : GoodIn wsX10_nextEnd wsX7_firstEndingAbove := goodIn_r _ [52, 53, 54, 55, 51, 56, 57, 58, 59, 60, 61, 62, 63, 64, 65, 66, 67, 68, 131, 132, 133, 134] (by decide +kernel) (by decide +kernel)
set_option maxRecDepth 20000 in
theorem gX10_nextEnd_X7_firstEndingAbove : GoodIn wsX10_nextEnd (wsV RX10 226 RX7 yX7_firstEndingAbove wsX7_firstEndingAbove) := goodIn_app (goodIn_of _ (by decide +kernel)) ggX10_nextEnd_X7_firstEndingAbove
set_option maxRecDepth 20000 in
theorem ggX10_nextEnd_X7_length : GoodIn wsX10_nextEnd wsX7_length := goodIn_r _ [72, 57, 58, 59, 60, 61, 62, 63, 131, 132, 133, 134] (by decide +kernel) (by decide +kernel)
set_option maxRecDepth 20000 in
theorem gX10_nextEnd_X7_length : GoodIn wsX10_nextEnd (wsV RX10 230 RX7 yX7_length wsX7_length) := goodIn_app (goodIn_of _ (by decide +kernel)) ggX10_nextEnd_X7_length
set_option maxRecDepth 20000 in
theorem ggX10_nextEnd_X7_endAt : GoodIn wsX10_nextEnd wsX7_endAt := goodIn_r _ [76, 57, 64, 65, 66, 61, 67, 63, 68, 131, 132, 133, 134] (by decide +kernel) (by decide +kernel)
set_option maxRecDepth 20000 in
theorem gX10_nextEnd_X7_endAt : GoodIn wsX10_nextEnd (wsV RX10 231 RX7 yX7_endAt wsX7_endAt) := goodIn_app (goodIn_of _ (by decide +kernel)) ggX10_nextEnd_X7_endAt
theorem dX10_nextEnd_0 : decode cX10_nextEnd 0 = .ok (.aload_n 0, 1) := by decide +kernel
theorem dX10_nextEnd_1 : decode cX10_nextEnd 1 = .ok (.iload_n 1, 1) := by decide +kernel
theorem dX10_nextEnd_2 : decode cX10_nextEnd 2 = .ok (.invokevirtual 203, 3) := by decide +kernel
theorem dX10_nextEnd_5 : decode cX10_nextEnd 5 = .ok (.astore_n 2, 1) := by decide +kernel
theorem dX10_nextEnd_6 : decode cX10_nextEnd 6 = .ok (.aload_n 2, 1) := by decide +kernel
theorem dX10_nextEnd_7 : decode cX10_nextEnd 7 = .ok (.getfield 157, 3) := by decide +kernel
theorem dX10_nextEnd_10 : decode cX10_nextEnd 10 = .ok (.getfield 206, 3) := by decide +kernel
theorem dX10_nextEnd_13 : decode cX10_nextEnd 13 = .ok (.astore_n 3, 1) := by decide +kernel
theorem dX10_nextEnd_14 : decode cX10_nextEnd 14 = .ok (.aload_n 3, 1) := by decide +kernel
theorem dX10_nextEnd_15 : decode cX10_nextEnd 15 = .ok (.aload_n 2, 1) := by decide +kernel
theorem dX10_nextEnd_16 : decode cX10_nextEnd 16 = .ok (.getfield 157, 3) := by decide +kernel
theorem dX10_nextEnd_19 : decode cX10_nextEnd 19 = .ok (.getfield 161, 3) := by decide +kernel
theorem dX10_nextEnd_22 : decode cX10_nextEnd 22 = .ok (.invokevirtual 226, 3) := by decide +kernel
theorem dX10_nextEnd_25 : decode cX10_nextEnd 25 = .ok (.istore 4, 2) := by decide +kernel
theorem dX10_nextEnd_27 : decode cX10_nextEnd 27 = .ok (.iload 4, 2) := by decide +kernel
theorem dX10_nextEnd_29 : decode cX10_nextEnd 29 = .ok (.aload_n 3, 1) := by decide +kernel
theorem dX10_nextEnd_30 : decode cX10_nextEnd 30 = .ok (.invokevirtual 230, 3) := by decide +kernel
theorem dX10_nextEnd_33 : decode cX10_nextEnd 33 = .ok (.if_icmp .ge 12, 3) := by decide +kernel
theorem dX10_nextEnd_36 : decode cX10_nextEnd 36 = .ok (.aload_n 3, 1) := by decide +kernel
theorem dX10_nextEnd_37 : decode cX10_nextEnd 37 = .ok (.iload 4, 2) := by decide +kernel
theorem dX10_nextEnd_39 : decode cX10_nextEnd 39 = .ok (.invokevirtual 231, 3) := by decide +kernel
theorem dX10_nextEnd_42 : decode cX10_nextEnd 42 = .ok (.goto 4, 3) := by decide +kernel
theorem dX10_nextEnd_45 : decode cX10_nextEnd 45 = .ok (.iconst (-1), 1) := by decide +kernel
theorem dX10_nextEnd_46 : decode cX10_nextEnd 46 = .ok (.ireturn, 1) := by decide +kernel
set_option maxRecDepth 20000 in
theorem ggX10_outputs_X10_sinkOf : GoodIn wsX10_outputs wsX10_sinkOf := goodIn_ca (goodIn_ca (goodIn_r _ [5, 6, 7, 8, 4, 9, 10, 11, 12, 13, 14, 15, 16, 17, 18, 19, 20, 21, 22, 23, 24, 25, 26, 27, 28, 29, 30, 31, 32, 33, 34, 35, 36, 37, 38, 39, 40, 41, 42, 43, 44, 45, 46, 47, 48, 49, 50, 51, 52, 53, 54, 55, 56, 57, 58, 59, 71, 72, 73, 74, 75, 76, 77, 78, 79, 80, 81, 82, 83, 84, 85, 86, 87, 88, 89, 90, 91, 92, 93, 94, 95, 96, 97, 98, 99, 100, 101] (by decide +kernel) (by decide +kernel)) (goodIn_sub (fun _ h => List.mem_cons_of_mem _ (List.mem_append_left _ (List.mem_append_right _ h))) (by decide +kernel))) (goodIn_sub (fun _ h => List.mem_cons_of_mem _ (List.mem_append_right _ h)) (by decide +kernel))
set_option maxRecDepth 20000 in
theorem gX10_outputs_X10_sinkOf : GoodIn wsX10_outputs (wsV RX10 234 RX10 yX10_sinkOf wsX10_sinkOf) := goodIn_app (goodIn_of _ (by decide +kernel)) ggX10_outputs_X10_sinkOf
theorem dX10_outputs_0 : decode cX10_outputs 0 = .ok (.aload_n 0, 1) := by decide +kernel
theorem dX10_outputs_1 : decode cX10_outputs 1 = .ok (.iload_n 1, 1) := by decide +kernel
theorem dX10_outputs_2 : decode cX10_outputs 2 = .ok (.invokevirtual 234, 3) := by decide +kernel
theorem dX10_outputs_5 : decode cX10_outputs 5 = .ok (.getfield 157, 3) := by decide +kernel
theorem dX10_outputs_8 : decode cX10_outputs 8 = .ok (.getfield 237, 3) := by decide +kernel
theorem dX10_outputs_11 : decode cX10_outputs 11 = .ok (.ireturn, 1) := by decide +kernel
set_option maxRecDepth 20000 in
theorem ggX10_committed_X10_sinkOf : GoodIn wsX10_committed wsX10_sinkOf := goodIn_ca (goodIn_ca (goodIn_r _ [5, 6, 7, 8, 4, 9, 10, 11, 12, 13, 14, 15, 16, 17, 18, 19, 20, 21, 22, 23, 24, 25, 26, 27, 28, 29, 30, 31, 32, 33, 34, 35, 36, 37, 38, 39, 40, 41, 42, 43, 44, 45, 46, 47, 48, 49, 50, 51, 52, 53, 54, 55, 56, 57, 58, 59, 71, 72, 73, 74, 75, 76, 77, 78, 79, 80, 81, 82, 83, 84, 85, 86, 87, 88, 89, 90, 91, 92, 93, 94, 95, 96, 97, 98, 99, 100, 101] (by decide +kernel) (by decide +kernel)) (goodIn_sub (fun _ h => List.mem_cons_of_mem _ (List.mem_append_left _ (List.mem_append_right _ h))) (by decide +kernel))) (goodIn_sub (fun _ h => List.mem_cons_of_mem _ (List.mem_append_right _ h)) (by decide +kernel))
set_option maxRecDepth 20000 in
theorem gX10_committed_X10_sinkOf : GoodIn wsX10_committed (wsV RX10 234 RX10 yX10_sinkOf wsX10_sinkOf) := goodIn_app (goodIn_of _ (by decide +kernel)) ggX10_committed_X10_sinkOf
theorem dX10_committed_0 : decode cX10_committed 0 = .ok (.aload_n 0, 1) := by decide +kernel
theorem dX10_committed_1 : decode cX10_committed 1 = .ok (.iload_n 1, 1) := by decide +kernel
theorem dX10_committed_2 : decode cX10_committed 2 = .ok (.invokevirtual 234, 3) := by decide +kernel
theorem dX10_committed_5 : decode cX10_committed 5 = .ok (.getfield 240, 3) := by decide +kernel
theorem dX10_committed_8 : decode cX10_committed 8 = .ok (.getfield 237, 3) := by decide +kernel
theorem dX10_committed_11 : decode cX10_committed 11 = .ok (.ireturn, 1) := by decide +kernel
theorem dX10_complete_0 : decode cX10_complete 0 = .ok (.aload_n 0, 1) := by decide +kernel
theorem dX10_complete_1 : decode cX10_complete 1 = .ok (.getfield 12, 3) := by decide +kernel
theorem dX10_complete_4 : decode cX10_complete 4 = .ok (.getfield 257, 3) := by decide +kernel
theorem dX10_complete_7 : decode cX10_complete 7 = .ok (.ireturn, 1) := by decide +kernel
theorem dX10_begun_0 : decode cX10_begun 0 = .ok (.aload_n 0, 1) := by decide +kernel
theorem dX10_begun_1 : decode cX10_begun 1 = .ok (.getfield 12, 3) := by decide +kernel
theorem dX10_begun_4 : decode cX10_begun 4 = .ok (.getfield 145, 3) := by decide +kernel
theorem dX10_begun_7 : decode cX10_begun 7 = .ok (.ireturn, 1) := by decide +kernel
theorem dX10_crashes_0 : decode cX10_crashes 0 = .ok (.aload_n 0, 1) := by decide +kernel
theorem dX10_crashes_1 : decode cX10_crashes 1 = .ok (.getfield 151, 3) := by decide +kernel
theorem dX10_crashes_4 : decode cX10_crashes 4 = .ok (.ireturn, 1) := by decide +kernel
theorem dX10_worked_0 : decode cX10_worked 0 = .ok (.aload_n 0, 1) := by decide +kernel
theorem dX10_worked_1 : decode cX10_worked 1 = .ok (.getfield 139, 3) := by decide +kernel
theorem dX10_worked_4 : decode cX10_worked 4 = .ok (.ireturn, 1) := by decide +kernel
set_option maxRecDepth 20000 in
theorem ggX10_inFlight_X2_waiting : GoodIn wsX10_inFlight wsX2_waiting := goodIn_r _ [6, 7, 8, 9, 10, 11, 12, 13, 14, 15, 16, 17, 18, 19, 20, 21, 22, 23, 24, 25, 26, 27, 28, 29, 30, 31, 32, 33, 34, 35, 36, 37, 38, 39, 40, 41, 42, 43, 44, 50, 51, 52, 53, 54, 55, 56, 57, 58, 59, 60, 61, 62, 63, 64, 65, 66, 67, 68, 69, 70, 71, 72, 73, 74, 75, 76, 77] (by decide +kernel) (by decide +kernel)
set_option maxRecDepth 20000 in
theorem gX10_inFlight_X2_waiting : GoodIn wsX10_inFlight (wsV RX10 260 RX2 yX2_waiting wsX2_waiting) := goodIn_app (goodIn_of _ (by decide +kernel)) ggX10_inFlight_X2_waiting
theorem dX10_inFlight_0 : decode cX10_inFlight 0 = .ok (.aload_n 0, 1) := by decide +kernel
theorem dX10_inFlight_1 : decode cX10_inFlight 1 = .ok (.getfield 12, 3) := by decide +kernel
theorem dX10_inFlight_4 : decode cX10_inFlight 4 = .ok (.invokevirtual 260, 3) := by decide +kernel
theorem dX10_inFlight_7 : decode cX10_inFlight 7 = .ok (.ireturn, 1) := by decide +kernel
set_option maxRecDepth 20000 in
theorem ggX10_next_X2_nextToWork : GoodIn wsX10_next wsX2_nextToWork := goodIn_r _ [6, 7, 8, 9, 10, 11, 12, 13, 14, 15, 16, 17, 18, 5, 19, 20, 21, 22, 23, 24, 25, 26, 27, 28, 29, 30, 31, 32, 33, 34, 35, 36, 37, 38, 39, 40, 41, 42, 43, 44, 45, 46, 47, 48, 49, 50, 51, 52, 53, 54, 55, 56, 57, 58, 59, 60, 61, 62, 63, 64, 65, 66, 67, 68, 69, 70, 71, 72, 73, 74, 75, 76, 77, 78, 79, 80, 81, 82, 83, 84, 85, 86, 87, 88, 89, 90, 91, 92, 93, 99, 100, 101, 102, 103, 104, 105, 106, 107, 108, 109, 110, 111, 112, 113, 114, 115, 116, 117, 118, 119, 120, 121, 122, 123, 124, 125, 126, 127, 128, 129, 130, 131, 132, 133, 134, 135, 136, 137, 138, 139, 140, 141, 142, 143, 144, 145, 146, 147, 148, 149, 150, 151, 152, 153, 154] (by decide +kernel) (by decide +kernel)
set_option maxRecDepth 20000 in
theorem gX10_next_X2_nextToWork : GoodIn wsX10_next (wsV RX10 133 RX2 yX2_nextToWork wsX2_nextToWork) := goodIn_app (goodIn_of _ (by decide +kernel)) ggX10_next_X2_nextToWork
theorem dX10_next_0 : decode cX10_next 0 = .ok (.aload_n 0, 1) := by decide +kernel
theorem dX10_next_1 : decode cX10_next 1 = .ok (.getfield 12, 3) := by decide +kernel
theorem dX10_next_4 : decode cX10_next 4 = .ok (.invokevirtual 133, 3) := by decide +kernel
theorem dX10_next_7 : decode cX10_next 7 = .ok (.ireturn, 1) := by decide +kernel
set_option maxRecDepth 20000 in
theorem ggX10_meanQueue_X2_channels : GoodIn wsX10_meanQueue wsX2_channels := goodIn_r _ [6, 7, 8, 9, 10, 11, 12, 13, 14, 15, 16, 17, 18, 19, 20, 21, 22, 23, 24, 25, 26, 27, 28, 29, 30, 31, 54, 55, 56, 57, 58, 59, 60, 61, 62, 63, 64, 65, 66, 67, 68, 69, 70, 71, 72, 73, 74, 75, 76, 77, 78] (by decide +kernel) (by decide +kernel)
set_option maxRecDepth 20000 in
theorem gX10_meanQueue_X2_channels : GoodIn wsX10_meanQueue (wsV RX10 263 RX2 yX2_channels wsX2_channels) := goodIn_app (goodIn_of _ (by decide +kernel)) ggX10_meanQueue_X2_channels
set_option maxRecDepth 20000 in
theorem ggX10_meanQueue_X2_waiting : GoodIn wsX10_meanQueue wsX2_waiting := goodIn_r _ [35, 7, 8, 9, 10, 11, 12, 13, 14, 15, 16, 17, 18, 19, 20, 21, 22, 23, 24, 25, 26, 27, 28, 29, 30, 31, 36, 37, 38, 39, 40, 41, 42, 43, 44, 45, 46, 47, 48, 54, 55, 56, 57, 58, 59, 60, 61, 62, 63, 64, 65, 66, 67, 68, 69, 70, 71, 72, 73, 76, 77, 78, 79, 80, 81, 82, 83] (by decide +kernel) (by decide +kernel)
set_option maxRecDepth 20000 in
theorem gX10_meanQueue_X2_waiting : GoodIn wsX10_meanQueue (wsV RX10 260 RX2 yX2_waiting wsX2_waiting) := goodIn_app (goodIn_of _ (by decide +kernel)) ggX10_meanQueue_X2_waiting
theorem dX10_meanQueue_0 : decode cX10_meanQueue 0 = .ok (.aload_n 0, 1) := by decide +kernel
theorem dX10_meanQueue_1 : decode cX10_meanQueue 1 = .ok (.getfield 12, 3) := by decide +kernel
theorem dX10_meanQueue_4 : decode cX10_meanQueue 4 = .ok (.invokevirtual 263, 3) := by decide +kernel
theorem dX10_meanQueue_7 : decode cX10_meanQueue 7 = .ok (.istore_n 1, 1) := by decide +kernel
theorem dX10_meanQueue_8 : decode cX10_meanQueue 8 = .ok (.iload_n 1, 1) := by decide +kernel
theorem dX10_meanQueue_9 : decode cX10_meanQueue 9 = .ok (.ifCond .ne 7, 3) := by decide +kernel
theorem dX10_meanQueue_12 : decode cX10_meanQueue 12 = .ok (.dconst 0, 1) := by decide +kernel
theorem dX10_meanQueue_13 : decode cX10_meanQueue 13 = .ok (.goto 14, 3) := by decide +kernel
theorem dX10_meanQueue_16 : decode cX10_meanQueue 16 = .ok (.aload_n 0, 1) := by decide +kernel
theorem dX10_meanQueue_17 : decode cX10_meanQueue 17 = .ok (.getfield 12, 3) := by decide +kernel
theorem dX10_meanQueue_20 : decode cX10_meanQueue 20 = .ok (.invokevirtual 260, 3) := by decide +kernel
theorem dX10_meanQueue_23 : decode cX10_meanQueue 23 = .ok (.i2d, 1) := by decide +kernel
theorem dX10_meanQueue_24 : decode cX10_meanQueue 24 = .ok (.iload_n 1, 1) := by decide +kernel
theorem dX10_meanQueue_25 : decode cX10_meanQueue 25 = .ok (.i2d, 1) := by decide +kernel
theorem dX10_meanQueue_26 : decode cX10_meanQueue 26 = .ok (.ddiv, 1) := by decide +kernel
theorem dX10_meanQueue_27 : decode cX10_meanQueue 27 = .ok (.dreturn, 1) := by decide +kernel
set_option maxRecDepth 20000 in
theorem ggX10_itemsToRest_X10_isWithin : GoodIn wsX10_itemsToRest wsX10_isWithin := goodIn_r _ [6] (by decide +kernel) (by decide +kernel)
set_option maxRecDepth 20000 in
theorem gX10_itemsToRest_X10_isWithin : GoodIn wsX10_itemsToRest (va_wsS RX10 21 yX10_isWithin wsX10_isWithin) := goodIn_app (goodIn_of _ (by decide +kernel)) ggX10_itemsToRest_X10_isWithin
set_option maxRecDepth 20000 in
theorem ggX10_itemsToRest_X10_refuseUnless : GoodIn wsX10_itemsToRest wsX10_refuseUnless := goodIn_ca (goodIn_r _ [9, 10, 11] (by decide +kernel) (by decide +kernel)) (goodIn_sub (fun _ h => List.mem_cons_of_mem _ (List.mem_append_right _ h)) (by decide +kernel))
set_option maxRecDepth 20000 in
theorem gX10_itemsToRest_X10_refuseUnless : GoodIn wsX10_itemsToRest (va_wsS RX10 25 yX10_refuseUnless wsX10_refuseUnless) := goodIn_app (goodIn_of _ (by decide +kernel)) ggX10_itemsToRest_X10_refuseUnless
set_option maxRecDepth 20000 in
theorem ggX10_itemsToRest_X2_become : GoodIn wsX10_itemsToRest wsX2_become := goodIn_r _ [16, 17, 18, 19, 20, 21, 22, 23, 24, 25, 26, 27, 28, 29, 30, 31, 32, 33, 34, 35, 36, 37, 38, 39, 40, 41, 42, 43, 44, 45, 46, 47, 48, 49, 50, 51, 52, 53, 54, 55, 56, 57, 58, 59, 60, 61, 62, 63, 64, 65, 66, 67, 68, 69, 70, 71, 72, 73, 74, 75, 76, 77, 78, 79, 80, 81, 82, 83, 84, 85, 86, 87, 88, 89, 90, 91, 92, 93, 94, 95, 96, 97, 98, 99, 100, 101, 102, 103, 104, 105, 106, 107, 108, 109, 110, 111, 112, 113, 114, 115, 116, 425, 426, 427, 428, 429, 430, 431, 432, 433, 434, 435, 436, 437, 438, 439, 440, 441, 442, 443, 444, 445, 446, 447, 448, 449, 450, 451, 452, 453, 454, 455, 456, 457, 458, 459, 460, 461, 462, 463, 464, 465, 466, 467] (by decide +kernel) (by decide +kernel)
set_option maxRecDepth 20000 in
theorem gX10_itemsToRest_X2_become : GoodIn wsX10_itemsToRest (wsV RX10 266 RX2 yX2_become wsX2_become) := goodIn_app (goodIn_of _ (by decide +kernel)) ggX10_itemsToRest_X2_become
set_option maxRecDepth 20000 in
theorem ggX10_itemsToRest_X2_nextToWork : GoodIn wsX10_itemsToRest wsX2_nextToWork := goodIn_r _ [120, 19, 18, 17, 21, 22, 23, 24, 25, 26, 121, 122, 123, 15, 124, 20, 27, 28, 29, 30, 31, 32, 33, 34, 35, 36, 37, 38, 39, 40, 41, 42, 43, 125, 126, 127, 47, 128, 50, 129, 52, 51, 49, 130, 131, 132, 133, 134, 135, 100, 136, 102, 110, 111, 112, 79, 113, 81, 105, 106, 107, 108, 103, 104, 109, 83, 84, 85, 114, 115, 137, 138, 139, 140, 141, 142, 143, 144, 145, 146, 147, 148, 149, 150, 151, 152, 153, 154, 155, 425, 426, 427, 428, 429, 430, 431, 432, 433, 434, 435, 436, 437, 438, 439, 440, 441, 442, 443, 444, 445, 446, 447, 468, 469, 470, 471, 472, 473, 474, 475, 476, 477, 478, 479, 480, 481, 482, 448, 449, 450, 451, 452, 453, 454, 455, 456, 457, 458, 463, 464, 461, 462, 465, 466, 467] (by decide +kernel) (by decide +kernel)
set_option maxRecDepth 20000 in
theorem gX10_itemsToRest_X2_nextToWork : GoodIn wsX10_itemsToRest (wsV RX10 133 RX2 yX2_nextToWork wsX2_nextToWork) := goodIn_app (goodIn_of _ (by decide +kernel)) ggX10_itemsToRest_X2_nextToWork
set_option maxRecDepth 20000 in
theorem ggX10_itemsToRest_X2_step : GoodIn wsX10_itemsToRest wsX2_step := goodIn_r _ [159, 18, 121, 122, 123, 15, 124, 19, 20, 21, 22, 23, 24, 25, 26, 27, 28, 29, 30, 31, 32, 33, 34, 35, 36, 37, 38, 39, 40, 41, 42, 43, 160, 161, 162, 100, 163, 102, 103, 104, 105, 106, 107, 108, 109, 83, 84, 85, 110, 111, 112, 79, 113, 81, 114, 115, 164, 165, 166, 167, 89, 92, 93, 94, 95, 168, 169, 170, 171, 172, 173, 174, 175, 176, 177, 178, 179, 180, 181, 47, 182, 49, 50, 183, 184, 185, 186, 187, 188, 189, 190, 90, 191, 192, 193, 194, 195, 196, 197, 198, 199, 200, 91, 201, 202, 203, 54, 55, 56, 57, 58, 59, 60, 61, 62, 63, 64, 65, 66, 67, 68, 69, 70, 71, 72, 73, 74, 75, 76, 77, 78, 80, 82, 86, 87, 88, 96, 204, 205, 206, 207, 208, 209, 210, 211, 212, 213, 214, 215, 216, 217, 218, 219, 130, 141, 129, 137, 138, 139, 140, 142, 220, 221, 222, 223, 224, 225, 226, 227, 228, 229, 230, 231, 232, 233, 234, 235, 236, 237, 238, 239, 240, 241, 242, 243, 244, 245, 246, 247, 248, 249, 250, 251, 252, 253, 254, 255, 256, 257, 258, 259, 260, 261, 262, 263, 264, 265, 266, 267, 268, 269, 270, 271, 272, 273, 274, 275, 276, 277, 278, 279, 280, 281, 282, 283, 284, 285, 286, 287, 288, 289, 290, 291, 292, 293, 294, 132, 131, 143, 144, 145, 146, 147, 148, 149, 150, 151, 152, 153, 154, 155, 295, 296, 297, 298, 299, 300, 301, 302, 303, 304, 305, 306, 307, 308, 309, 310, 311, 312, 313, 314, 315, 316, 317, 318, 319, 320, 321, 322, 323, 324, 325, 326, 327, 328, 329, 330, 331, 332, 333, 334, 335, 336, 337, 338, 339, 340, 341, 342, 343, 344, 345, 346, 347, 348, 349, 350, 351, 352, 353, 354, 355, 356, 357, 358, 359, 360, 361, 362, 363, 364, 365, 366, 367, 368, 369, 370, 371, 372, 373, 374, 375, 376, 377, 378, 379, 380, 381, 382, 383, 384, 385, 386, 387, 388, 389, 390, 391, 392, 393, 394, 395, 396, 397, 398, 399, 400, 401, 402, 403, 404, 405, 406, 407, 408, 409, 410, 411, 412, 413, 414, 415, 416, 417, 418, 419, 425, 426, 427, 428, 429, 430, 431, 432, 436, 437, 438, 439, 440, 441, 442, 443, 444, 445, 446, 447, 468, 469, 470, 471, 472, 473, 474, 475, 476, 477, 478, 479, 480, 481, 482, 448, 449, 450, 451, 452, 453, 454, 455, 456, 457, 458, 433, 434, 435, 463, 464, 465, 466, 467, 461, 462, 459, 460] (by decide +kernel) (by decide +kernel)
set_option maxRecDepth 20000 in
theorem gX10_itemsToRest_X2_step : GoodIn wsX10_itemsToRest (wsV RX10 136 RX2 yX2_step wsX2_step) := goodIn_app (goodIn_of _ (by decide +kernel)) ggX10_itemsToRest_X2_step
theorem dX10_itemsToRest_0 : decode cX10_itemsToRest 0 = .ok (.iload_n 1, 1) := by decide +kernel
theorem dX10_itemsToRest_1 : decode cX10_itemsToRest 1 = .ok (.iconst 1, 1) := by decide +kernel
theorem dX10_itemsToRest_2 : decode cX10_itemsToRest 2 = .ok (.sipush 200, 3) := by decide +kernel
theorem dX10_itemsToRest_5 : decode cX10_itemsToRest 5 = .ok (.invokestatic 21, 3) := by decide +kernel
theorem dX10_itemsToRest_8 : decode cX10_itemsToRest 8 = .ok (.invokestatic 25, 3) := by decide +kernel
theorem dX10_itemsToRest_11 : decode cX10_itemsToRest 11 = .ok (.aload_n 0, 1) := by decide +kernel
theorem dX10_itemsToRest_12 : decode cX10_itemsToRest 12 = .ok (.getfield 18, 3) := by decide +kernel
theorem dX10_itemsToRest_15 : decode cX10_itemsToRest 15 = .ok (.aload_n 0, 1) := by decide +kernel
theorem dX10_itemsToRest_16 : decode cX10_itemsToRest 16 = .ok (.getfield 12, 3) := by decide +kernel
theorem dX10_itemsToRest_19 : decode cX10_itemsToRest 19 = .ok (.invokevirtual 266, 3) := by decide +kernel
theorem dX10_itemsToRest_22 : decode cX10_itemsToRest 22 = .ok (.iconst 0, 1) := by decide +kernel
theorem dX10_itemsToRest_23 : decode cX10_itemsToRest 23 = .ok (.istore_n 2, 1) := by decide +kernel
theorem dX10_itemsToRest_24 : decode cX10_itemsToRest 24 = .ok (.iload_n 2, 1) := by decide +kernel
theorem dX10_itemsToRest_25 : decode cX10_itemsToRest 25 = .ok (.iload_n 1, 1) := by decide +kernel
theorem dX10_itemsToRest_26 : decode cX10_itemsToRest 26 = .ok (.if_icmp .ge 26, 3) := by decide +kernel
theorem dX10_itemsToRest_29 : decode cX10_itemsToRest 29 = .ok (.aload_n 0, 1) := by decide +kernel
theorem dX10_itemsToRest_30 : decode cX10_itemsToRest 30 = .ok (.getfield 18, 3) := by decide +kernel
theorem dX10_itemsToRest_33 : decode cX10_itemsToRest 33 = .ok (.aload_n 0, 1) := by decide +kernel
theorem dX10_itemsToRest_34 : decode cX10_itemsToRest 34 = .ok (.getfield 18, 3) := by decide +kernel
theorem dX10_itemsToRest_37 : decode cX10_itemsToRest 37 = .ok (.invokevirtual 133, 3) := by decide +kernel
theorem dX10_itemsToRest_40 : decode cX10_itemsToRest 40 = .ok (.invokevirtual 136, 3) := by decide +kernel
theorem dX10_itemsToRest_43 : decode cX10_itemsToRest 43 = .ok (.ifCond .eq 9, 3) := by decide +kernel
theorem dX10_itemsToRest_46 : decode cX10_itemsToRest 46 = .ok (.iinc 2 1, 3) := by decide +kernel
theorem dX10_itemsToRest_49 : decode cX10_itemsToRest 49 = .ok (.goto (-25), 3) := by decide +kernel
theorem dX10_itemsToRest_52 : decode cX10_itemsToRest 52 = .ok (.aload_n 0, 1) := by decide +kernel
theorem dX10_itemsToRest_53 : decode cX10_itemsToRest 53 = .ok (.getfield 18, 3) := by decide +kernel
theorem dX10_itemsToRest_56 : decode cX10_itemsToRest 56 = .ok (.invokevirtual 133, 3) := by decide +kernel
theorem dX10_itemsToRest_59 : decode cX10_itemsToRest 59 = .ok (.iconst (-1), 1) := by decide +kernel
theorem dX10_itemsToRest_60 : decode cX10_itemsToRest 60 = .ok (.if_icmp .ne 7, 3) := by decide +kernel
theorem dX10_itemsToRest_63 : decode cX10_itemsToRest 63 = .ok (.iload_n 2, 1) := by decide +kernel
theorem dX10_itemsToRest_64 : decode cX10_itemsToRest 64 = .ok (.goto 4, 3) := by decide +kernel
theorem dX10_itemsToRest_67 : decode cX10_itemsToRest 67 = .ok (.iconst (-1), 1) := by decide +kernel
theorem dX10_itemsToRest_68 : decode cX10_itemsToRest 68 = .ok (.ireturn, 1) := by decide +kernel
set_option maxRecDepth 20000 in
theorem ggX10_wouldLose_X10_sinkOf : GoodIn wsX10_wouldLose wsX10_sinkOf := goodIn_ca (goodIn_ca (goodIn_r _ [5, 6, 7, 8, 4, 9, 10, 11, 12, 13, 14, 15, 16, 17, 18, 19, 20, 21, 22, 23, 24, 25, 26, 27, 28, 29, 30, 31, 32, 33, 34, 35, 36, 37, 38, 39, 40, 41, 42, 43, 44, 45, 46, 47, 48, 49, 50, 51, 52, 53, 54, 55, 56, 57, 58, 59, 71, 72, 73, 74, 75, 76, 77, 78, 79, 80, 81, 82, 83, 84, 85, 86, 87, 88, 89, 90, 91, 92, 93, 94, 95, 96, 97, 98, 99, 100, 101] (by decide +kernel) (by decide +kernel)) (goodIn_sub (fun _ h => List.mem_cons_of_mem _ (List.mem_append_left _ (List.mem_append_right _ h))) (by decide +kernel))) (goodIn_sub (fun _ h => List.mem_cons_of_mem _ (List.mem_append_right _ h)) (by decide +kernel))
set_option maxRecDepth 20000 in
theorem gX10_wouldLose_X10_sinkOf : GoodIn wsX10_wouldLose (wsV RX10 234 RX10 yX10_sinkOf wsX10_sinkOf) := goodIn_app (goodIn_of _ (by decide +kernel)) ggX10_wouldLose_X10_sinkOf
theorem dX10_wouldLose_0 : decode cX10_wouldLose 0 = .ok (.aload_n 0, 1) := by decide +kernel
theorem dX10_wouldLose_1 : decode cX10_wouldLose 1 = .ok (.iload_n 1, 1) := by decide +kernel
theorem dX10_wouldLose_2 : decode cX10_wouldLose 2 = .ok (.invokevirtual 234, 3) := by decide +kernel
theorem dX10_wouldLose_5 : decode cX10_wouldLose 5 = .ok (.astore_n 2, 1) := by decide +kernel
theorem dX10_wouldLose_6 : decode cX10_wouldLose 6 = .ok (.aload_n 2, 1) := by decide +kernel
theorem dX10_wouldLose_7 : decode cX10_wouldLose 7 = .ok (.getfield 157, 3) := by decide +kernel
theorem dX10_wouldLose_10 : decode cX10_wouldLose 10 = .ok (.getfield 237, 3) := by decide +kernel
theorem dX10_wouldLose_13 : decode cX10_wouldLose 13 = .ok (.aload_n 2, 1) := by decide +kernel
theorem dX10_wouldLose_14 : decode cX10_wouldLose 14 = .ok (.getfield 240, 3) := by decide +kernel
theorem dX10_wouldLose_17 : decode cX10_wouldLose 17 = .ok (.getfield 237, 3) := by decide +kernel
theorem dX10_wouldLose_20 : decode cX10_wouldLose 20 = .ok (.isub, 1) := by decide +kernel
theorem dX10_wouldLose_21 : decode cX10_wouldLose 21 = .ok (.ireturn, 1) := by decide +kernel
set_option maxRecDepth 20000 in
theorem ggX10_wouldReplay_X10_sourceOf : GoodIn wsX10_wouldReplay wsX10_sourceOf := goodIn_ca (goodIn_ca (goodIn_r _ [5, 6, 7, 8, 4, 9, 10, 11, 12, 13, 14, 15, 16, 17, 18, 19, 20, 21, 22, 23, 24, 25, 26, 27, 28, 29, 30, 31, 32, 33, 34, 35, 36, 37, 38, 39, 40, 41, 42, 43, 44, 45, 46, 47, 48, 49, 50, 51, 52, 53, 54, 55, 56, 57, 58, 59, 71, 72, 73, 74, 75, 76, 77, 78, 79, 80, 81, 82, 83, 84, 85, 86, 87, 88, 89, 90, 91, 92, 93, 94, 95, 96, 97, 98, 99, 100, 101] (by decide +kernel) (by decide +kernel)) (goodIn_sub (fun _ h => List.mem_cons_of_mem _ (List.mem_append_left _ (List.mem_append_right _ h))) (by decide +kernel))) (goodIn_sub (fun _ h => List.mem_cons_of_mem _ (List.mem_append_right _ h)) (by decide +kernel))
set_option maxRecDepth 20000 in
theorem gX10_wouldReplay_X10_sourceOf : GoodIn wsX10_wouldReplay (wsV RX10 97 RX10 yX10_sourceOf wsX10_sourceOf) := goodIn_app (goodIn_of _ (by decide +kernel)) ggX10_wouldReplay_X10_sourceOf
theorem dX10_wouldReplay_0 : decode cX10_wouldReplay 0 = .ok (.aload_n 0, 1) := by decide +kernel
theorem dX10_wouldReplay_1 : decode cX10_wouldReplay 1 = .ok (.iload_n 1, 1) := by decide +kernel
theorem dX10_wouldReplay_2 : decode cX10_wouldReplay 2 = .ok (.invokevirtual 97, 3) := by decide +kernel
theorem dX10_wouldReplay_5 : decode cX10_wouldReplay 5 = .ok (.astore_n 2, 1) := by decide +kernel
theorem dX10_wouldReplay_6 : decode cX10_wouldReplay 6 = .ok (.aload_n 2, 1) := by decide +kernel
theorem dX10_wouldReplay_7 : decode cX10_wouldReplay 7 = .ok (.getfield 157, 3) := by decide +kernel
theorem dX10_wouldReplay_10 : decode cX10_wouldReplay 10 = .ok (.getfield 166, 3) := by decide +kernel
theorem dX10_wouldReplay_13 : decode cX10_wouldReplay 13 = .ok (.aload_n 2, 1) := by decide +kernel
theorem dX10_wouldReplay_14 : decode cX10_wouldReplay 14 = .ok (.getfield 240, 3) := by decide +kernel
theorem dX10_wouldReplay_17 : decode cX10_wouldReplay 17 = .ok (.getfield 166, 3) := by decide +kernel
theorem dX10_wouldReplay_20 : decode cX10_wouldReplay 20 = .ok (.isub, 1) := by decide +kernel
theorem dX10_wouldReplay_21 : decode cX10_wouldReplay 21 = .ok (.ireturn, 1) := by decide +kernel
set_option maxRecDepth 20000 in
theorem ggX10_digest_X10_stages : GoodIn wsX10_digest wsX10_stages := goodIn_r _ [8, 3, 9, 10, 11, 12, 13, 14, 15, 16, 17, 18, 19, 20, 287, 288, 289, 290, 291, 292, 293, 294, 295, 296, 297, 298, 299, 300, 301, 302] (by decide +kernel) (by decide +kernel)
set_option maxRecDepth 20000 in
theorem gX10_digest_X10_stages : GoodIn wsX10_digest (wsV RX10 277 RX10 yX10_stages wsX10_stages) := goodIn_app (goodIn_of _ (by decide +kernel)) ggX10_digest_X10_stages
set_option maxRecDepth 20000 in
theorem ggX10_digest_X10_isStarted : GoodIn wsX10_digest wsX10_isStarted := goodIn_r _ [24, 25, 287, 288, 289, 290, 291] (by decide +kernel) (by decide +kernel)
set_option maxRecDepth 20000 in
theorem gX10_digest_X10_isStarted : GoodIn wsX10_digest (wsV RX10 280 RX10 yX10_isStarted wsX10_isStarted) := goodIn_app (goodIn_of _ (by decide +kernel)) ggX10_digest_X10_isStarted
set_option maxRecDepth 20000 in
theorem ggX10_digest_X10_bit : GoodIn wsX10_digest wsX10_bit := goodIn_r _ [28] (by decide +kernel) (by decide +kernel)
set_option maxRecDepth 20000 in
theorem gX10_digest_X10_bit : GoodIn wsX10_digest (va_wsS RX10 284 yX10_bit wsX10_bit) := goodIn_app (goodIn_of _ (by decide +kernel)) ggX10_digest_X10_bit
set_option maxRecDepth 20000 in
theorem ggX10_digest_X10_complete : GoodIn wsX10_digest wsX10_complete := goodIn_r _ [32, 3, 287, 288, 289, 290, 291, 292, 293, 294, 295, 296, 297, 298, 299] (by decide +kernel) (by decide +kernel)
set_option maxRecDepth 20000 in
theorem gX10_digest_X10_complete : GoodIn wsX10_digest (wsV RX10 288 RX10 yX10_complete wsX10_complete) := goodIn_app (goodIn_of _ (by decide +kernel)) ggX10_digest_X10_complete
set_option maxRecDepth 20000 in
theorem ggX10_digest_X10_begun : GoodIn wsX10_digest wsX10_begun := goodIn_r _ [36, 3, 287, 288, 289, 290, 291, 292, 293, 294, 295, 296, 297, 298, 299] (by decide +kernel) (by decide +kernel)
set_option maxRecDepth 20000 in
theorem gX10_digest_X10_begun : GoodIn wsX10_digest (wsV RX10 291 RX10 yX10_begun wsX10_begun) := goodIn_app (goodIn_of _ (by decide +kernel)) ggX10_digest_X10_begun
set_option maxRecDepth 20000 in
theorem ggX10_digest_X10_crashes : GoodIn wsX10_digest wsX10_crashes := goodIn_r _ [40, 41, 287, 288, 289, 290, 291] (by decide +kernel) (by decide +kernel)
set_option maxRecDepth 20000 in
theorem gX10_digest_X10_crashes : GoodIn wsX10_digest (wsV RX10 294 RX10 yX10_crashes wsX10_crashes) := goodIn_app (goodIn_of _ (by decide +kernel)) ggX10_digest_X10_crashes
set_option maxRecDepth 20000 in
theorem ggX10_digest_X10_worked : GoodIn wsX10_digest wsX10_worked := goodIn_r _ [45, 46, 287, 288, 289, 290, 291] (by decide +kernel) (by decide +kernel)
set_option maxRecDepth 20000 in
theorem gX10_digest_X10_worked : GoodIn wsX10_digest (wsV RX10 297 RX10 yX10_worked wsX10_worked) := goodIn_app (goodIn_of _ (by decide +kernel)) ggX10_digest_X10_worked
set_option maxRecDepth 20000 in
theorem ggX10_digest_X10_inFlight : GoodIn wsX10_digest wsX10_inFlight := goodIn_r _ [50, 3, 51, 52, 53, 12, 54, 14, 55, 15, 16, 17, 18, 19, 20, 56, 57, 58, 59, 60, 61, 62, 63, 64, 65, 66, 67, 68, 69, 70, 71, 72, 73, 74, 75, 76, 77, 78, 79, 80, 81, 82, 83, 84, 85, 287, 288, 289, 290, 291, 292, 293, 294, 295, 296, 297, 298, 299, 303, 304, 305, 306, 307, 308, 309, 310, 311, 312, 313, 314, 300, 301, 302, 315, 316, 317, 318, 319] (by decide +kernel) (by decide +kernel)
set_option maxRecDepth 20000 in
theorem gX10_digest_X10_inFlight : GoodIn wsX10_digest (wsV RX10 300 RX10 yX10_inFlight wsX10_inFlight) := goodIn_app (goodIn_of _ (by decide +kernel)) ggX10_digest_X10_inFlight
set_option maxRecDepth 20000 in
theorem ggX10_digest_X10_next : GoodIn wsX10_digest wsX10_next := goodIn_r _ [89, 3, 90, 91, 92, 12, 93, 14, 94, 95, 15, 16, 17, 18, 19, 20, 96, 97, 98, 99, 55, 56, 57, 58, 59, 60, 61, 62, 63, 64, 65, 66, 67, 68, 69, 70, 71, 72, 100, 101, 102, 103, 104, 105, 106, 107, 108, 109, 110, 111, 112, 113, 114, 115, 116, 117, 118, 119, 81, 82, 83, 84, 85, 120, 121, 122, 123, 124, 125, 126, 127, 128, 129, 130, 131, 132, 133, 134, 135, 136, 137, 138, 139, 140, 76, 141, 142, 143, 74, 75, 77, 78, 79, 80, 287, 288, 289, 290, 291, 292, 293, 294, 295, 296, 297, 298, 299, 300, 301, 302, 303, 304, 305, 306, 307, 308, 309, 310, 311, 312, 313, 314, 320, 321, 322, 323, 324, 325, 326, 327, 328, 329, 330, 331, 332, 333, 334, 335, 336, 337, 338, 339, 340, 341, 342, 343, 344, 345, 346, 347, 318, 319, 315, 316, 317] (by decide +kernel) (by decide +kernel)
set_option maxRecDepth 20000 in
theorem gX10_digest_X10_next : GoodIn wsX10_digest (wsV RX10 303 RX10 yX10_next wsX10_next) := goodIn_app (goodIn_of _ (by decide +kernel)) ggX10_digest_X10_next
set_option maxRecDepth 20000 in
theorem ggX10_digest_X2_size : GoodIn wsX10_digest wsX2_size := goodIn_r _ [13, 14, 15, 16, 17, 18, 19, 20, 292, 293, 294, 295, 296, 297, 298, 299, 300, 301, 302] (by decide +kernel) (by decide +kernel)
set_option maxRecDepth 20000 in
theorem gX10_digest_X2_size : GoodIn wsX10_digest (wsV RX10 88 RX2 yX2_size wsX2_size) := goodIn_app (goodIn_of _ (by decide +kernel)) ggX10_digest_X2_size
set_option maxRecDepth 20000 in
theorem ggX10_digest_X10_digestOfStage : GoodIn wsX10_digest wsX10_digestOfStage := goodIn_ca (goodIn_ca (goodIn_r _ [147, 2, 148, 149, 150, 7, 151, 152, 153, 154, 155, 156, 157, 3, 158, 97, 98, 12, 99, 14, 55, 15, 16, 17, 18, 19, 20, 56, 57, 58, 59, 60, 61, 62, 63, 64, 65, 66, 67, 68, 69, 70, 71, 72, 159, 160, 161, 162, 163, 164, 165, 166, 167, 168, 169, 170, 171, 172, 173, 174, 175, 176, 177, 178, 179, 133, 134, 103, 135, 136, 109, 137, 81, 82, 83, 84, 85, 180, 181, 182, 183, 184, 185, 186, 187, 188, 189, 190, 191, 192, 193, 194, 195, 196, 197, 198, 199, 200, 101, 102, 104, 105, 106, 107, 108, 110, 111, 112, 113, 114, 115, 116, 117, 118, 119, 120, 121, 122, 123, 124, 125, 126, 127, 128, 129, 130, 131, 132, 138, 139, 140, 76, 141, 142, 143, 74, 75, 77, 78, 79, 80, 26, 27, 28, 201, 202, 203, 204, 205, 206, 207, 208, 209, 210, 211, 212, 213, 214, 215, 216, 217, 218, 219, 220, 221, 222, 223, 224, 225, 226, 227, 228, 229, 230, 231, 232, 233, 234, 235, 236, 237, 238, 239, 240, 241, 242, 243, 244, 245, 246, 247, 248, 249, 250, 251, 252, 253, 254, 255, 256, 257, 258, 259, 260, 261, 262, 263, 264, 265, 266, 267, 268, 269, 270, 271, 272, 273, 274, 275, 276, 277, 278, 279, 280, 281, 282, 283, 284, 285, 286, 303, 304, 305, 306, 307, 308, 309, 310, 311, 312, 313, 314, 320, 321, 322, 323, 324, 325, 326, 327, 328, 329, 330, 331, 332, 333, 334, 287, 288, 289, 290, 291, 292, 293, 294, 295, 296, 297, 298, 299, 300, 301, 302, 335, 336, 337, 338, 339, 340, 341, 342, 343, 344, 345, 318, 319, 348, 349, 346, 347, 315, 316, 317] (by decide +kernel) (by decide +kernel)) (goodIn_sub (fun _ h => List.mem_cons_of_mem _ (List.mem_append_left _ (List.mem_append_right _ h))) (by decide +kernel))) (goodIn_sub (fun _ h => List.mem_cons_of_mem _ (List.mem_append_right _ h)) (by decide +kernel))
set_option maxRecDepth 20000 in
theorem gX10_digest_X10_digestOfStage : GoodIn wsX10_digest (wsV RX10 306 RX10 yX10_digestOfStage wsX10_digestOfStage) := goodIn_app (goodIn_of _ (by decide +kernel)) ggX10_digest_X10_digestOfStage
theorem dX10_digest_0 : decode cX10_digest 0 = .ok (.ldc2_w 273, 3) := by decide +kernel
theorem dX10_digest_3 : decode cX10_digest 3 = .ok (.lstore_n 1, 1) := by decide +kernel
theorem dX10_digest_4 : decode cX10_digest 4 = .ok (.lload_n 1, 1) := by decide +kernel
theorem dX10_digest_5 : decode cX10_digest 5 = .ok (.ldc2_w 275, 3) := by decide +kernel
theorem dX10_digest_8 : decode cX10_digest 8 = .ok (.lmul, 1) := by decide +kernel
theorem dX10_digest_9 : decode cX10_digest 9 = .ok (.aload_n 0, 1) := by decide +kernel
theorem dX10_digest_10 : decode cX10_digest 10 = .ok (.invokevirtual 277, 3) := by decide +kernel
theorem dX10_digest_13 : decode cX10_digest 13 = .ok (.i2l, 1) := by decide +kernel
theorem dX10_digest_14 : decode cX10_digest 14 = .ok (.ladd, 1) := by decide +kernel
theorem dX10_digest_15 : decode cX10_digest 15 = .ok (.lstore_n 1, 1) := by decide +kernel
theorem dX10_digest_16 : decode cX10_digest 16 = .ok (.lload_n 1, 1) := by decide +kernel
theorem dX10_digest_17 : decode cX10_digest 17 = .ok (.ldc2_w 275, 3) := by decide +kernel
theorem dX10_digest_20 : decode cX10_digest 20 = .ok (.lmul, 1) := by decide +kernel
theorem dX10_digest_21 : decode cX10_digest 21 = .ok (.aload_n 0, 1) := by decide +kernel
theorem dX10_digest_22 : decode cX10_digest 22 = .ok (.invokevirtual 280, 3) := by decide +kernel
theorem dX10_digest_25 : decode cX10_digest 25 = .ok (.invokestatic 284, 3) := by decide +kernel
theorem dX10_digest_28 : decode cX10_digest 28 = .ok (.i2l, 1) := by decide +kernel
theorem dX10_digest_29 : decode cX10_digest 29 = .ok (.ladd, 1) := by decide +kernel
theorem dX10_digest_30 : decode cX10_digest 30 = .ok (.lstore_n 1, 1) := by decide +kernel
theorem dX10_digest_31 : decode cX10_digest 31 = .ok (.lload_n 1, 1) := by decide +kernel
theorem dX10_digest_32 : decode cX10_digest 32 = .ok (.ldc2_w 275, 3) := by decide +kernel
theorem dX10_digest_35 : decode cX10_digest 35 = .ok (.lmul, 1) := by decide +kernel
theorem dX10_digest_36 : decode cX10_digest 36 = .ok (.aload_n 0, 1) := by decide +kernel
theorem dX10_digest_37 : decode cX10_digest 37 = .ok (.invokevirtual 288, 3) := by decide +kernel
theorem dX10_digest_40 : decode cX10_digest 40 = .ok (.i2l, 1) := by decide +kernel
theorem dX10_digest_41 : decode cX10_digest 41 = .ok (.ladd, 1) := by decide +kernel
theorem dX10_digest_42 : decode cX10_digest 42 = .ok (.lstore_n 1, 1) := by decide +kernel
theorem dX10_digest_43 : decode cX10_digest 43 = .ok (.lload_n 1, 1) := by decide +kernel
theorem dX10_digest_44 : decode cX10_digest 44 = .ok (.ldc2_w 275, 3) := by decide +kernel
theorem dX10_digest_47 : decode cX10_digest 47 = .ok (.lmul, 1) := by decide +kernel
theorem dX10_digest_48 : decode cX10_digest 48 = .ok (.aload_n 0, 1) := by decide +kernel
theorem dX10_digest_49 : decode cX10_digest 49 = .ok (.invokevirtual 291, 3) := by decide +kernel
theorem dX10_digest_52 : decode cX10_digest 52 = .ok (.i2l, 1) := by decide +kernel
theorem dX10_digest_53 : decode cX10_digest 53 = .ok (.ladd, 1) := by decide +kernel
theorem dX10_digest_54 : decode cX10_digest 54 = .ok (.lstore_n 1, 1) := by decide +kernel
theorem dX10_digest_55 : decode cX10_digest 55 = .ok (.lload_n 1, 1) := by decide +kernel
theorem dX10_digest_56 : decode cX10_digest 56 = .ok (.ldc2_w 275, 3) := by decide +kernel
theorem dX10_digest_59 : decode cX10_digest 59 = .ok (.lmul, 1) := by decide +kernel
theorem dX10_digest_60 : decode cX10_digest 60 = .ok (.aload_n 0, 1) := by decide +kernel
theorem dX10_digest_61 : decode cX10_digest 61 = .ok (.invokevirtual 294, 3) := by decide +kernel
theorem dX10_digest_64 : decode cX10_digest 64 = .ok (.i2l, 1) := by decide +kernel
theorem dX10_digest_65 : decode cX10_digest 65 = .ok (.ladd, 1) := by decide +kernel
theorem dX10_digest_66 : decode cX10_digest 66 = .ok (.lstore_n 1, 1) := by decide +kernel
theorem dX10_digest_67 : decode cX10_digest 67 = .ok (.lload_n 1, 1) := by decide +kernel
theorem dX10_digest_68 : decode cX10_digest 68 = .ok (.ldc2_w 275, 3) := by decide +kernel
theorem dX10_digest_71 : decode cX10_digest 71 = .ok (.lmul, 1) := by decide +kernel
theorem dX10_digest_72 : decode cX10_digest 72 = .ok (.aload_n 0, 1) := by decide +kernel
theorem dX10_digest_73 : decode cX10_digest 73 = .ok (.invokevirtual 297, 3) := by decide +kernel
theorem dX10_digest_76 : decode cX10_digest 76 = .ok (.i2l, 1) := by decide +kernel
theorem dX10_digest_77 : decode cX10_digest 77 = .ok (.ladd, 1) := by decide +kernel
theorem dX10_digest_78 : decode cX10_digest 78 = .ok (.lstore_n 1, 1) := by decide +kernel
theorem dX10_digest_79 : decode cX10_digest 79 = .ok (.lload_n 1, 1) := by decide +kernel
theorem dX10_digest_80 : decode cX10_digest 80 = .ok (.ldc2_w 275, 3) := by decide +kernel
theorem dX10_digest_83 : decode cX10_digest 83 = .ok (.lmul, 1) := by decide +kernel
theorem dX10_digest_84 : decode cX10_digest 84 = .ok (.aload_n 0, 1) := by decide +kernel
theorem dX10_digest_85 : decode cX10_digest 85 = .ok (.invokevirtual 300, 3) := by decide +kernel
theorem dX10_digest_88 : decode cX10_digest 88 = .ok (.i2l, 1) := by decide +kernel
theorem dX10_digest_89 : decode cX10_digest 89 = .ok (.ladd, 1) := by decide +kernel
theorem dX10_digest_90 : decode cX10_digest 90 = .ok (.lstore_n 1, 1) := by decide +kernel
theorem dX10_digest_91 : decode cX10_digest 91 = .ok (.lload_n 1, 1) := by decide +kernel
theorem dX10_digest_92 : decode cX10_digest 92 = .ok (.ldc2_w 275, 3) := by decide +kernel
theorem dX10_digest_95 : decode cX10_digest 95 = .ok (.lmul, 1) := by decide +kernel
theorem dX10_digest_96 : decode cX10_digest 96 = .ok (.aload_n 0, 1) := by decide +kernel
theorem dX10_digest_97 : decode cX10_digest 97 = .ok (.invokevirtual 303, 3) := by decide +kernel
theorem dX10_digest_100 : decode cX10_digest 100 = .ok (.i2l, 1) := by decide +kernel
theorem dX10_digest_101 : decode cX10_digest 101 = .ok (.ladd, 1) := by decide +kernel
theorem dX10_digest_102 : decode cX10_digest 102 = .ok (.lstore_n 1, 1) := by decide +kernel
theorem dX10_digest_103 : decode cX10_digest 103 = .ok (.iconst 0, 1) := by decide +kernel
theorem dX10_digest_104 : decode cX10_digest 104 = .ok (.istore_n 3, 1) := by decide +kernel
theorem dX10_digest_105 : decode cX10_digest 105 = .ok (.iload_n 3, 1) := by decide +kernel
theorem dX10_digest_106 : decode cX10_digest 106 = .ok (.aload_n 0, 1) := by decide +kernel
theorem dX10_digest_107 : decode cX10_digest 107 = .ok (.getfield 12, 3) := by decide +kernel
theorem dX10_digest_110 : decode cX10_digest 110 = .ok (.invokevirtual 88, 3) := by decide +kernel
theorem dX10_digest_113 : decode cX10_digest 113 = .ok (.if_icmp .ge 16, 3) := by decide +kernel
theorem dX10_digest_116 : decode cX10_digest 116 = .ok (.aload_n 0, 1) := by decide +kernel
theorem dX10_digest_117 : decode cX10_digest 117 = .ok (.lload_n 1, 1) := by decide +kernel
theorem dX10_digest_118 : decode cX10_digest 118 = .ok (.iload_n 3, 1) := by decide +kernel
theorem dX10_digest_119 : decode cX10_digest 119 = .ok (.invokevirtual 306, 3) := by decide +kernel
theorem dX10_digest_122 : decode cX10_digest 122 = .ok (.lstore_n 1, 1) := by decide +kernel
theorem dX10_digest_123 : decode cX10_digest 123 = .ok (.iinc 3 1, 3) := by decide +kernel
theorem dX10_digest_126 : decode cX10_digest 126 = .ok (.goto (-21), 3) := by decide +kernel
theorem dX10_digest_129 : decode cX10_digest 129 = .ok (.lload_n 1, 1) := by decide +kernel
theorem dX10_digest_130 : decode cX10_digest 130 = .ok (.lreturn, 1) := by decide +kernel
set_option maxRecDepth 20000 in
theorem ggX10_digestOfStage_X10_sortOf : GoodIn wsX10_digestOfStage wsX10_sortOf := goodIn_ca (goodIn_r _ [6, 7, 8, 9, 5, 10, 11, 12, 13, 14, 15, 16, 17, 18, 19, 20, 21, 22, 23, 24, 25, 26, 27, 28, 29, 30, 31, 32, 33, 34, 35, 36, 37, 38, 39, 40, 41, 42, 43, 230, 231, 232, 233, 234, 235, 236, 237, 238, 239, 240, 241, 242, 243, 244, 245, 246, 247, 248, 249, 250, 251, 252, 253, 254, 255, 256, 257, 258, 259, 260, 261, 262, 263, 264, 265, 266, 267, 268, 269, 270, 271, 272] (by decide +kernel) (by decide +kernel)) (goodIn_sub (fun _ h => List.mem_cons_of_mem _ (List.mem_append_left _ (List.mem_append_right _ h))) (by decide +kernel))
set_option maxRecDepth 20000 in
theorem gX10_digestOfStage_X10_sortOf : GoodIn wsX10_digestOfStage (wsV RX10 310 RX10 yX10_sortOf wsX10_sortOf) := goodIn_app (goodIn_of _ (by decide +kernel)) ggX10_digestOfStage_X10_sortOf
set_option maxRecDepth 20000 in
theorem ggX10_digestOfStage_X10_markOf : GoodIn wsX10_digestOfStage wsX10_markOf := goodIn_ca (goodIn_r _ [47, 7, 8, 9, 5, 10, 11, 12, 13, 14, 15, 16, 17, 18, 19, 20, 21, 22, 23, 24, 25, 26, 27, 28, 29, 30, 31, 32, 33, 34, 35, 36, 37, 38, 39, 40, 41, 42, 43, 230, 231, 232, 233, 234, 235, 236, 237, 238, 239, 240, 241, 273, 274, 275, 276, 277, 278, 279, 280, 281, 282, 283, 257, 258, 259, 260, 261, 262, 263, 264, 265, 266, 267, 268, 269, 270, 271, 272] (by decide +kernel) (by decide +kernel)) (goodIn_sub (fun _ h => List.mem_cons_of_mem _ (List.mem_append_left _ (List.mem_append_right _ h))) (by decide +kernel))
set_option maxRecDepth 20000 in
theorem gX10_digestOfStage_X10_markOf : GoodIn wsX10_digestOfStage (wsV RX10 313 RX10 yX10_markOf wsX10_markOf) := goodIn_app (goodIn_of _ (by decide +kernel)) ggX10_digestOfStage_X10_markOf
set_option maxRecDepth 20000 in
theorem ggX10_digestOfStage_X10_taken : GoodIn wsX10_digestOfStage wsX10_taken := goodIn_ca (goodIn_r _ [51, 7, 8, 9, 5, 10, 11, 12, 13, 14, 15, 16, 17, 18, 19, 20, 21, 22, 23, 24, 25, 26, 27, 28, 29, 30, 31, 32, 33, 34, 35, 36, 37, 38, 39, 40, 41, 42, 43, 230, 231, 232, 233, 234, 235, 236, 237, 238, 239, 240, 241, 273, 274, 275, 276, 277, 278, 279, 280, 281, 282, 283, 257, 258, 259, 260, 261, 262, 263, 264, 265, 266, 267, 268, 269, 270, 271, 272] (by decide +kernel) (by decide +kernel)) (goodIn_sub (fun _ h => List.mem_cons_of_mem _ (List.mem_append_left _ (List.mem_append_right _ h))) (by decide +kernel))
set_option maxRecDepth 20000 in
theorem gX10_digestOfStage_X10_taken : GoodIn wsX10_digestOfStage (wsV RX10 316 RX10 yX10_taken wsX10_taken) := goodIn_app (goodIn_of _ (by decide +kernel)) ggX10_digestOfStage_X10_taken
set_option maxRecDepth 20000 in
theorem ggX10_digestOfStage_X10_emitted : GoodIn wsX10_digestOfStage wsX10_emitted := goodIn_ca (goodIn_r _ [55, 7, 8, 9, 5, 10, 11, 12, 13, 14, 15, 16, 17, 18, 19, 20, 21, 22, 23, 24, 25, 26, 27, 28, 29, 30, 31, 32, 33, 34, 35, 36, 37, 38, 39, 40, 41, 42, 43, 230, 231, 232, 233, 234, 235, 236, 237, 238, 239, 240, 241, 273, 274, 275, 276, 277, 278, 279, 280, 281, 282, 283, 257, 258, 259, 260, 261, 262, 263, 264, 265, 266, 267, 268, 269, 270, 271, 272] (by decide +kernel) (by decide +kernel)) (goodIn_sub (fun _ h => List.mem_cons_of_mem _ (List.mem_append_left _ (List.mem_append_right _ h))) (by decide +kernel))
set_option maxRecDepth 20000 in
theorem gX10_digestOfStage_X10_emitted : GoodIn wsX10_digestOfStage (wsV RX10 318 RX10 yX10_emitted wsX10_emitted) := goodIn_app (goodIn_of _ (by decide +kernel)) ggX10_digestOfStage_X10_emitted
set_option maxRecDepth 20000 in
theorem ggX10_digestOfStage_X10_late : GoodIn wsX10_digestOfStage wsX10_late := goodIn_ca (goodIn_r _ [59, 7, 8, 9, 5, 10, 11, 12, 13, 14, 15, 16, 17, 18, 19, 20, 21, 22, 23, 24, 25, 26, 27, 28, 29, 30, 31, 32, 33, 34, 35, 36, 37, 38, 39, 40, 41, 42, 43, 230, 231, 232, 233, 234, 235, 236, 237, 238, 239, 240, 241, 273, 274, 275, 276, 277, 278, 279, 280, 281, 282, 283, 257, 258, 259, 260, 261, 262, 263, 264, 265, 266, 267, 268, 269, 270, 271, 272] (by decide +kernel) (by decide +kernel)) (goodIn_sub (fun _ h => List.mem_cons_of_mem _ (List.mem_append_left _ (List.mem_append_right _ h))) (by decide +kernel))
set_option maxRecDepth 20000 in
theorem gX10_digestOfStage_X10_late : GoodIn wsX10_digestOfStage (wsV RX10 320 RX10 yX10_late wsX10_late) := goodIn_app (goodIn_of _ (by decide +kernel)) ggX10_digestOfStage_X10_late
set_option maxRecDepth 20000 in
theorem ggX10_digestOfStage_X10_kept : GoodIn wsX10_digestOfStage wsX10_kept := goodIn_ca (goodIn_r _ [63, 7, 8, 9, 5, 10, 11, 12, 13, 14, 15, 16, 17, 18, 19, 20, 21, 22, 23, 24, 25, 26, 27, 28, 29, 30, 31, 32, 33, 34, 35, 36, 37, 38, 39, 40, 41, 42, 43, 64, 65, 66, 67, 68, 69, 70, 71, 72, 73, 74, 75, 76, 77, 78, 79, 80, 81, 82, 83, 84, 85, 86, 87, 88, 89, 90, 91, 92, 230, 231, 232, 233, 234, 235, 236, 237, 238, 239, 240, 241, 242, 243, 244, 245, 246, 247, 248, 249, 250, 251, 252, 253, 254, 255, 256, 257, 258, 259, 260, 261, 262, 263, 264, 265, 266, 267, 268, 269, 270, 271, 272, 273, 274, 275, 276, 277, 278, 279, 280, 281, 282, 283, 284, 285, 286, 287] (by decide +kernel) (by decide +kernel)) (goodIn_sub (fun _ h => List.mem_cons_of_mem _ (List.mem_append_left _ (List.mem_append_right _ h))) (by decide +kernel))
set_option maxRecDepth 20000 in
theorem gX10_digestOfStage_X10_kept : GoodIn wsX10_digestOfStage (wsV RX10 322 RX10 yX10_kept wsX10_kept) := goodIn_app (goodIn_of _ (by decide +kernel)) ggX10_digestOfStage_X10_kept
set_option maxRecDepth 20000 in
theorem ggX10_digestOfStage_X10_isReady : GoodIn wsX10_digestOfStage wsX10_isReady := goodIn_ca (goodIn_r _ [96, 13, 7, 8, 9, 5, 10, 11, 12, 14, 15, 16, 17, 18, 19, 20, 21, 22, 23, 24, 25, 26, 27, 28, 29, 30, 31, 32, 33, 34, 35, 36, 37, 38, 39, 40, 41, 42, 43, 97, 98, 99, 67, 100, 101, 102, 103, 104, 70, 105, 106, 107, 108, 109, 110, 111, 112, 113, 114, 72, 73, 74, 75, 76, 115, 116, 117, 118, 119, 120, 121, 122, 123, 124, 125, 126, 127, 65, 66, 68, 69, 71, 128, 129, 130, 131, 132, 133, 134, 135, 136, 137, 138, 139, 140, 257, 258, 259, 260, 261, 262, 263, 264, 265, 266, 267, 268, 269, 270, 271, 272, 230, 231, 232, 233, 234, 235, 236, 237, 238, 239, 240, 241, 242, 243, 244, 245, 246, 247, 248, 249, 250, 251, 252, 253, 254, 255, 256, 273, 274, 275, 276, 277, 278, 279, 280, 281, 282, 283, 288, 289, 284, 285, 290, 291, 292] (by decide +kernel) (by decide +kernel)) (goodIn_sub (fun _ h => List.mem_cons_of_mem _ (List.mem_append_left _ (List.mem_append_right _ h))) (by decide +kernel))
set_option maxRecDepth 20000 in
theorem gX10_digestOfStage_X10_isReady : GoodIn wsX10_digestOfStage (wsV RX10 325 RX10 yX10_isReady wsX10_isReady) := goodIn_app (goodIn_of _ (by decide +kernel)) ggX10_digestOfStage_X10_isReady
set_option maxRecDepth 20000 in
theorem ggX10_digestOfStage_X10_bit : GoodIn wsX10_digestOfStage wsX10_bit := goodIn_r _ [143] (by decide +kernel) (by decide +kernel)
set_option maxRecDepth 20000 in
theorem gX10_digestOfStage_X10_bit : GoodIn wsX10_digestOfStage (va_wsS RX10 284 yX10_bit wsX10_bit) := goodIn_app (goodIn_of _ (by decide +kernel)) ggX10_digestOfStage_X10_bit
set_option maxRecDepth 20000 in
theorem ggX10_digestOfStage_X10_hasRoom : GoodIn wsX10_digestOfStage wsX10_hasRoom := goodIn_ca (goodIn_r _ [147, 13, 7, 8, 9, 5, 10, 11, 12, 14, 15, 16, 17, 18, 19, 20, 21, 22, 23, 24, 25, 26, 27, 28, 29, 30, 31, 32, 33, 34, 35, 36, 37, 38, 39, 40, 41, 42, 43, 148, 109, 110, 111, 112, 113, 114, 72, 73, 74, 75, 76, 115, 116, 117, 118, 119, 120, 121, 122, 123, 124, 125, 126, 230, 231, 232, 233, 234, 235, 236, 237, 238, 239, 240, 241, 257, 258, 259, 260, 261, 262, 263, 264, 265, 266, 267, 268, 269, 270, 271, 272, 288, 289, 284, 285, 290, 291, 292] (by decide +kernel) (by decide +kernel)) (goodIn_sub (fun _ h => List.mem_cons_of_mem _ (List.mem_append_left _ (List.mem_append_right _ h))) (by decide +kernel))
set_option maxRecDepth 20000 in
theorem gX10_digestOfStage_X10_hasRoom : GoodIn wsX10_digestOfStage (wsV RX10 328 RX10 yX10_hasRoom wsX10_hasRoom) := goodIn_app (goodIn_of _ (by decide +kernel)) ggX10_digestOfStage_X10_hasRoom
set_option maxRecDepth 20000 in
theorem ggX10_digestOfStage_X10_queued : GoodIn wsX10_digestOfStage wsX10_queued := goodIn_ca (goodIn_r _ [152, 7, 8, 9, 5, 10, 11, 12, 13, 14, 15, 16, 17, 18, 19, 20, 21, 22, 23, 24, 25, 26, 27, 28, 29, 30, 31, 32, 33, 34, 35, 36, 37, 38, 39, 40, 41, 42, 43, 153, 154, 155, 67, 156, 107, 106, 157, 135, 136, 131, 137, 138, 139, 140, 72, 73, 74, 75, 76, 257, 258, 259, 260, 261, 262, 263, 264, 265, 266, 267, 268, 269, 270, 271, 272, 230, 231, 232, 233, 234, 235, 236, 237, 238, 239, 240, 241, 290, 291, 292, 284, 285] (by decide +kernel) (by decide +kernel)) (goodIn_sub (fun _ h => List.mem_cons_of_mem _ (List.mem_append_left _ (List.mem_append_right _ h))) (by decide +kernel))
set_option maxRecDepth 20000 in
theorem gX10_digestOfStage_X10_queued : GoodIn wsX10_digestOfStage (wsV RX10 331 RX10 yX10_queued wsX10_queued) := goodIn_app (goodIn_of _ (by decide +kernel)) ggX10_digestOfStage_X10_queued
set_option maxRecDepth 20000 in
theorem ggX10_digestOfStage_X10_isBlocked : GoodIn wsX10_digestOfStage wsX10_isBlocked := goodIn_ca (goodIn_r _ [161, 7, 8, 9, 5, 10, 11, 12, 13, 14, 15, 16, 17, 18, 19, 20, 21, 22, 23, 24, 25, 26, 27, 28, 29, 30, 31, 32, 33, 34, 35, 36, 37, 38, 39, 40, 41, 42, 43, 153, 154, 155, 67, 156, 107, 106, 290, 291, 292, 257, 258, 259, 260, 261, 262, 263, 264, 265, 266, 267, 268, 269, 270, 271, 272, 230, 231, 232, 233, 234, 235, 236, 237, 238, 239, 240, 241] (by decide +kernel) (by decide +kernel)) (goodIn_sub (fun _ h => List.mem_cons_of_mem _ (List.mem_append_left _ (List.mem_append_right _ h))) (by decide +kernel))
set_option maxRecDepth 20000 in
theorem gX10_digestOfStage_X10_isBlocked : GoodIn wsX10_digestOfStage (wsV RX10 335 RX10 yX10_isBlocked wsX10_isBlocked) := goodIn_app (goodIn_of _ (by decide +kernel)) ggX10_digestOfStage_X10_isBlocked
set_option maxRecDepth 20000 in
theorem ggX10_digestOfStage_X10_depthOf : GoodIn wsX10_digestOfStage wsX10_depthOf := goodIn_ca (goodIn_r _ [165, 7, 8, 9, 5, 10, 11, 12, 13, 14, 15, 16, 17, 18, 19, 20, 21, 22, 23, 24, 25, 26, 27, 28, 29, 30, 31, 32, 33, 34, 35, 36, 37, 38, 39, 40, 41, 42, 43, 230, 231, 232, 233, 234, 235, 236, 237, 238, 239, 240, 241, 242, 243, 244, 245, 246, 247, 248, 249, 250, 251, 252, 253, 254, 255, 256, 257, 258, 259, 260, 261, 262, 263, 264, 265, 266, 267, 268, 269, 270, 271, 272] (by decide +kernel) (by decide +kernel)) (goodIn_sub (fun _ h => List.mem_cons_of_mem _ (List.mem_append_left _ (List.mem_append_right _ h))) (by decide +kernel))
set_option maxRecDepth 20000 in
theorem gX10_digestOfStage_X10_depthOf : GoodIn wsX10_digestOfStage (wsV RX10 339 RX10 yX10_depthOf wsX10_depthOf) := goodIn_app (goodIn_of _ (by decide +kernel)) ggX10_digestOfStage_X10_depthOf
set_option maxRecDepth 20000 in
theorem ggX10_digestOfStage_X10_nextEnd : GoodIn wsX10_digestOfStage wsX10_nextEnd := goodIn_ca (goodIn_ca (goodIn_r _ [169, 170, 171, 172, 5, 173, 7, 8, 9, 10, 11, 12, 13, 14, 15, 16, 17, 18, 19, 20, 21, 22, 23, 24, 25, 26, 27, 28, 29, 30, 31, 32, 33, 34, 35, 36, 37, 38, 39, 40, 41, 42, 43, 174, 175, 176, 177, 178, 179, 180, 181, 88, 182, 183, 184, 185, 186, 90, 91, 72, 73, 74, 75, 76, 187, 188, 189, 190, 191, 192, 86, 87, 89, 193, 194, 195, 196, 230, 231, 232, 233, 234, 235, 236, 237, 238, 239, 240, 241, 273, 274, 275, 276, 277, 278, 279, 280, 281, 282, 283, 242, 243, 244, 245, 246, 247, 248, 249, 250, 251, 252, 253, 254, 255, 256, 257, 258, 259, 260, 261, 262, 263, 264, 265, 266, 267, 268, 269, 270, 271, 272, 286, 287, 284, 285] (by decide +kernel) (by decide +kernel)) (goodIn_sub (fun _ h => List.mem_cons_of_mem _ (List.mem_append_left _ (List.mem_append_right _ h))) (by decide +kernel))) (goodIn_sub (fun _ h => List.mem_cons_of_mem _ (List.mem_append_right _ h)) (by decide +kernel))
set_option maxRecDepth 20000 in
theorem gX10_digestOfStage_X10_nextEnd : GoodIn wsX10_digestOfStage (wsV RX10 342 RX10 yX10_nextEnd wsX10_nextEnd) := goodIn_app (goodIn_of _ (by decide +kernel)) ggX10_digestOfStage_X10_nextEnd
set_option maxRecDepth 20000 in
theorem ggX10_digestOfStage_X10_digestOfOutput : GoodIn wsX10_digestOfStage wsX10_digestOfOutput := goodIn_ca (goodIn_ca (goodIn_r _ [200, 1, 201, 202, 203, 5, 204, 205, 206, 207, 208, 7, 8, 9, 10, 11, 12, 13, 14, 15, 16, 17, 18, 19, 20, 21, 22, 23, 24, 25, 26, 27, 28, 29, 30, 31, 32, 33, 34, 35, 36, 37, 38, 39, 40, 41, 42, 43, 174, 175, 176, 177, 178, 209, 210, 211, 212, 213, 214, 215, 216, 217, 188, 189, 74, 190, 76, 191, 218, 219, 220, 221, 222, 223, 224, 225, 226, 227, 228, 229, 230, 231, 232, 233, 234, 235, 236, 237, 238, 239, 240, 241, 273, 274, 275, 276, 277, 278, 279, 280, 281, 282, 283, 242, 243, 244, 245, 246, 247, 248, 249, 250, 251, 252, 253, 254, 255, 256, 257, 258, 259, 260, 261, 262, 263, 264, 265, 266, 267, 268, 269, 270, 271, 272, 284, 285] (by decide +kernel) (by decide +kernel)) (goodIn_sub (fun _ h => List.mem_cons_of_mem _ (List.mem_append_left _ (List.mem_append_right _ h))) (by decide +kernel))) (goodIn_sub (fun _ h => List.mem_cons_of_mem _ (List.mem_append_right _ h)) (by decide +kernel))
set_option maxRecDepth 20000 in
theorem gX10_digestOfStage_X10_digestOfOutput : GoodIn wsX10_digestOfStage (wsV RX10 345 RX10 yX10_digestOfOutput wsX10_digestOfOutput) := goodIn_app (goodIn_of _ (by decide +kernel)) ggX10_digestOfStage_X10_digestOfOutput
theorem dX10_digestOfStage_0 : decode cX10_digestOfStage 0 = .ok (.lload_n 1, 1) := by decide +kernel
theorem dX10_digestOfStage_1 : decode cX10_digestOfStage 1 = .ok (.lstore 4, 2) := by decide +kernel
theorem dX10_digestOfStage_3 : decode cX10_digestOfStage 3 = .ok (.lload 4, 2) := by decide +kernel
theorem dX10_digestOfStage_5 : decode cX10_digestOfStage 5 = .ok (.ldc2_w 275, 3) := by decide +kernel
theorem dX10_digestOfStage_8 : decode cX10_digestOfStage 8 = .ok (.lmul, 1) := by decide +kernel
theorem dX10_digestOfStage_9 : decode cX10_digestOfStage 9 = .ok (.aload_n 0, 1) := by decide +kernel
theorem dX10_digestOfStage_10 : decode cX10_digestOfStage 10 = .ok (.iload_n 3, 1) := by decide +kernel
theorem dX10_digestOfStage_11 : decode cX10_digestOfStage 11 = .ok (.invokevirtual 310, 3) := by decide +kernel
theorem dX10_digestOfStage_14 : decode cX10_digestOfStage 14 = .ok (.i2l, 1) := by decide +kernel
theorem dX10_digestOfStage_15 : decode cX10_digestOfStage 15 = .ok (.ladd, 1) := by decide +kernel
theorem dX10_digestOfStage_16 : decode cX10_digestOfStage 16 = .ok (.lstore 4, 2) := by decide +kernel
theorem dX10_digestOfStage_18 : decode cX10_digestOfStage 18 = .ok (.lload 4, 2) := by decide +kernel
theorem dX10_digestOfStage_20 : decode cX10_digestOfStage 20 = .ok (.ldc2_w 275, 3) := by decide +kernel
theorem dX10_digestOfStage_23 : decode cX10_digestOfStage 23 = .ok (.lmul, 1) := by decide +kernel
theorem dX10_digestOfStage_24 : decode cX10_digestOfStage 24 = .ok (.aload_n 0, 1) := by decide +kernel
theorem dX10_digestOfStage_25 : decode cX10_digestOfStage 25 = .ok (.iload_n 3, 1) := by decide +kernel
theorem dX10_digestOfStage_26 : decode cX10_digestOfStage 26 = .ok (.invokevirtual 313, 3) := by decide +kernel
theorem dX10_digestOfStage_29 : decode cX10_digestOfStage 29 = .ok (.i2l, 1) := by decide +kernel
theorem dX10_digestOfStage_30 : decode cX10_digestOfStage 30 = .ok (.ladd, 1) := by decide +kernel
theorem dX10_digestOfStage_31 : decode cX10_digestOfStage 31 = .ok (.lstore 4, 2) := by decide +kernel
theorem dX10_digestOfStage_33 : decode cX10_digestOfStage 33 = .ok (.lload 4, 2) := by decide +kernel
theorem dX10_digestOfStage_35 : decode cX10_digestOfStage 35 = .ok (.ldc2_w 275, 3) := by decide +kernel
theorem dX10_digestOfStage_38 : decode cX10_digestOfStage 38 = .ok (.lmul, 1) := by decide +kernel
theorem dX10_digestOfStage_39 : decode cX10_digestOfStage 39 = .ok (.aload_n 0, 1) := by decide +kernel
theorem dX10_digestOfStage_40 : decode cX10_digestOfStage 40 = .ok (.iload_n 3, 1) := by decide +kernel
theorem dX10_digestOfStage_41 : decode cX10_digestOfStage 41 = .ok (.invokevirtual 316, 3) := by decide +kernel
theorem dX10_digestOfStage_44 : decode cX10_digestOfStage 44 = .ok (.i2l, 1) := by decide +kernel
theorem dX10_digestOfStage_45 : decode cX10_digestOfStage 45 = .ok (.ladd, 1) := by decide +kernel
theorem dX10_digestOfStage_46 : decode cX10_digestOfStage 46 = .ok (.lstore 4, 2) := by decide +kernel
theorem dX10_digestOfStage_48 : decode cX10_digestOfStage 48 = .ok (.lload 4, 2) := by decide +kernel
theorem dX10_digestOfStage_50 : decode cX10_digestOfStage 50 = .ok (.ldc2_w 275, 3) := by decide +kernel
theorem dX10_digestOfStage_53 : decode cX10_digestOfStage 53 = .ok (.lmul, 1) := by decide +kernel
theorem dX10_digestOfStage_54 : decode cX10_digestOfStage 54 = .ok (.aload_n 0, 1) := by decide +kernel
theorem dX10_digestOfStage_55 : decode cX10_digestOfStage 55 = .ok (.iload_n 3, 1) := by decide +kernel
theorem dX10_digestOfStage_56 : decode cX10_digestOfStage 56 = .ok (.invokevirtual 318, 3) := by decide +kernel
theorem dX10_digestOfStage_59 : decode cX10_digestOfStage 59 = .ok (.i2l, 1) := by decide +kernel
theorem dX10_digestOfStage_60 : decode cX10_digestOfStage 60 = .ok (.ladd, 1) := by decide +kernel
theorem dX10_digestOfStage_61 : decode cX10_digestOfStage 61 = .ok (.lstore 4, 2) := by decide +kernel
theorem dX10_digestOfStage_63 : decode cX10_digestOfStage 63 = .ok (.lload 4, 2) := by decide +kernel
theorem dX10_digestOfStage_65 : decode cX10_digestOfStage 65 = .ok (.ldc2_w 275, 3) := by decide +kernel
theorem dX10_digestOfStage_68 : decode cX10_digestOfStage 68 = .ok (.lmul, 1) := by decide +kernel
theorem dX10_digestOfStage_69 : decode cX10_digestOfStage 69 = .ok (.aload_n 0, 1) := by decide +kernel
theorem dX10_digestOfStage_70 : decode cX10_digestOfStage 70 = .ok (.iload_n 3, 1) := by decide +kernel
theorem dX10_digestOfStage_71 : decode cX10_digestOfStage 71 = .ok (.invokevirtual 320, 3) := by decide +kernel
theorem dX10_digestOfStage_74 : decode cX10_digestOfStage 74 = .ok (.i2l, 1) := by decide +kernel
theorem dX10_digestOfStage_75 : decode cX10_digestOfStage 75 = .ok (.ladd, 1) := by decide +kernel
theorem dX10_digestOfStage_76 : decode cX10_digestOfStage 76 = .ok (.lstore 4, 2) := by decide +kernel
theorem dX10_digestOfStage_78 : decode cX10_digestOfStage 78 = .ok (.lload 4, 2) := by decide +kernel
theorem dX10_digestOfStage_80 : decode cX10_digestOfStage 80 = .ok (.ldc2_w 275, 3) := by decide +kernel
theorem dX10_digestOfStage_83 : decode cX10_digestOfStage 83 = .ok (.lmul, 1) := by decide +kernel
theorem dX10_digestOfStage_84 : decode cX10_digestOfStage 84 = .ok (.aload_n 0, 1) := by decide +kernel
theorem dX10_digestOfStage_85 : decode cX10_digestOfStage 85 = .ok (.iload_n 3, 1) := by decide +kernel
theorem dX10_digestOfStage_86 : decode cX10_digestOfStage 86 = .ok (.invokevirtual 322, 3) := by decide +kernel
theorem dX10_digestOfStage_89 : decode cX10_digestOfStage 89 = .ok (.i2l, 1) := by decide +kernel
theorem dX10_digestOfStage_90 : decode cX10_digestOfStage 90 = .ok (.ladd, 1) := by decide +kernel
theorem dX10_digestOfStage_91 : decode cX10_digestOfStage 91 = .ok (.lstore 4, 2) := by decide +kernel
theorem dX10_digestOfStage_93 : decode cX10_digestOfStage 93 = .ok (.lload 4, 2) := by decide +kernel
theorem dX10_digestOfStage_95 : decode cX10_digestOfStage 95 = .ok (.ldc2_w 275, 3) := by decide +kernel
theorem dX10_digestOfStage_98 : decode cX10_digestOfStage 98 = .ok (.lmul, 1) := by decide +kernel
theorem dX10_digestOfStage_99 : decode cX10_digestOfStage 99 = .ok (.aload_n 0, 1) := by decide +kernel
theorem dX10_digestOfStage_100 : decode cX10_digestOfStage 100 = .ok (.iload_n 3, 1) := by decide +kernel
theorem dX10_digestOfStage_101 : decode cX10_digestOfStage 101 = .ok (.invokevirtual 325, 3) := by decide +kernel
theorem dX10_digestOfStage_104 : decode cX10_digestOfStage 104 = .ok (.invokestatic 284, 3) := by decide +kernel
theorem dX10_digestOfStage_107 : decode cX10_digestOfStage 107 = .ok (.i2l, 1) := by decide +kernel
theorem dX10_digestOfStage_108 : decode cX10_digestOfStage 108 = .ok (.ladd, 1) := by decide +kernel
theorem dX10_digestOfStage_109 : decode cX10_digestOfStage 109 = .ok (.lstore 4, 2) := by decide +kernel
theorem dX10_digestOfStage_111 : decode cX10_digestOfStage 111 = .ok (.lload 4, 2) := by decide +kernel
theorem dX10_digestOfStage_113 : decode cX10_digestOfStage 113 = .ok (.ldc2_w 275, 3) := by decide +kernel
theorem dX10_digestOfStage_116 : decode cX10_digestOfStage 116 = .ok (.lmul, 1) := by decide +kernel
theorem dX10_digestOfStage_117 : decode cX10_digestOfStage 117 = .ok (.aload_n 0, 1) := by decide +kernel
theorem dX10_digestOfStage_118 : decode cX10_digestOfStage 118 = .ok (.iload_n 3, 1) := by decide +kernel
theorem dX10_digestOfStage_119 : decode cX10_digestOfStage 119 = .ok (.invokevirtual 328, 3) := by decide +kernel
theorem dX10_digestOfStage_122 : decode cX10_digestOfStage 122 = .ok (.invokestatic 284, 3) := by decide +kernel
theorem dX10_digestOfStage_125 : decode cX10_digestOfStage 125 = .ok (.i2l, 1) := by decide +kernel
theorem dX10_digestOfStage_126 : decode cX10_digestOfStage 126 = .ok (.ladd, 1) := by decide +kernel
theorem dX10_digestOfStage_127 : decode cX10_digestOfStage 127 = .ok (.lstore 4, 2) := by decide +kernel
theorem dX10_digestOfStage_129 : decode cX10_digestOfStage 129 = .ok (.lload 4, 2) := by decide +kernel
theorem dX10_digestOfStage_131 : decode cX10_digestOfStage 131 = .ok (.ldc2_w 275, 3) := by decide +kernel
theorem dX10_digestOfStage_134 : decode cX10_digestOfStage 134 = .ok (.lmul, 1) := by decide +kernel
theorem dX10_digestOfStage_135 : decode cX10_digestOfStage 135 = .ok (.aload_n 0, 1) := by decide +kernel
theorem dX10_digestOfStage_136 : decode cX10_digestOfStage 136 = .ok (.iload_n 3, 1) := by decide +kernel
theorem dX10_digestOfStage_137 : decode cX10_digestOfStage 137 = .ok (.iconst 0, 1) := by decide +kernel
theorem dX10_digestOfStage_138 : decode cX10_digestOfStage 138 = .ok (.invokevirtual 331, 3) := by decide +kernel
theorem dX10_digestOfStage_141 : decode cX10_digestOfStage 141 = .ok (.i2l, 1) := by decide +kernel
theorem dX10_digestOfStage_142 : decode cX10_digestOfStage 142 = .ok (.ladd, 1) := by decide +kernel
theorem dX10_digestOfStage_143 : decode cX10_digestOfStage 143 = .ok (.lstore 4, 2) := by decide +kernel
theorem dX10_digestOfStage_145 : decode cX10_digestOfStage 145 = .ok (.lload 4, 2) := by decide +kernel
theorem dX10_digestOfStage_147 : decode cX10_digestOfStage 147 = .ok (.ldc2_w 275, 3) := by decide +kernel
theorem dX10_digestOfStage_150 : decode cX10_digestOfStage 150 = .ok (.lmul, 1) := by decide +kernel
theorem dX10_digestOfStage_151 : decode cX10_digestOfStage 151 = .ok (.aload_n 0, 1) := by decide +kernel
theorem dX10_digestOfStage_152 : decode cX10_digestOfStage 152 = .ok (.iload_n 3, 1) := by decide +kernel
theorem dX10_digestOfStage_153 : decode cX10_digestOfStage 153 = .ok (.iconst 0, 1) := by decide +kernel
theorem dX10_digestOfStage_154 : decode cX10_digestOfStage 154 = .ok (.invokevirtual 335, 3) := by decide +kernel
theorem dX10_digestOfStage_157 : decode cX10_digestOfStage 157 = .ok (.invokestatic 284, 3) := by decide +kernel
theorem dX10_digestOfStage_160 : decode cX10_digestOfStage 160 = .ok (.i2l, 1) := by decide +kernel
theorem dX10_digestOfStage_161 : decode cX10_digestOfStage 161 = .ok (.ladd, 1) := by decide +kernel
theorem dX10_digestOfStage_162 : decode cX10_digestOfStage 162 = .ok (.lstore 4, 2) := by decide +kernel
theorem dX10_digestOfStage_164 : decode cX10_digestOfStage 164 = .ok (.lload 4, 2) := by decide +kernel
theorem dX10_digestOfStage_166 : decode cX10_digestOfStage 166 = .ok (.ldc2_w 275, 3) := by decide +kernel
theorem dX10_digestOfStage_169 : decode cX10_digestOfStage 169 = .ok (.lmul, 1) := by decide +kernel
theorem dX10_digestOfStage_170 : decode cX10_digestOfStage 170 = .ok (.aload_n 0, 1) := by decide +kernel
theorem dX10_digestOfStage_171 : decode cX10_digestOfStage 171 = .ok (.iload_n 3, 1) := by decide +kernel
theorem dX10_digestOfStage_172 : decode cX10_digestOfStage 172 = .ok (.iconst 1, 1) := by decide +kernel
theorem dX10_digestOfStage_173 : decode cX10_digestOfStage 173 = .ok (.invokevirtual 331, 3) := by decide +kernel
theorem dX10_digestOfStage_176 : decode cX10_digestOfStage 176 = .ok (.i2l, 1) := by decide +kernel
theorem dX10_digestOfStage_177 : decode cX10_digestOfStage 177 = .ok (.ladd, 1) := by decide +kernel
theorem dX10_digestOfStage_178 : decode cX10_digestOfStage 178 = .ok (.lstore 4, 2) := by decide +kernel
theorem dX10_digestOfStage_180 : decode cX10_digestOfStage 180 = .ok (.lload 4, 2) := by decide +kernel
theorem dX10_digestOfStage_182 : decode cX10_digestOfStage 182 = .ok (.ldc2_w 275, 3) := by decide +kernel
theorem dX10_digestOfStage_185 : decode cX10_digestOfStage 185 = .ok (.lmul, 1) := by decide +kernel
theorem dX10_digestOfStage_186 : decode cX10_digestOfStage 186 = .ok (.aload_n 0, 1) := by decide +kernel
theorem dX10_digestOfStage_187 : decode cX10_digestOfStage 187 = .ok (.iload_n 3, 1) := by decide +kernel
theorem dX10_digestOfStage_188 : decode cX10_digestOfStage 188 = .ok (.iconst 1, 1) := by decide +kernel
theorem dX10_digestOfStage_189 : decode cX10_digestOfStage 189 = .ok (.invokevirtual 335, 3) := by decide +kernel
theorem dX10_digestOfStage_192 : decode cX10_digestOfStage 192 = .ok (.invokestatic 284, 3) := by decide +kernel
theorem dX10_digestOfStage_195 : decode cX10_digestOfStage 195 = .ok (.i2l, 1) := by decide +kernel
theorem dX10_digestOfStage_196 : decode cX10_digestOfStage 196 = .ok (.ladd, 1) := by decide +kernel
theorem dX10_digestOfStage_197 : decode cX10_digestOfStage 197 = .ok (.lstore 4, 2) := by decide +kernel
theorem dX10_digestOfStage_199 : decode cX10_digestOfStage 199 = .ok (.lload 4, 2) := by decide +kernel
theorem dX10_digestOfStage_201 : decode cX10_digestOfStage 201 = .ok (.ldc2_w 275, 3) := by decide +kernel
theorem dX10_digestOfStage_204 : decode cX10_digestOfStage 204 = .ok (.lmul, 1) := by decide +kernel
theorem dX10_digestOfStage_205 : decode cX10_digestOfStage 205 = .ok (.aload_n 0, 1) := by decide +kernel
theorem dX10_digestOfStage_206 : decode cX10_digestOfStage 206 = .ok (.iload_n 3, 1) := by decide +kernel
theorem dX10_digestOfStage_207 : decode cX10_digestOfStage 207 = .ok (.invokevirtual 339, 3) := by decide +kernel
theorem dX10_digestOfStage_210 : decode cX10_digestOfStage 210 = .ok (.i2l, 1) := by decide +kernel
theorem dX10_digestOfStage_211 : decode cX10_digestOfStage 211 = .ok (.ladd, 1) := by decide +kernel
theorem dX10_digestOfStage_212 : decode cX10_digestOfStage 212 = .ok (.lstore 4, 2) := by decide +kernel
theorem dX10_digestOfStage_214 : decode cX10_digestOfStage 214 = .ok (.aload_n 0, 1) := by decide +kernel
theorem dX10_digestOfStage_215 : decode cX10_digestOfStage 215 = .ok (.iload_n 3, 1) := by decide +kernel
theorem dX10_digestOfStage_216 : decode cX10_digestOfStage 216 = .ok (.invokevirtual 310, 3) := by decide +kernel
theorem dX10_digestOfStage_219 : decode cX10_digestOfStage 219 = .ok (.istore 6, 2) := by decide +kernel
theorem dX10_digestOfStage_221 : decode cX10_digestOfStage 221 = .ok (.iload 6, 2) := by decide +kernel
theorem dX10_digestOfStage_223 : decode cX10_digestOfStage 223 = .ok (.iconst 3, 1) := by decide +kernel
theorem dX10_digestOfStage_224 : decode cX10_digestOfStage 224 = .ok (.if_icmp .eq 9, 3) := by decide +kernel
theorem dX10_digestOfStage_227 : decode cX10_digestOfStage 227 = .ok (.iload 6, 2) := by decide +kernel
theorem dX10_digestOfStage_229 : decode cX10_digestOfStage 229 = .ok (.iconst 4, 1) := by decide +kernel
theorem dX10_digestOfStage_230 : decode cX10_digestOfStage 230 = .ok (.if_icmp .ne 18, 3) := by decide +kernel
theorem dX10_digestOfStage_233 : decode cX10_digestOfStage 233 = .ok (.lload 4, 2) := by decide +kernel
theorem dX10_digestOfStage_235 : decode cX10_digestOfStage 235 = .ok (.ldc2_w 275, 3) := by decide +kernel
theorem dX10_digestOfStage_238 : decode cX10_digestOfStage 238 = .ok (.lmul, 1) := by decide +kernel
theorem dX10_digestOfStage_239 : decode cX10_digestOfStage 239 = .ok (.aload_n 0, 1) := by decide +kernel
theorem dX10_digestOfStage_240 : decode cX10_digestOfStage 240 = .ok (.iload_n 3, 1) := by decide +kernel
theorem dX10_digestOfStage_241 : decode cX10_digestOfStage 241 = .ok (.invokevirtual 342, 3) := by decide +kernel
theorem dX10_digestOfStage_244 : decode cX10_digestOfStage 244 = .ok (.i2l, 1) := by decide +kernel
theorem dX10_digestOfStage_245 : decode cX10_digestOfStage 245 = .ok (.ladd, 1) := by decide +kernel
theorem dX10_digestOfStage_246 : decode cX10_digestOfStage 246 = .ok (.lstore 4, 2) := by decide +kernel
theorem dX10_digestOfStage_248 : decode cX10_digestOfStage 248 = .ok (.iload 6, 2) := by decide +kernel
theorem dX10_digestOfStage_250 : decode cX10_digestOfStage 250 = .ok (.bipush 7, 2) := by decide +kernel
theorem dX10_digestOfStage_252 : decode cX10_digestOfStage 252 = .ok (.if_icmp .ne 13, 3) := by decide +kernel
theorem dX10_digestOfStage_255 : decode cX10_digestOfStage 255 = .ok (.aload_n 0, 1) := by decide +kernel
theorem dX10_digestOfStage_256 : decode cX10_digestOfStage 256 = .ok (.lload 4, 2) := by decide +kernel
theorem dX10_digestOfStage_258 : decode cX10_digestOfStage 258 = .ok (.iload_n 3, 1) := by decide +kernel
theorem dX10_digestOfStage_259 : decode cX10_digestOfStage 259 = .ok (.invokevirtual 345, 3) := by decide +kernel
theorem dX10_digestOfStage_262 : decode cX10_digestOfStage 262 = .ok (.goto 5, 3) := by decide +kernel
theorem dX10_digestOfStage_265 : decode cX10_digestOfStage 265 = .ok (.lload 4, 2) := by decide +kernel
theorem dX10_digestOfStage_267 : decode cX10_digestOfStage 267 = .ok (.lreturn, 1) := by decide +kernel
set_option maxRecDepth 20000 in
theorem ggX10_digestOfOutput_X10_outputs : GoodIn wsX10_digestOfOutput wsX10_outputs := goodIn_ca (goodIn_ca (goodIn_r _ [6, 7, 8, 9, 5, 10, 11, 12, 13, 14, 15, 16, 17, 18, 19, 20, 21, 22, 23, 24, 25, 26, 27, 28, 29, 30, 31, 32, 33, 34, 35, 36, 37, 38, 39, 40, 41, 42, 43, 44, 45, 46, 47, 48, 49, 50, 51, 52, 80, 81, 82, 83, 84, 85, 86, 87, 88, 89, 90, 91, 92, 93, 94, 95, 96, 97, 98, 99, 100, 101, 102, 103, 104, 105, 106, 107, 108, 109, 110, 111, 112, 113, 114, 115, 116, 117, 118, 119, 120, 121, 122, 123, 124, 125, 126, 127, 128, 129, 130, 131, 132, 133] (by decide +kernel) (by decide +kernel)) (goodIn_sub (fun _ h => List.mem_cons_of_mem _ (List.mem_append_left _ (List.mem_append_right _ h))) (by decide +kernel))) (goodIn_sub (fun _ h => List.mem_cons_of_mem _ (List.mem_append_right _ h)) (by decide +kernel))
set_option maxRecDepth 20000 in
theorem gX10_digestOfOutput_X10_outputs : GoodIn wsX10_digestOfOutput (wsV RX10 348 RX10 yX10_outputs wsX10_outputs) := goodIn_app (goodIn_of _ (by decide +kernel)) ggX10_digestOfOutput_X10_outputs
set_option maxRecDepth 20000 in
theorem ggX10_digestOfOutput_X10_committed : GoodIn wsX10_digestOfOutput wsX10_committed := goodIn_ca (goodIn_ca (goodIn_r _ [56, 7, 8, 9, 5, 10, 11, 12, 13, 14, 15, 16, 17, 18, 19, 20, 21, 22, 23, 24, 25, 26, 27, 28, 29, 30, 31, 32, 33, 34, 35, 36, 37, 38, 39, 40, 41, 42, 43, 44, 45, 46, 47, 48, 49, 50, 51, 52, 80, 81, 82, 83, 84, 85, 86, 87, 88, 89, 90, 91, 92, 93, 94, 95, 96, 97, 98, 99, 100, 101, 102, 103, 104, 105, 106, 107, 108, 109, 110, 111, 112, 113, 114, 115, 116, 117, 118, 119, 120, 121, 122, 123, 124, 125, 126, 127, 128, 129, 130, 131, 132, 133] (by decide +kernel) (by decide +kernel)) (goodIn_sub (fun _ h => List.mem_cons_of_mem _ (List.mem_append_left _ (List.mem_append_right _ h))) (by decide +kernel))) (goodIn_sub (fun _ h => List.mem_cons_of_mem _ (List.mem_append_right _ h)) (by decide +kernel))
set_option maxRecDepth 20000 in
theorem gX10_digestOfOutput_X10_committed : GoodIn wsX10_digestOfOutput (wsV RX10 351 RX10 yX10_committed wsX10_committed) := goodIn_app (goodIn_of _ (by decide +kernel)) ggX10_digestOfOutput_X10_committed
set_option maxRecDepth 20000 in
theorem ggX10_digestOfOutput_X10_outputAt : GoodIn wsX10_digestOfOutput wsX10_outputAt := goodIn_ca (goodIn_ca (goodIn_r _ [60, 7, 8, 9, 5, 10, 11, 12, 13, 14, 15, 16, 17, 18, 19, 20, 21, 22, 23, 24, 25, 26, 27, 28, 29, 30, 31, 32, 33, 34, 35, 36, 37, 38, 39, 40, 41, 42, 43, 44, 45, 46, 47, 48, 49, 50, 51, 52, 61, 62, 63, 64, 65, 66, 67, 80, 81, 82, 83, 84, 85, 86, 87, 88, 89, 90, 91, 92, 93, 94, 95, 96, 97, 98, 99, 100, 101, 102, 103, 104, 105, 106, 107, 108, 109, 110, 111, 112, 113, 114, 115, 116, 117, 118, 119, 120, 121, 122, 123, 124, 125, 126, 127, 128, 129, 130, 131, 132, 133, 134, 135] (by decide +kernel) (by decide +kernel)) (goodIn_sub (fun _ h => List.mem_cons_of_mem _ (List.mem_append_left _ (List.mem_append_right _ h))) (by decide +kernel))) (goodIn_sub (fun _ h => List.mem_cons_of_mem _ (List.mem_append_right _ h)) (by decide +kernel))
set_option maxRecDepth 20000 in
theorem gX10_digestOfOutput_X10_outputAt : GoodIn wsX10_digestOfOutput (wsV RX10 243 RX10 yX10_outputAt wsX10_outputAt) := goodIn_app (goodIn_of _ (by decide +kernel)) ggX10_digestOfOutput_X10_outputAt
set_option maxRecDepth 20000 in
theorem ggX10_digestOfOutput_X3_key : GoodIn wsX10_digestOfOutput wsX3_key := goodIn_r _ [71, 72] (by decide +kernel) (by decide +kernel)
set_option maxRecDepth 20000 in
theorem gX10_digestOfOutput_X3_key : GoodIn wsX10_digestOfOutput (va_wsS RX10 247 yX3_key wsX3_key) := goodIn_app (goodIn_of _ (by decide +kernel)) ggX10_digestOfOutput_X3_key
set_option maxRecDepth 20000 in
theorem ggX10_digestOfOutput_X3_value : GoodIn wsX10_digestOfOutput wsX3_value := goodIn_r _ [75] (by decide +kernel) (by decide +kernel)
set_option maxRecDepth 20000 in
theorem gX10_digestOfOutput_X3_value : GoodIn wsX10_digestOfOutput (va_wsS RX10 251 yX3_value wsX3_value) := goodIn_app (goodIn_of _ (by decide +kernel)) ggX10_digestOfOutput_X3_value
set_option maxRecDepth 20000 in
theorem ggX10_digestOfOutput_X3_time : GoodIn wsX10_digestOfOutput wsX3_time := goodIn_r _ [78, 79] (by decide +kernel) (by decide +kernel)
set_option maxRecDepth 20000 in
theorem gX10_digestOfOutput_X3_time : GoodIn wsX10_digestOfOutput (va_wsS RX10 254 yX3_time wsX3_time) := goodIn_app (goodIn_of _ (by decide +kernel)) ggX10_digestOfOutput_X3_time
theorem dX10_digestOfOutput_0 : decode cX10_digestOfOutput 0 = .ok (.lload_n 1, 1) := by decide +kernel
theorem dX10_digestOfOutput_1 : decode cX10_digestOfOutput 1 = .ok (.lstore 4, 2) := by decide +kernel
theorem dX10_digestOfOutput_3 : decode cX10_digestOfOutput 3 = .ok (.aload_n 0, 1) := by decide +kernel
theorem dX10_digestOfOutput_4 : decode cX10_digestOfOutput 4 = .ok (.iload_n 3, 1) := by decide +kernel
theorem dX10_digestOfOutput_5 : decode cX10_digestOfOutput 5 = .ok (.invokevirtual 348, 3) := by decide +kernel
theorem dX10_digestOfOutput_8 : decode cX10_digestOfOutput 8 = .ok (.istore 6, 2) := by decide +kernel
theorem dX10_digestOfOutput_10 : decode cX10_digestOfOutput 10 = .ok (.lload 4, 2) := by decide +kernel
theorem dX10_digestOfOutput_12 : decode cX10_digestOfOutput 12 = .ok (.ldc2_w 275, 3) := by decide +kernel
theorem dX10_digestOfOutput_15 : decode cX10_digestOfOutput 15 = .ok (.lmul, 1) := by decide +kernel
theorem dX10_digestOfOutput_16 : decode cX10_digestOfOutput 16 = .ok (.iload 6, 2) := by decide +kernel
theorem dX10_digestOfOutput_18 : decode cX10_digestOfOutput 18 = .ok (.i2l, 1) := by decide +kernel
theorem dX10_digestOfOutput_19 : decode cX10_digestOfOutput 19 = .ok (.ladd, 1) := by decide +kernel
theorem dX10_digestOfOutput_20 : decode cX10_digestOfOutput 20 = .ok (.lstore 4, 2) := by decide +kernel
theorem dX10_digestOfOutput_22 : decode cX10_digestOfOutput 22 = .ok (.lload 4, 2) := by decide +kernel
theorem dX10_digestOfOutput_24 : decode cX10_digestOfOutput 24 = .ok (.ldc2_w 275, 3) := by decide +kernel
theorem dX10_digestOfOutput_27 : decode cX10_digestOfOutput 27 = .ok (.lmul, 1) := by decide +kernel
theorem dX10_digestOfOutput_28 : decode cX10_digestOfOutput 28 = .ok (.aload_n 0, 1) := by decide +kernel
theorem dX10_digestOfOutput_29 : decode cX10_digestOfOutput 29 = .ok (.iload_n 3, 1) := by decide +kernel
theorem dX10_digestOfOutput_30 : decode cX10_digestOfOutput 30 = .ok (.invokevirtual 351, 3) := by decide +kernel
theorem dX10_digestOfOutput_33 : decode cX10_digestOfOutput 33 = .ok (.i2l, 1) := by decide +kernel
theorem dX10_digestOfOutput_34 : decode cX10_digestOfOutput 34 = .ok (.ladd, 1) := by decide +kernel
theorem dX10_digestOfOutput_35 : decode cX10_digestOfOutput 35 = .ok (.lstore 4, 2) := by decide +kernel
theorem dX10_digestOfOutput_37 : decode cX10_digestOfOutput 37 = .ok (.iconst 0, 1) := by decide +kernel
theorem dX10_digestOfOutput_38 : decode cX10_digestOfOutput 38 = .ok (.istore 7, 2) := by decide +kernel
theorem dX10_digestOfOutput_40 : decode cX10_digestOfOutput 40 = .ok (.iload 7, 2) := by decide +kernel
theorem dX10_digestOfOutput_42 : decode cX10_digestOfOutput 42 = .ok (.iload 6, 2) := by decide +kernel
theorem dX10_digestOfOutput_44 : decode cX10_digestOfOutput 44 = .ok (.if_icmp .ge 63, 3) := by decide +kernel
theorem dX10_digestOfOutput_47 : decode cX10_digestOfOutput 47 = .ok (.aload_n 0, 1) := by decide +kernel
theorem dX10_digestOfOutput_48 : decode cX10_digestOfOutput 48 = .ok (.iload_n 3, 1) := by decide +kernel
theorem dX10_digestOfOutput_49 : decode cX10_digestOfOutput 49 = .ok (.iload 7, 2) := by decide +kernel
theorem dX10_digestOfOutput_51 : decode cX10_digestOfOutput 51 = .ok (.invokevirtual 243, 3) := by decide +kernel
theorem dX10_digestOfOutput_54 : decode cX10_digestOfOutput 54 = .ok (.lstore 8, 2) := by decide +kernel
theorem dX10_digestOfOutput_56 : decode cX10_digestOfOutput 56 = .ok (.lload 4, 2) := by decide +kernel
theorem dX10_digestOfOutput_58 : decode cX10_digestOfOutput 58 = .ok (.ldc2_w 275, 3) := by decide +kernel
theorem dX10_digestOfOutput_61 : decode cX10_digestOfOutput 61 = .ok (.lmul, 1) := by decide +kernel
theorem dX10_digestOfOutput_62 : decode cX10_digestOfOutput 62 = .ok (.lload 8, 2) := by decide +kernel
theorem dX10_digestOfOutput_64 : decode cX10_digestOfOutput 64 = .ok (.invokestatic 247, 3) := by decide +kernel
theorem dX10_digestOfOutput_67 : decode cX10_digestOfOutput 67 = .ok (.i2l, 1) := by decide +kernel
theorem dX10_digestOfOutput_68 : decode cX10_digestOfOutput 68 = .ok (.ladd, 1) := by decide +kernel
theorem dX10_digestOfOutput_69 : decode cX10_digestOfOutput 69 = .ok (.lstore 4, 2) := by decide +kernel
theorem dX10_digestOfOutput_71 : decode cX10_digestOfOutput 71 = .ok (.lload 4, 2) := by decide +kernel
theorem dX10_digestOfOutput_73 : decode cX10_digestOfOutput 73 = .ok (.ldc2_w 275, 3) := by decide +kernel
theorem dX10_digestOfOutput_76 : decode cX10_digestOfOutput 76 = .ok (.lmul, 1) := by decide +kernel
theorem dX10_digestOfOutput_77 : decode cX10_digestOfOutput 77 = .ok (.lload 8, 2) := by decide +kernel
theorem dX10_digestOfOutput_79 : decode cX10_digestOfOutput 79 = .ok (.invokestatic 251, 3) := by decide +kernel
theorem dX10_digestOfOutput_82 : decode cX10_digestOfOutput 82 = .ok (.i2l, 1) := by decide +kernel
theorem dX10_digestOfOutput_83 : decode cX10_digestOfOutput 83 = .ok (.ladd, 1) := by decide +kernel
theorem dX10_digestOfOutput_84 : decode cX10_digestOfOutput 84 = .ok (.lstore 4, 2) := by decide +kernel
theorem dX10_digestOfOutput_86 : decode cX10_digestOfOutput 86 = .ok (.lload 4, 2) := by decide +kernel
theorem dX10_digestOfOutput_88 : decode cX10_digestOfOutput 88 = .ok (.ldc2_w 275, 3) := by decide +kernel
theorem dX10_digestOfOutput_91 : decode cX10_digestOfOutput 91 = .ok (.lmul, 1) := by decide +kernel
theorem dX10_digestOfOutput_92 : decode cX10_digestOfOutput 92 = .ok (.lload 8, 2) := by decide +kernel
theorem dX10_digestOfOutput_94 : decode cX10_digestOfOutput 94 = .ok (.invokestatic 254, 3) := by decide +kernel
theorem dX10_digestOfOutput_97 : decode cX10_digestOfOutput 97 = .ok (.i2l, 1) := by decide +kernel
theorem dX10_digestOfOutput_98 : decode cX10_digestOfOutput 98 = .ok (.ladd, 1) := by decide +kernel
theorem dX10_digestOfOutput_99 : decode cX10_digestOfOutput 99 = .ok (.lstore 4, 2) := by decide +kernel
theorem dX10_digestOfOutput_101 : decode cX10_digestOfOutput 101 = .ok (.iinc 7 1, 3) := by decide +kernel
theorem dX10_digestOfOutput_104 : decode cX10_digestOfOutput 104 = .ok (.goto (-64), 3) := by decide +kernel
theorem dX10_digestOfOutput_107 : decode cX10_digestOfOutput 107 = .ok (.lload 4, 2) := by decide +kernel
theorem dX10_digestOfOutput_109 : decode cX10_digestOfOutput 109 = .ok (.lreturn, 1) := by decide +kernel
theorem dX10_bit_0 : decode cX10_bit 0 = .ok (.iload_n 0, 1) := by decide +kernel
theorem dX10_bit_1 : decode cX10_bit 1 = .ok (.ifCond .eq 7, 3) := by decide +kernel
theorem dX10_bit_4 : decode cX10_bit 4 = .ok (.iconst 1, 1) := by decide +kernel
theorem dX10_bit_5 : decode cX10_bit 5 = .ok (.goto 4, 3) := by decide +kernel
theorem dX10_bit_8 : decode cX10_bit 8 = .ok (.iconst 0, 1) := by decide +kernel
theorem dX10_bit_9 : decode cX10_bit 9 = .ok (.ireturn, 1) := by decide +kernel
theorem dX10_isWithin_0 : decode cX10_isWithin 0 = .ok (.iload_n 0, 1) := by decide +kernel
theorem dX10_isWithin_1 : decode cX10_isWithin 1 = .ok (.iload_n 1, 1) := by decide +kernel
theorem dX10_isWithin_2 : decode cX10_isWithin 2 = .ok (.if_icmp .lt 12, 3) := by decide +kernel
theorem dX10_isWithin_5 : decode cX10_isWithin 5 = .ok (.iload_n 0, 1) := by decide +kernel
theorem dX10_isWithin_6 : decode cX10_isWithin 6 = .ok (.iload_n 2, 1) := by decide +kernel
theorem dX10_isWithin_7 : decode cX10_isWithin 7 = .ok (.if_icmp .gt 7, 3) := by decide +kernel
theorem dX10_isWithin_10 : decode cX10_isWithin 10 = .ok (.iconst 1, 1) := by decide +kernel
theorem dX10_isWithin_11 : decode cX10_isWithin 11 = .ok (.goto 4, 3) := by decide +kernel
theorem dX10_isWithin_14 : decode cX10_isWithin 14 = .ok (.iconst 0, 1) := by decide +kernel
theorem dX10_isWithin_15 : decode cX10_isWithin 15 = .ok (.ireturn, 1) := by decide +kernel
theorem dX10_refuseUnless_0 : decode cX10_refuseUnless 0 = .ok (.iload_n 0, 1) := by decide +kernel
theorem dX10_refuseUnless_1 : decode cX10_refuseUnless 1 = .ok (.ifCond .ne 11, 3) := by decide +kernel
theorem dX10_refuseUnless_4 : decode cX10_refuseUnless 4 = .ok (.new 354, 3) := by decide +kernel
theorem dX10_refuseUnless_7 : decode cX10_refuseUnless 7 = .ok (.dup, 1) := by decide +kernel
theorem dX10_refuseUnless_8 : decode cX10_refuseUnless 8 = .ok (.invokespecial 356, 3) := by decide +kernel
theorem dX10_refuseUnless_11 : decode cX10_refuseUnless 11 = .ok (.athrow, 1) := by decide +kernel
theorem dX10_refuseUnless_12 : decode cX10_refuseUnless 12 = .ok (.return_, 1) := by decide +kernel
set_option maxRecDepth 20000 in
theorem ggX10_refuseMoreStages_X2_size : GoodIn wsX10_refuseMoreStages wsX2_size := goodIn_r _ [9, 10, 11, 12, 13, 14, 15, 16, 22, 23, 24, 25, 26, 27, 28, 29, 30, 31, 32] (by decide +kernel) (by decide +kernel)
set_option maxRecDepth 20000 in
theorem gX10_refuseMoreStages_X2_size : GoodIn wsX10_refuseMoreStages (wsV RX10 88 RX2 yX2_size wsX2_size) := goodIn_app (goodIn_of _ (by decide +kernel)) ggX10_refuseMoreStages_X2_size
theorem dX10_refuseMoreStages_0 : decode cX10_refuseMoreStages 0 = .ok (.aload_n 0, 1) := by decide +kernel
theorem dX10_refuseMoreStages_1 : decode cX10_refuseMoreStages 1 = .ok (.getfield 84, 3) := by decide +kernel
theorem dX10_refuseMoreStages_4 : decode cX10_refuseMoreStages 4 = .ok (.ifCond .ne 15, 3) := by decide +kernel
theorem dX10_refuseMoreStages_7 : decode cX10_refuseMoreStages 7 = .ok (.aload_n 0, 1) := by decide +kernel
theorem dX10_refuseMoreStages_8 : decode cX10_refuseMoreStages 8 = .ok (.getfield 12, 3) := by decide +kernel
theorem dX10_refuseMoreStages_11 : decode cX10_refuseMoreStages 11 = .ok (.invokevirtual 88, 3) := by decide +kernel
theorem dX10_refuseMoreStages_14 : decode cX10_refuseMoreStages 14 = .ok (.bipush 12, 2) := by decide +kernel
theorem dX10_refuseMoreStages_16 : decode cX10_refuseMoreStages 16 = .ok (.if_icmp .lt 11, 3) := by decide +kernel
theorem dX10_refuseMoreStages_19 : decode cX10_refuseMoreStages 19 = .ok (.new 91, 3) := by decide +kernel
theorem dX10_refuseMoreStages_22 : decode cX10_refuseMoreStages 22 = .ok (.dup, 1) := by decide +kernel
theorem dX10_refuseMoreStages_23 : decode cX10_refuseMoreStages 23 = .ok (.invokespecial 93, 3) := by decide +kernel
theorem dX10_refuseMoreStages_26 : decode cX10_refuseMoreStages 26 = .ok (.athrow, 1) := by decide +kernel
theorem dX10_refuseMoreStages_27 : decode cX10_refuseMoreStages 27 = .ok (.return_, 1) := by decide +kernel
theorem dX10_refuseUnlessStarted_0 : decode cX10_refuseUnlessStarted 0 = .ok (.aload_n 0, 1) := by decide +kernel
theorem dX10_refuseUnlessStarted_1 : decode cX10_refuseUnlessStarted 1 = .ok (.getfield 84, 3) := by decide +kernel
theorem dX10_refuseUnlessStarted_4 : decode cX10_refuseUnlessStarted 4 = .ok (.ifCond .ne 11, 3) := by decide +kernel
theorem dX10_refuseUnlessStarted_7 : decode cX10_refuseUnlessStarted 7 = .ok (.new 91, 3) := by decide +kernel
theorem dX10_refuseUnlessStarted_10 : decode cX10_refuseUnlessStarted 10 = .ok (.dup, 1) := by decide +kernel
theorem dX10_refuseUnlessStarted_11 : decode cX10_refuseUnlessStarted 11 = .ok (.invokespecial 93, 3) := by decide +kernel
theorem dX10_refuseUnlessStarted_14 : decode cX10_refuseUnlessStarted 14 = .ok (.athrow, 1) := by decide +kernel
theorem dX10_refuseUnlessStarted_15 : decode cX10_refuseUnlessStarted 15 = .ok (.return_, 1) := by decide +kernel
theorem dX10_refuseUnlessOpen_0 : decode cX10_refuseUnlessOpen 0 = .ok (.aload_n 0, 1) := by decide +kernel
theorem dX10_refuseUnlessOpen_1 : decode cX10_refuseUnlessOpen 1 = .ok (.getfield 84, 3) := by decide +kernel
theorem dX10_refuseUnlessOpen_4 : decode cX10_refuseUnlessOpen 4 = .ok (.ifCond .eq 10, 3) := by decide +kernel
theorem dX10_refuseUnlessOpen_7 : decode cX10_refuseUnlessOpen 7 = .ok (.aload_n 1, 1) := by decide +kernel
theorem dX10_refuseUnlessOpen_8 : decode cX10_refuseUnlessOpen 8 = .ok (.getfield 124, 3) := by decide +kernel
theorem dX10_refuseUnlessOpen_11 : decode cX10_refuseUnlessOpen 11 = .ok (.ifCond .eq 11, 3) := by decide +kernel
theorem dX10_refuseUnlessOpen_14 : decode cX10_refuseUnlessOpen 14 = .ok (.new 91, 3) := by decide +kernel
theorem dX10_refuseUnlessOpen_17 : decode cX10_refuseUnlessOpen 17 = .ok (.dup, 1) := by decide +kernel
theorem dX10_refuseUnlessOpen_18 : decode cX10_refuseUnlessOpen 18 = .ok (.invokespecial 93, 3) := by decide +kernel
theorem dX10_refuseUnlessOpen_21 : decode cX10_refuseUnlessOpen 21 = .ok (.athrow, 1) := by decide +kernel
theorem dX10_refuseUnlessOpen_22 : decode cX10_refuseUnlessOpen 22 = .ok (.return_, 1) := by decide +kernel
set_option maxRecDepth 20000 in
theorem ggX10_stageOf_X2_at : GoodIn wsX10_stageOf wsX2_at := goodIn_r _ [8, 9, 10, 11, 12, 13, 14, 15, 16, 17, 18, 19, 20, 21, 22, 23, 24, 25, 26, 27, 28, 29, 30, 31, 32, 33, 39, 40, 41, 42, 43, 44, 45, 46, 47, 48, 49] (by decide +kernel) (by decide +kernel)
set_option maxRecDepth 20000 in
theorem gX10_stageOf_X2_at : GoodIn wsX10_stageOf (wsV RX10 270 RX2 yX2_at wsX2_at) := goodIn_app (goodIn_of _ (by decide +kernel)) ggX10_stageOf_X2_at
theorem dX10_stageOf_0 : decode cX10_stageOf 0 = .ok (.aload_n 0, 1) := by decide +kernel
theorem dX10_stageOf_1 : decode cX10_stageOf 1 = .ok (.getfield 12, 3) := by decide +kernel
theorem dX10_stageOf_4 : decode cX10_stageOf 4 = .ok (.iload_n 1, 1) := by decide +kernel
theorem dX10_stageOf_5 : decode cX10_stageOf 5 = .ok (.invokevirtual 270, 3) := by decide +kernel
theorem dX10_stageOf_8 : decode cX10_stageOf 8 = .ok (.astore_n 2, 1) := by decide +kernel
theorem dX10_stageOf_9 : decode cX10_stageOf 9 = .ok (.aload_n 2, 1) := by decide +kernel
theorem dX10_stageOf_10 : decode cX10_stageOf 10 = .ok (.ifnonnull 11, 3) := by decide +kernel
theorem dX10_stageOf_13 : decode cX10_stageOf 13 = .ok (.new 357, 3) := by decide +kernel
theorem dX10_stageOf_16 : decode cX10_stageOf 16 = .ok (.dup, 1) := by decide +kernel
theorem dX10_stageOf_17 : decode cX10_stageOf 17 = .ok (.invokespecial 359, 3) := by decide +kernel
theorem dX10_stageOf_20 : decode cX10_stageOf 20 = .ok (.athrow, 1) := by decide +kernel
theorem dX10_stageOf_21 : decode cX10_stageOf 21 = .ok (.aload_n 2, 1) := by decide +kernel
theorem dX10_stageOf_22 : decode cX10_stageOf 22 = .ok (.areturn, 1) := by decide +kernel
set_option maxRecDepth 20000 in
theorem ggX10_sourceOf_X10_stageOf : GoodIn wsX10_sourceOf wsX10_stageOf := goodIn_ca (goodIn_r _ [5, 6, 7, 8, 9, 10, 11, 12, 13, 14, 15, 16, 17, 18, 19, 20, 21, 22, 23, 24, 25, 26, 27, 28, 29, 30, 31, 32, 33, 34, 35, 36, 37, 38, 71, 72, 73, 74, 75, 76, 77, 78, 79, 80, 81, 82, 83, 84, 85, 86] (by decide +kernel) (by decide +kernel)) (goodIn_sub (fun _ h => List.mem_cons_of_mem _ (List.mem_append_left _ (List.mem_append_right _ h))) (by decide +kernel))
set_option maxRecDepth 20000 in
theorem gX10_sourceOf_X10_stageOf : GoodIn wsX10_sourceOf (wsV RX10 44 RX10 yX10_stageOf wsX10_stageOf) := goodIn_app (goodIn_of _ (by decide +kernel)) ggX10_sourceOf_X10_stageOf
set_option maxRecDepth 20000 in
theorem ggX10_sourceOf_X10_refuseUnless : GoodIn wsX10_sourceOf wsX10_refuseUnless := goodIn_ca (goodIn_r _ [41, 42, 43] (by decide +kernel) (by decide +kernel)) (goodIn_sub (fun _ h => List.mem_cons_of_mem _ (List.mem_append_right _ h)) (by decide +kernel))
set_option maxRecDepth 20000 in
theorem gX10_sourceOf_X10_refuseUnless : GoodIn wsX10_sourceOf (va_wsS RX10 25 yX10_refuseUnless wsX10_refuseUnless) := goodIn_app (goodIn_of _ (by decide +kernel)) ggX10_sourceOf_X10_refuseUnless
theorem dX10_sourceOf_0 : decode cX10_sourceOf 0 = .ok (.aload_n 0, 1) := by decide +kernel
theorem dX10_sourceOf_1 : decode cX10_sourceOf 1 = .ok (.iload_n 1, 1) := by decide +kernel
theorem dX10_sourceOf_2 : decode cX10_sourceOf 2 = .ok (.invokevirtual 44, 3) := by decide +kernel
theorem dX10_sourceOf_5 : decode cX10_sourceOf 5 = .ok (.astore_n 2, 1) := by decide +kernel
theorem dX10_sourceOf_6 : decode cX10_sourceOf 6 = .ok (.aload_n 2, 1) := by decide +kernel
theorem dX10_sourceOf_7 : decode cX10_sourceOf 7 = .ok (.getfield 48, 3) := by decide +kernel
theorem dX10_sourceOf_10 : decode cX10_sourceOf 10 = .ok (.getfield 54, 3) := by decide +kernel
theorem dX10_sourceOf_13 : decode cX10_sourceOf 13 = .ok (.ifCond .ne 7, 3) := by decide +kernel
theorem dX10_sourceOf_16 : decode cX10_sourceOf 16 = .ok (.iconst 1, 1) := by decide +kernel
theorem dX10_sourceOf_17 : decode cX10_sourceOf 17 = .ok (.goto 4, 3) := by decide +kernel
theorem dX10_sourceOf_20 : decode cX10_sourceOf 20 = .ok (.iconst 0, 1) := by decide +kernel
theorem dX10_sourceOf_21 : decode cX10_sourceOf 21 = .ok (.invokestatic 25, 3) := by decide +kernel
theorem dX10_sourceOf_24 : decode cX10_sourceOf 24 = .ok (.aload_n 2, 1) := by decide +kernel
theorem dX10_sourceOf_25 : decode cX10_sourceOf 25 = .ok (.areturn, 1) := by decide +kernel
set_option maxRecDepth 20000 in
theorem ggX10_spanStageOf_X10_stageOf : GoodIn wsX10_spanStageOf wsX10_stageOf := goodIn_ca (goodIn_r _ [5, 6, 7, 8, 9, 10, 11, 12, 13, 14, 15, 16, 17, 18, 19, 20, 21, 22, 23, 24, 25, 26, 27, 28, 29, 30, 31, 32, 33, 34, 35, 36, 37, 38, 71, 72, 73, 74, 75, 76, 77, 78, 79, 80, 81, 82, 83, 84, 85, 86] (by decide +kernel) (by decide +kernel)) (goodIn_sub (fun _ h => List.mem_cons_of_mem _ (List.mem_append_left _ (List.mem_append_right _ h))) (by decide +kernel))
set_option maxRecDepth 20000 in
theorem gX10_spanStageOf_X10_stageOf : GoodIn wsX10_spanStageOf (wsV RX10 44 RX10 yX10_stageOf wsX10_stageOf) := goodIn_app (goodIn_of _ (by decide +kernel)) ggX10_spanStageOf_X10_stageOf
set_option maxRecDepth 20000 in
theorem ggX10_spanStageOf_X10_refuseUnless : GoodIn wsX10_spanStageOf wsX10_refuseUnless := goodIn_ca (goodIn_r _ [41, 42, 43] (by decide +kernel) (by decide +kernel)) (goodIn_sub (fun _ h => List.mem_cons_of_mem _ (List.mem_append_right _ h)) (by decide +kernel))
set_option maxRecDepth 20000 in
theorem gX10_spanStageOf_X10_refuseUnless : GoodIn wsX10_spanStageOf (va_wsS RX10 25 yX10_refuseUnless wsX10_refuseUnless) := goodIn_app (goodIn_of _ (by decide +kernel)) ggX10_spanStageOf_X10_refuseUnless
theorem dX10_spanStageOf_0 : decode cX10_spanStageOf 0 = .ok (.aload_n 0, 1) := by decide +kernel
theorem dX10_spanStageOf_1 : decode cX10_spanStageOf 1 = .ok (.iload_n 1, 1) := by decide +kernel
theorem dX10_spanStageOf_2 : decode cX10_spanStageOf 2 = .ok (.invokevirtual 44, 3) := by decide +kernel
theorem dX10_spanStageOf_5 : decode cX10_spanStageOf 5 = .ok (.astore_n 2, 1) := by decide +kernel
theorem dX10_spanStageOf_6 : decode cX10_spanStageOf 6 = .ok (.aload_n 2, 1) := by decide +kernel
theorem dX10_spanStageOf_7 : decode cX10_spanStageOf 7 = .ok (.getfield 48, 3) := by decide +kernel
theorem dX10_spanStageOf_10 : decode cX10_spanStageOf 10 = .ok (.getfield 54, 3) := by decide +kernel
theorem dX10_spanStageOf_13 : decode cX10_spanStageOf 13 = .ok (.iconst 3, 1) := by decide +kernel
theorem dX10_spanStageOf_14 : decode cX10_spanStageOf 14 = .ok (.if_icmp .eq 14, 3) := by decide +kernel
theorem dX10_spanStageOf_17 : decode cX10_spanStageOf 17 = .ok (.aload_n 2, 1) := by decide +kernel
theorem dX10_spanStageOf_18 : decode cX10_spanStageOf 18 = .ok (.getfield 48, 3) := by decide +kernel
theorem dX10_spanStageOf_21 : decode cX10_spanStageOf 21 = .ok (.getfield 54, 3) := by decide +kernel
theorem dX10_spanStageOf_24 : decode cX10_spanStageOf 24 = .ok (.iconst 4, 1) := by decide +kernel
theorem dX10_spanStageOf_25 : decode cX10_spanStageOf 25 = .ok (.if_icmp .ne 7, 3) := by decide +kernel
theorem dX10_spanStageOf_28 : decode cX10_spanStageOf 28 = .ok (.iconst 1, 1) := by decide +kernel
theorem dX10_spanStageOf_29 : decode cX10_spanStageOf 29 = .ok (.goto 4, 3) := by decide +kernel
theorem dX10_spanStageOf_32 : decode cX10_spanStageOf 32 = .ok (.iconst 0, 1) := by decide +kernel
theorem dX10_spanStageOf_33 : decode cX10_spanStageOf 33 = .ok (.invokestatic 25, 3) := by decide +kernel
theorem dX10_spanStageOf_36 : decode cX10_spanStageOf 36 = .ok (.aload_n 2, 1) := by decide +kernel
theorem dX10_spanStageOf_37 : decode cX10_spanStageOf 37 = .ok (.areturn, 1) := by decide +kernel
set_option maxRecDepth 20000 in
theorem ggX10_sinkOf_X10_stageOf : GoodIn wsX10_sinkOf wsX10_stageOf := goodIn_ca (goodIn_r _ [5, 6, 7, 8, 9, 10, 11, 12, 13, 14, 15, 16, 17, 18, 19, 20, 21, 22, 23, 24, 25, 26, 27, 28, 29, 30, 31, 32, 33, 34, 35, 36, 37, 38, 71, 72, 73, 74, 75, 76, 77, 78, 79, 80, 81, 82, 83, 84, 85, 86] (by decide +kernel) (by decide +kernel)) (goodIn_sub (fun _ h => List.mem_cons_of_mem _ (List.mem_append_left _ (List.mem_append_right _ h))) (by decide +kernel))
set_option maxRecDepth 20000 in
theorem gX10_sinkOf_X10_stageOf : GoodIn wsX10_sinkOf (wsV RX10 44 RX10 yX10_stageOf wsX10_stageOf) := goodIn_app (goodIn_of _ (by decide +kernel)) ggX10_sinkOf_X10_stageOf
set_option maxRecDepth 20000 in
theorem ggX10_sinkOf_X10_refuseUnless : GoodIn wsX10_sinkOf wsX10_refuseUnless := goodIn_ca (goodIn_r _ [41, 42, 43] (by decide +kernel) (by decide +kernel)) (goodIn_sub (fun _ h => List.mem_cons_of_mem _ (List.mem_append_right _ h)) (by decide +kernel))
set_option maxRecDepth 20000 in
theorem gX10_sinkOf_X10_refuseUnless : GoodIn wsX10_sinkOf (va_wsS RX10 25 yX10_refuseUnless wsX10_refuseUnless) := goodIn_app (goodIn_of _ (by decide +kernel)) ggX10_sinkOf_X10_refuseUnless
theorem dX10_sinkOf_0 : decode cX10_sinkOf 0 = .ok (.aload_n 0, 1) := by decide +kernel
theorem dX10_sinkOf_1 : decode cX10_sinkOf 1 = .ok (.iload_n 1, 1) := by decide +kernel
theorem dX10_sinkOf_2 : decode cX10_sinkOf 2 = .ok (.invokevirtual 44, 3) := by decide +kernel
theorem dX10_sinkOf_5 : decode cX10_sinkOf 5 = .ok (.astore_n 2, 1) := by decide +kernel
theorem dX10_sinkOf_6 : decode cX10_sinkOf 6 = .ok (.aload_n 2, 1) := by decide +kernel
theorem dX10_sinkOf_7 : decode cX10_sinkOf 7 = .ok (.getfield 48, 3) := by decide +kernel
theorem dX10_sinkOf_10 : decode cX10_sinkOf 10 = .ok (.getfield 54, 3) := by decide +kernel
theorem dX10_sinkOf_13 : decode cX10_sinkOf 13 = .ok (.bipush 7, 2) := by decide +kernel
theorem dX10_sinkOf_15 : decode cX10_sinkOf 15 = .ok (.if_icmp .ne 7, 3) := by decide +kernel
theorem dX10_sinkOf_18 : decode cX10_sinkOf 18 = .ok (.iconst 1, 1) := by decide +kernel
theorem dX10_sinkOf_19 : decode cX10_sinkOf 19 = .ok (.goto 4, 3) := by decide +kernel
theorem dX10_sinkOf_22 : decode cX10_sinkOf 22 = .ok (.iconst 0, 1) := by decide +kernel
theorem dX10_sinkOf_23 : decode cX10_sinkOf 23 = .ok (.invokestatic 25, 3) := by decide +kernel
theorem dX10_sinkOf_26 : decode cX10_sinkOf 26 = .ok (.aload_n 2, 1) := by decide +kernel
theorem dX10_sinkOf_27 : decode cX10_sinkOf 27 = .ok (.areturn, 1) := by decide +kernel
set_option maxRecDepth 20000 in
theorem ggX10_outputAt_X10_sinkOf : GoodIn wsX10_outputAt wsX10_sinkOf := goodIn_ca (goodIn_ca (goodIn_r _ [5, 6, 7, 8, 4, 9, 10, 11, 12, 13, 14, 15, 16, 17, 18, 19, 20, 21, 22, 23, 24, 25, 26, 27, 28, 29, 30, 31, 32, 33, 34, 35, 36, 37, 38, 39, 40, 41, 42, 43, 44, 45, 46, 47, 55, 56, 57, 58, 59, 60, 61, 62, 63, 64, 65, 66, 78, 79, 80, 81, 82, 83, 84, 85, 86, 87, 88, 89, 90, 91, 92, 93, 94, 95, 96, 97, 98, 99, 100, 101, 102, 103, 104, 105, 106, 107, 108] (by decide +kernel) (by decide +kernel)) (goodIn_sub (fun _ h => List.mem_cons_of_mem _ (List.mem_append_left _ (List.mem_append_right _ h))) (by decide +kernel))) (goodIn_sub (fun _ h => List.mem_cons_of_mem _ (List.mem_append_right _ h)) (by decide +kernel))
set_option maxRecDepth 20000 in
theorem gX10_outputAt_X10_sinkOf : GoodIn wsX10_outputAt (wsV RX10 234 RX10 yX10_sinkOf wsX10_sinkOf) := goodIn_app (goodIn_of _ (by decide +kernel)) ggX10_outputAt_X10_sinkOf
set_option maxRecDepth 20000 in
theorem ggX10_outputAt_X10_refuseUnless : GoodIn wsX10_outputAt wsX10_refuseUnless := goodIn_ca (goodIn_r _ [45, 46, 47] (by decide +kernel) (by decide +kernel)) (goodIn_sub (fun _ h => List.mem_cons_of_mem _ (List.mem_append_right _ h)) (by decide +kernel))
set_option maxRecDepth 20000 in
theorem gX10_outputAt_X10_refuseUnless : GoodIn wsX10_outputAt (va_wsS RX10 25 yX10_refuseUnless wsX10_refuseUnless) := goodIn_app (goodIn_of _ (by decide +kernel)) ggX10_outputAt_X10_refuseUnless
set_option maxRecDepth 20000 in
theorem ggX10_outputAt_X6_at : GoodIn wsX10_outputAt wsX6_at := goodIn_r _ [52, 53, 54, 109, 110] (by decide +kernel) (by decide +kernel)
set_option maxRecDepth 20000 in
theorem gX10_outputAt_X6_at : GoodIn wsX10_outputAt (wsV RX10 363 RX6 yX6_at wsX6_at) := goodIn_app (goodIn_of _ (by decide +kernel)) ggX10_outputAt_X6_at
theorem dX10_outputAt_0 : decode cX10_outputAt 0 = .ok (.aload_n 0, 1) := by decide +kernel
theorem dX10_outputAt_1 : decode cX10_outputAt 1 = .ok (.iload_n 1, 1) := by decide +kernel
theorem dX10_outputAt_2 : decode cX10_outputAt 2 = .ok (.invokevirtual 234, 3) := by decide +kernel
theorem dX10_outputAt_5 : decode cX10_outputAt 5 = .ok (.astore_n 3, 1) := by decide +kernel
theorem dX10_outputAt_6 : decode cX10_outputAt 6 = .ok (.iload_n 2, 1) := by decide +kernel
theorem dX10_outputAt_7 : decode cX10_outputAt 7 = .ok (.ifCond .lt 18, 3) := by decide +kernel
theorem dX10_outputAt_10 : decode cX10_outputAt 10 = .ok (.iload_n 2, 1) := by decide +kernel
theorem dX10_outputAt_11 : decode cX10_outputAt 11 = .ok (.aload_n 3, 1) := by decide +kernel
theorem dX10_outputAt_12 : decode cX10_outputAt 12 = .ok (.getfield 157, 3) := by decide +kernel
theorem dX10_outputAt_15 : decode cX10_outputAt 15 = .ok (.getfield 237, 3) := by decide +kernel
theorem dX10_outputAt_18 : decode cX10_outputAt 18 = .ok (.if_icmp .ge 7, 3) := by decide +kernel
theorem dX10_outputAt_21 : decode cX10_outputAt 21 = .ok (.iconst 1, 1) := by decide +kernel
theorem dX10_outputAt_22 : decode cX10_outputAt 22 = .ok (.goto 4, 3) := by decide +kernel
theorem dX10_outputAt_25 : decode cX10_outputAt 25 = .ok (.iconst 0, 1) := by decide +kernel
theorem dX10_outputAt_26 : decode cX10_outputAt 26 = .ok (.invokestatic 25, 3) := by decide +kernel
theorem dX10_outputAt_29 : decode cX10_outputAt 29 = .ok (.aload_n 3, 1) := by decide +kernel
theorem dX10_outputAt_30 : decode cX10_outputAt 30 = .ok (.getfield 360, 3) := by decide +kernel
theorem dX10_outputAt_33 : decode cX10_outputAt 33 = .ok (.iload_n 2, 1) := by decide +kernel
theorem dX10_outputAt_34 : decode cX10_outputAt 34 = .ok (.invokevirtual 363, 3) := by decide +kernel
theorem dX10_outputAt_37 : decode cX10_outputAt 37 = .ok (.lreturn, 1) := by decide +kernel
set_option maxRecDepth 20000 in
theorem ggX10_wire_X2_size : GoodIn wsX10_wire wsX2_size := goodIn_r _ [10, 11, 12, 13, 14, 15, 16, 17, 223, 224, 225, 226, 227, 228, 229, 230, 231, 232, 233] (by decide +kernel) (by decide +kernel)
set_option maxRecDepth 20000 in
theorem gX10_wire_X2_size : GoodIn wsX10_wire (wsV RX10 88 RX2 yX2_size wsX2_size) := goodIn_app (goodIn_of _ (by decide +kernel)) ggX10_wire_X2_size
set_option maxRecDepth 20000 in
theorem ggX10_wire_X10_planOf : GoodIn wsX10_wire wsX10_planOf := goodIn_r _ [22, 1, 23, 24, 25, 9, 26, 11, 27, 12, 13, 14, 15, 16, 17, 28, 29, 30, 31, 32, 33, 34, 35, 36, 37, 38, 39, 40, 41, 42, 43, 44, 201, 202, 203, 204, 205, 234, 235, 236, 237, 238, 239, 240, 241, 242, 243, 244, 245, 223, 224, 225, 226, 227, 228, 229, 230, 231, 232, 233] (by decide +kernel) (by decide +kernel)
set_option maxRecDepth 20000 in
theorem gX10_wire_X10_planOf : GoodIn wsX10_wire (wsV RX10 368 RX10 yX10_planOf wsX10_planOf) := goodIn_app (goodIn_of _ (by decide +kernel)) ggX10_wire_X10_planOf
set_option maxRecDepth 20000 in
theorem ggX10_wire_X5_standBehind : GoodIn wsX10_wire wsX5_standBehind := goodIn_r _ [49, 50, 51, 52, 53, 54, 55, 206, 207, 208, 209, 210, 211, 212, 213, 214, 215, 216, 217, 218, 219, 220] (by decide +kernel) (by decide +kernel)
set_option maxRecDepth 20000 in
theorem gX10_wire_X5_standBehind : GoodIn wsX10_wire (wsV RX10 372 RX5 yX5_standBehind wsX5_standBehind) := goodIn_app (goodIn_of _ (by decide +kernel)) ggX10_wire_X5_standBehind
set_option maxRecDepth 20000 in
theorem ggX10_wire_X6_init : GoodIn wsX10_wire wsX6_init := goodIn_r _ [57, 58, 59, 60, 61, 62, 221, 222] (by decide +kernel) (by decide +kernel)
set_option maxRecDepth 20000 in
theorem gX10_wire_X6_init_n379 : GoodIn wsX10_wire (wsX6_init) := ggX10_wire_X6_init
set_option maxRecDepth 20000 in
theorem ggX10_wire_X2_add : GoodIn wsX10_wire wsX2_add := goodIn_r _ [66, 11, 67, 68, 69, 70, 71, 72, 73, 9, 74, 75, 24, 25, 26, 27, 12, 13, 14, 15, 16, 17, 28, 29, 30, 31, 32, 33, 34, 35, 36, 37, 38, 39, 40, 41, 42, 43, 44, 76, 77, 78, 79, 80, 81, 82, 83, 84, 85, 86, 87, 88, 89, 59, 60, 90, 91, 92, 93, 94, 95, 96, 97, 98, 99, 100, 101, 102, 103, 104, 105, 106, 107, 108, 109, 110, 52, 53, 54, 111, 112, 113, 114, 115, 116, 117, 118, 119, 120, 121, 122, 123, 124, 125, 126, 127, 128, 129, 130, 131, 132, 133, 134, 135, 136, 137, 138, 139, 140, 141, 142, 143, 144, 145, 146, 147, 148, 3, 4, 149, 150, 151, 152, 153, 154, 155, 156, 157, 158, 159, 160, 161, 162, 163, 164, 165, 166, 56, 57, 58, 61, 62, 167, 168, 169, 170, 171, 172, 173, 174, 175, 176, 177, 178, 179, 180, 181, 182, 183, 184, 185, 186, 187, 188, 189, 190, 191, 192, 193, 194, 195, 196, 197, 198, 199, 200, 223, 224, 225, 226, 227, 228, 229, 230, 234, 235, 236, 237, 238, 239, 240, 241, 242, 243, 244, 245, 206, 207, 208, 209, 210, 211, 212, 213, 214, 215, 216, 217, 218, 219, 220, 231, 232, 233, 246, 247, 248, 249, 250, 221, 222, 251, 252, 253, 254, 255, 256, 257, 258, 259, 260, 261, 262, 263] (by decide +kernel) (by decide +kernel)
set_option maxRecDepth 20000 in
theorem gX10_wire_X2_add : GoodIn wsX10_wire (wsV RX10 380 RX2 yX2_add wsX2_add) := goodIn_app (goodIn_of _ (by decide +kernel)) ggX10_wire_X2_add
theorem dX10_wire_0 : decode cX10_wire 0 = .ok (.aload_n 0, 1) := by decide +kernel
theorem dX10_wire_1 : decode cX10_wire 1 = .ok (.getfield 12, 3) := by decide +kernel
theorem dX10_wire_4 : decode cX10_wire 4 = .ok (.invokevirtual 88, 3) := by decide +kernel
theorem dX10_wire_7 : decode cX10_wire 7 = .ok (.istore_n 2, 1) := by decide +kernel
theorem dX10_wire_8 : decode cX10_wire 8 = .ok (.aload_n 1, 1) := by decide +kernel
theorem dX10_wire_9 : decode cX10_wire 9 = .ok (.aload_n 0, 1) := by decide +kernel
theorem dX10_wire_10 : decode cX10_wire 10 = .ok (.aload_n 1, 1) := by decide +kernel
theorem dX10_wire_11 : decode cX10_wire 11 = .ok (.getfield 365, 3) := by decide +kernel
theorem dX10_wire_14 : decode cX10_wire 14 = .ok (.invokevirtual 368, 3) := by decide +kernel
theorem dX10_wire_17 : decode cX10_wire 17 = .ok (.aload_n 1, 1) := by decide +kernel
theorem dX10_wire_18 : decode cX10_wire 18 = .ok (.getfield 365, 3) := by decide +kernel
theorem dX10_wire_21 : decode cX10_wire 21 = .ok (.invokevirtual 372, 3) := by decide +kernel
theorem dX10_wire_24 : decode cX10_wire 24 = .ok (.aload_n 1, 1) := by decide +kernel
theorem dX10_wire_25 : decode cX10_wire 25 = .ok (.aload_n 0, 1) := by decide +kernel
theorem dX10_wire_26 : decode cX10_wire 26 = .ok (.aload_n 1, 1) := by decide +kernel
theorem dX10_wire_27 : decode cX10_wire 27 = .ok (.getfield 376, 3) := by decide +kernel
theorem dX10_wire_30 : decode cX10_wire 30 = .ok (.invokevirtual 368, 3) := by decide +kernel
theorem dX10_wire_33 : decode cX10_wire 33 = .ok (.aload_n 1, 1) := by decide +kernel
theorem dX10_wire_34 : decode cX10_wire 34 = .ok (.getfield 376, 3) := by decide +kernel
theorem dX10_wire_37 : decode cX10_wire 37 = .ok (.invokevirtual 372, 3) := by decide +kernel
theorem dX10_wire_40 : decode cX10_wire 40 = .ok (.new 110, 3) := by decide +kernel
theorem dX10_wire_43 : decode cX10_wire 43 = .ok (.dup, 1) := by decide +kernel
theorem dX10_wire_44 : decode cX10_wire 44 = .ok (.invokespecial 379, 3) := by decide +kernel
theorem dX10_wire_47 : decode cX10_wire 47 = .ok (.astore_n 3, 1) := by decide +kernel
theorem dX10_wire_48 : decode cX10_wire 48 = .ok (.aload_n 0, 1) := by decide +kernel
theorem dX10_wire_49 : decode cX10_wire 49 = .ok (.getfield 12, 3) := by decide +kernel
theorem dX10_wire_52 : decode cX10_wire 52 = .ok (.aload_n 1, 1) := by decide +kernel
theorem dX10_wire_53 : decode cX10_wire 53 = .ok (.aload_n 3, 1) := by decide +kernel
theorem dX10_wire_54 : decode cX10_wire 54 = .ok (.invokevirtual 380, 3) := by decide +kernel
theorem dX10_wire_57 : decode cX10_wire 57 = .ok (.aload_n 0, 1) := by decide +kernel
theorem dX10_wire_58 : decode cX10_wire 58 = .ok (.getfield 18, 3) := by decide +kernel
theorem dX10_wire_61 : decode cX10_wire 61 = .ok (.aload_n 1, 1) := by decide +kernel
theorem dX10_wire_62 : decode cX10_wire 62 = .ok (.aload_n 3, 1) := by decide +kernel
theorem dX10_wire_63 : decode cX10_wire 63 = .ok (.invokevirtual 380, 3) := by decide +kernel
theorem dX10_wire_66 : decode cX10_wire 66 = .ok (.iload_n 2, 1) := by decide +kernel
theorem dX10_wire_67 : decode cX10_wire 67 = .ok (.ireturn, 1) := by decide +kernel
set_option maxRecDepth 20000 in
theorem ggX10_planOf_X2_at : GoodIn wsX10_planOf wsX2_at := goodIn_r _ [6, 7, 8, 9, 10, 11, 12, 13, 14, 15, 16, 17, 18, 19, 20, 21, 22, 23, 24, 25, 26, 27, 28, 29, 30, 31, 49, 50, 51, 52, 53, 54, 55, 56, 57, 58, 59] (by decide +kernel) (by decide +kernel)
set_option maxRecDepth 20000 in
theorem gX10_planOf_X2_at : GoodIn wsX10_planOf (wsV RX10 270 RX2 yX2_at wsX2_at) := goodIn_app (goodIn_of _ (by decide +kernel)) ggX10_planOf_X2_at
theorem dX10_planOf_0 : decode cX10_planOf 0 = .ok (.aload_n 0, 1) := by decide +kernel
theorem dX10_planOf_1 : decode cX10_planOf 1 = .ok (.getfield 12, 3) := by decide +kernel
theorem dX10_planOf_4 : decode cX10_planOf 4 = .ok (.iload_n 1, 1) := by decide +kernel
theorem dX10_planOf_5 : decode cX10_planOf 5 = .ok (.invokevirtual 270, 3) := by decide +kernel
theorem dX10_planOf_8 : decode cX10_planOf 8 = .ok (.astore_n 2, 1) := by decide +kernel
theorem dX10_planOf_9 : decode cX10_planOf 9 = .ok (.aload_n 2, 1) := by decide +kernel
theorem dX10_planOf_10 : decode cX10_planOf 10 = .ok (.ifnonnull 7, 3) := by decide +kernel
theorem dX10_planOf_13 : decode cX10_planOf 13 = .ok (.aconst_null, 1) := by decide +kernel
theorem dX10_planOf_14 : decode cX10_planOf 14 = .ok (.goto 7, 3) := by decide +kernel
theorem dX10_planOf_17 : decode cX10_planOf 17 = .ok (.aload_n 2, 1) := by decide +kernel
theorem dX10_planOf_18 : decode cX10_planOf 18 = .ok (.getfield 48, 3) := by decide +kernel
theorem dX10_planOf_21 : decode cX10_planOf 21 = .ok (.areturn, 1) := by decide +kernel
theorem dJ9_floorDiv_7cf53_0 : decode cJ9_floorDiv_7cf53 0 = .ok (.iload_n 0, 1) := by decide +kernel
theorem dJ9_floorDiv_7cf53_1 : decode cJ9_floorDiv_7cf53 1 = .ok (.iload_n 1, 1) := by decide +kernel
theorem dJ9_floorDiv_7cf53_2 : decode cJ9_floorDiv_7cf53 2 = .ok (.idiv, 1) := by decide +kernel
theorem dJ9_floorDiv_7cf53_3 : decode cJ9_floorDiv_7cf53 3 = .ok (.istore_n 2, 1) := by decide +kernel
theorem dJ9_floorDiv_7cf53_4 : decode cJ9_floorDiv_7cf53 4 = .ok (.iload_n 0, 1) := by decide +kernel
theorem dJ9_floorDiv_7cf53_5 : decode cJ9_floorDiv_7cf53 5 = .ok (.iload_n 1, 1) := by decide +kernel
theorem dJ9_floorDiv_7cf53_6 : decode cJ9_floorDiv_7cf53 6 = .ok (.ixor, 1) := by decide +kernel
theorem dJ9_floorDiv_7cf53_7 : decode cJ9_floorDiv_7cf53 7 = .ok (.ifCond .ge 14, 3) := by decide +kernel
theorem dJ9_floorDiv_7cf53_10 : decode cJ9_floorDiv_7cf53 10 = .ok (.iload_n 2, 1) := by decide +kernel
theorem dJ9_floorDiv_7cf53_11 : decode cJ9_floorDiv_7cf53 11 = .ok (.iload_n 1, 1) := by decide +kernel
theorem dJ9_floorDiv_7cf53_12 : decode cJ9_floorDiv_7cf53 12 = .ok (.imul, 1) := by decide +kernel
theorem dJ9_floorDiv_7cf53_13 : decode cJ9_floorDiv_7cf53 13 = .ok (.iload_n 0, 1) := by decide +kernel
theorem dJ9_floorDiv_7cf53_14 : decode cJ9_floorDiv_7cf53 14 = .ok (.if_icmp .eq 7, 3) := by decide +kernel
theorem dJ9_floorDiv_7cf53_17 : decode cJ9_floorDiv_7cf53 17 = .ok (.iload_n 2, 1) := by decide +kernel
theorem dJ9_floorDiv_7cf53_18 : decode cJ9_floorDiv_7cf53 18 = .ok (.iconst 1, 1) := by decide +kernel
theorem dJ9_floorDiv_7cf53_19 : decode cJ9_floorDiv_7cf53 19 = .ok (.isub, 1) := by decide +kernel
theorem dJ9_floorDiv_7cf53_20 : decode cJ9_floorDiv_7cf53 20 = .ok (.ireturn, 1) := by decide +kernel
theorem dJ9_floorDiv_7cf53_21 : decode cJ9_floorDiv_7cf53 21 = .ok (.iload_n 2, 1) := by decide +kernel
theorem dJ9_floorDiv_7cf53_22 : decode cJ9_floorDiv_7cf53 22 = .ok (.ireturn, 1) := by decide +kernel
theorem dJ9_floorMod_7cf53_0 : decode cJ9_floorMod_7cf53 0 = .ok (.iload_n 0, 1) := by decide +kernel
theorem dJ9_floorMod_7cf53_1 : decode cJ9_floorMod_7cf53 1 = .ok (.iload_n 1, 1) := by decide +kernel
theorem dJ9_floorMod_7cf53_2 : decode cJ9_floorMod_7cf53 2 = .ok (.irem, 1) := by decide +kernel
theorem dJ9_floorMod_7cf53_3 : decode cJ9_floorMod_7cf53 3 = .ok (.istore_n 2, 1) := by decide +kernel
theorem dJ9_floorMod_7cf53_4 : decode cJ9_floorMod_7cf53 4 = .ok (.iload_n 0, 1) := by decide +kernel
theorem dJ9_floorMod_7cf53_5 : decode cJ9_floorMod_7cf53 5 = .ok (.iload_n 1, 1) := by decide +kernel
theorem dJ9_floorMod_7cf53_6 : decode cJ9_floorMod_7cf53 6 = .ok (.ixor, 1) := by decide +kernel
theorem dJ9_floorMod_7cf53_7 : decode cJ9_floorMod_7cf53 7 = .ok (.ifCond .ge 11, 3) := by decide +kernel
theorem dJ9_floorMod_7cf53_10 : decode cJ9_floorMod_7cf53 10 = .ok (.iload_n 2, 1) := by decide +kernel
theorem dJ9_floorMod_7cf53_11 : decode cJ9_floorMod_7cf53 11 = .ok (.ifCond .eq 7, 3) := by decide +kernel
theorem dJ9_floorMod_7cf53_14 : decode cJ9_floorMod_7cf53 14 = .ok (.iload_n 2, 1) := by decide +kernel
theorem dJ9_floorMod_7cf53_15 : decode cJ9_floorMod_7cf53 15 = .ok (.iload_n 1, 1) := by decide +kernel
theorem dJ9_floorMod_7cf53_16 : decode cJ9_floorMod_7cf53 16 = .ok (.iadd, 1) := by decide +kernel
theorem dJ9_floorMod_7cf53_17 : decode cJ9_floorMod_7cf53 17 = .ok (.ireturn, 1) := by decide +kernel
theorem dJ9_floorMod_7cf53_18 : decode cJ9_floorMod_7cf53 18 = .ok (.iload_n 2, 1) := by decide +kernel
theorem dJ9_floorMod_7cf53_19 : decode cJ9_floorMod_7cf53 19 = .ok (.ireturn, 1) := by decide +kernel
theorem dJ9_max_7cf53_0 : decode cJ9_max_7cf53 0 = .ok (.iload_n 0, 1) := by decide +kernel
theorem dJ9_max_7cf53_1 : decode cJ9_max_7cf53 1 = .ok (.iload_n 1, 1) := by decide +kernel
theorem dJ9_max_7cf53_2 : decode cJ9_max_7cf53 2 = .ok (.if_icmp .lt 7, 3) := by decide +kernel
theorem dJ9_max_7cf53_5 : decode cJ9_max_7cf53 5 = .ok (.iload_n 0, 1) := by decide +kernel
theorem dJ9_max_7cf53_6 : decode cJ9_max_7cf53 6 = .ok (.goto 4, 3) := by decide +kernel
theorem dJ9_max_7cf53_9 : decode cJ9_max_7cf53 9 = .ok (.iload_n 1, 1) := by decide +kernel
theorem dJ9_max_7cf53_10 : decode cJ9_max_7cf53 10 = .ok (.ireturn, 1) := by decide +kernel
theorem dJ9_min_7cf53_0 : decode cJ9_min_7cf53 0 = .ok (.iload_n 0, 1) := by decide +kernel
theorem dJ9_min_7cf53_1 : decode cJ9_min_7cf53 1 = .ok (.iload_n 1, 1) := by decide +kernel
theorem dJ9_min_7cf53_2 : decode cJ9_min_7cf53 2 = .ok (.if_icmp .gt 7, 3) := by decide +kernel
theorem dJ9_min_7cf53_5 : decode cJ9_min_7cf53 5 = .ok (.iload_n 0, 1) := by decide +kernel
theorem dJ9_min_7cf53_6 : decode cJ9_min_7cf53 6 = .ok (.goto 4, 3) := by decide +kernel
theorem dJ9_min_7cf53_9 : decode cJ9_min_7cf53 9 = .ok (.iload_n 1, 1) := by decide +kernel
theorem dJ9_min_7cf53_10 : decode cJ9_min_7cf53 10 = .ok (.ireturn, 1) := by decide +kernel
theorem dJxa1e45_init_da8c8_0 : decode cJxa1e45_init_da8c8 0 = .ok (.aload_n 0, 1) := by decide +kernel
theorem dJxa1e45_init_da8c8_1 : decode cJxa1e45_init_da8c8 1 = .ok (.invokespecial 1, 3) := by decide +kernel
theorem dJxa1e45_init_da8c8_4 : decode cJxa1e45_init_da8c8 4 = .ok (.return_, 1) := by decide +kernel
set_option maxRecDepth 20000 in
theorem ggJxc12de_init_da8c8_Jxa1e45_init_da8c8 : GoodIn wsJxc12de_init_da8c8 wsJxa1e45_init_da8c8 := goodIn_r _ [5, 6, 7, 8] (by decide +kernel) (by decide +kernel)
set_option maxRecDepth 20000 in
theorem gJxc12de_init_da8c8_Jxa1e45_init_da8c8 : GoodIn wsJxc12de_init_da8c8 (wsJxa1e45_init_da8c8) := ggJxc12de_init_da8c8_Jxa1e45_init_da8c8
theorem dJxc12de_init_da8c8_0 : decode cJxc12de_init_da8c8 0 = .ok (.aload_n 0, 1) := by decide +kernel
theorem dJxc12de_init_da8c8_1 : decode cJxc12de_init_da8c8 1 = .ok (.invokespecial 1, 3) := by decide +kernel
theorem dJxc12de_init_da8c8_4 : decode cJxc12de_init_da8c8 4 = .ok (.aload_n 0, 1) := by decide +kernel
theorem dJxc12de_init_da8c8_5 : decode cJxc12de_init_da8c8 5 = .ok (.iconst 0, 1) := by decide +kernel
theorem dJxc12de_init_da8c8_6 : decode cJxc12de_init_da8c8 6 = .ok (.putfield 7, 3) := by decide +kernel
theorem dJxc12de_init_da8c8_9 : decode cJxc12de_init_da8c8 9 = .ok (.return_, 1) := by decide +kernel
set_option maxRecDepth 20000 in
theorem ggJx4a65c_init_da8c8_Jxc12de_init_da8c8 : GoodIn wsJx4a65c_init_da8c8 wsJxc12de_init_da8c8 := goodIn_r _ [6, 7, 8, 9, 10, 11, 12, 13, 14, 15, 16, 17] (by decide +kernel) (by decide +kernel)
set_option maxRecDepth 20000 in
theorem gJx4a65c_init_da8c8_Jxc12de_init_da8c8 : GoodIn wsJx4a65c_init_da8c8 (wsJxc12de_init_da8c8) := ggJx4a65c_init_da8c8_Jxc12de_init_da8c8
theorem dJx4a65c_init_da8c8_0 : decode cJx4a65c_init_da8c8 0 = .ok (.aload_n 0, 1) := by decide +kernel
theorem dJx4a65c_init_da8c8_1 : decode cJx4a65c_init_da8c8 1 = .ok (.invokespecial 1, 3) := by decide +kernel
theorem dJx4a65c_init_da8c8_4 : decode cJx4a65c_init_da8c8 4 = .ok (.aload_n 0, 1) := by decide +kernel
theorem dJx4a65c_init_da8c8_5 : decode cJx4a65c_init_da8c8 5 = .ok (.getstatic 39, 3) := by decide +kernel
theorem dJx4a65c_init_da8c8_8 : decode cJx4a65c_init_da8c8 8 = .ok (.putfield 9, 3) := by decide +kernel
theorem dJx4a65c_init_da8c8_11 : decode cJx4a65c_init_da8c8 11 = .ok (.return_, 1) := by decide +kernel
set_option maxRecDepth 20000 in
theorem ggJx4a65c_grow_92f84_J8_newLength_cabcc : GoodIn wsJx4a65c_grow_92f84 wsJ8_newLength_cabcc := goodIn_r _ [11, 12, 4, 5, 6, 13, 14, 15, 10, 16] (by decide +kernel) (by decide +kernel)
set_option maxRecDepth 20000 in
theorem gJx4a65c_grow_92f84_J8_newLength_cabcc : GoodIn wsJx4a65c_grow_92f84 (va_wsS RJx4a65c 73 yJ8_newLength_cabcc wsJ8_newLength_cabcc) := goodIn_app (goodIn_of _ (by decide +kernel)) ggJx4a65c_grow_92f84_J8_newLength_cabcc
set_option maxRecDepth 20000 in
theorem ggJx4a65c_grow_92f84_J7_copyOf_1904c : GoodIn wsJx4a65c_grow_92f84 wsJ7_copyOf_1904c := goodIn_r _ [20, 21, 22, 23, 24, 25, 26, 19, 27, 28, 29, 30, 31, 5, 32, 33, 34, 35, 36] (by decide +kernel) (by decide +kernel)
set_option maxRecDepth 20000 in
theorem gJx4a65c_grow_92f84_J7_copyOf_1904c : GoodIn wsJx4a65c_grow_92f84 (va_wsS RJx4a65c 66 yJ7_copyOf_1904c wsJ7_copyOf_1904c) := goodIn_app (goodIn_of _ (by decide +kernel)) ggJx4a65c_grow_92f84_J7_copyOf_1904c
theorem dJx4a65c_grow_92f84_0 : decode cJx4a65c_grow_92f84 0 = .ok (.aload_n 0, 1) := by decide +kernel
theorem dJx4a65c_grow_92f84_1 : decode cJx4a65c_grow_92f84 1 = .ok (.getfield 9, 3) := by decide +kernel
theorem dJx4a65c_grow_92f84_4 : decode cJx4a65c_grow_92f84 4 = .ok (.arraylength, 1) := by decide +kernel
theorem dJx4a65c_grow_92f84_5 : decode cJx4a65c_grow_92f84 5 = .ok (.istore_n 2, 1) := by decide +kernel
theorem dJx4a65c_grow_92f84_6 : decode cJx4a65c_grow_92f84 6 = .ok (.iload_n 2, 1) := by decide +kernel
theorem dJx4a65c_grow_92f84_7 : decode cJx4a65c_grow_92f84 7 = .ok (.ifCond .gt 13, 3) := by decide +kernel
theorem dJx4a65c_grow_92f84_10 : decode cJx4a65c_grow_92f84 10 = .ok (.aload_n 0, 1) := by decide +kernel
theorem dJx4a65c_grow_92f84_11 : decode cJx4a65c_grow_92f84 11 = .ok (.getfield 9, 3) := by decide +kernel
theorem dJx4a65c_grow_92f84_14 : decode cJx4a65c_grow_92f84 14 = .ok (.getstatic 39, 3) := by decide +kernel
theorem dJx4a65c_grow_92f84_17 : decode cJx4a65c_grow_92f84 17 = .ok (.if_acmp .eq 28, 3) := by decide +kernel
theorem dJx4a65c_grow_92f84_20 : decode cJx4a65c_grow_92f84 20 = .ok (.iload_n 2, 1) := by decide +kernel
theorem dJx4a65c_grow_92f84_21 : decode cJx4a65c_grow_92f84 21 = .ok (.iload_n 1, 1) := by decide +kernel
theorem dJx4a65c_grow_92f84_22 : decode cJx4a65c_grow_92f84 22 = .ok (.iload_n 2, 1) := by decide +kernel
theorem dJx4a65c_grow_92f84_23 : decode cJx4a65c_grow_92f84 23 = .ok (.isub, 1) := by decide +kernel
theorem dJx4a65c_grow_92f84_24 : decode cJx4a65c_grow_92f84 24 = .ok (.iload_n 2, 1) := by decide +kernel
theorem dJx4a65c_grow_92f84_25 : decode cJx4a65c_grow_92f84 25 = .ok (.iconst 1, 1) := by decide +kernel
theorem dJx4a65c_grow_92f84_26 : decode cJx4a65c_grow_92f84 26 = .ok (.ishr, 1) := by decide +kernel
theorem dJx4a65c_grow_92f84_27 : decode cJx4a65c_grow_92f84 27 = .ok (.invokestatic 73, 3) := by decide +kernel
theorem dJx4a65c_grow_92f84_30 : decode cJx4a65c_grow_92f84 30 = .ok (.istore_n 3, 1) := by decide +kernel
theorem dJx4a65c_grow_92f84_31 : decode cJx4a65c_grow_92f84 31 = .ok (.aload_n 0, 1) := by decide +kernel
theorem dJx4a65c_grow_92f84_32 : decode cJx4a65c_grow_92f84 32 = .ok (.aload_n 0, 1) := by decide +kernel
theorem dJx4a65c_grow_92f84_33 : decode cJx4a65c_grow_92f84 33 = .ok (.getfield 9, 3) := by decide +kernel
theorem dJx4a65c_grow_92f84_36 : decode cJx4a65c_grow_92f84 36 = .ok (.iload_n 3, 1) := by decide +kernel
theorem dJx4a65c_grow_92f84_37 : decode cJx4a65c_grow_92f84 37 = .ok (.invokestatic 66, 3) := by decide +kernel
theorem dJx4a65c_grow_92f84_40 : decode cJx4a65c_grow_92f84 40 = .ok (.dup_x1, 1) := by decide +kernel
theorem dJx4a65c_grow_92f84_41 : decode cJx4a65c_grow_92f84 41 = .ok (.putfield 9, 3) := by decide +kernel
theorem dJx4a65c_grow_92f84_44 : decode cJx4a65c_grow_92f84 44 = .ok (.areturn, 1) := by decide +kernel
theorem dJx4a65c_grow_92f84_45 : decode cJx4a65c_grow_92f84 45 = .ok (.aload_n 0, 1) := by decide +kernel
theorem dJx4a65c_grow_92f84_46 : decode cJx4a65c_grow_92f84 46 = .ok (.bipush 10, 2) := by decide +kernel
theorem dJx4a65c_grow_92f84_48 : decode cJx4a65c_grow_92f84 48 = .ok (.iload_n 1, 1) := by decide +kernel
theorem dJx4a65c_grow_92f84_49 : decode cJx4a65c_grow_92f84 49 = .ok (.invokestatic 79, 3) := by decide +kernel
theorem dJx4a65c_grow_92f84_52 : decode cJx4a65c_grow_92f84 52 = .ok (.anewarray 7, 3) := by decide +kernel
theorem dJx4a65c_grow_92f84_55 : decode cJx4a65c_grow_92f84 55 = .ok (.dup_x1, 1) := by decide +kernel
theorem dJx4a65c_grow_92f84_56 : decode cJx4a65c_grow_92f84 56 = .ok (.putfield 9, 3) := by decide +kernel
theorem dJx4a65c_grow_92f84_59 : decode cJx4a65c_grow_92f84 59 = .ok (.areturn, 1) := by decide +kernel
set_option maxRecDepth 20000 in
theorem ggJx4a65c_grow_d5877_Jx4a65c_grow_92f84 : GoodIn wsJx4a65c_grow_d5877 wsJx4a65c_grow_92f84 := goodIn_r _ [6, 7, 8, 9, 10, 11, 12, 13, 14, 15, 16, 17, 18, 19, 20, 21, 22, 23, 24, 25, 26, 27, 28, 29, 30, 31, 32, 33, 34, 35, 36, 37, 38, 39, 40, 41, 42, 43, 44, 45] (by decide +kernel) (by decide +kernel)
set_option maxRecDepth 20000 in
theorem gJx4a65c_grow_d5877_Jx4a65c_grow_92f84 : GoodIn wsJx4a65c_grow_d5877 (wsV RJx4a65c 69 RJx4a65c yJx4a65c_grow_92f84 wsJx4a65c_grow_92f84) := goodIn_app (goodIn_of _ (by decide +kernel)) ggJx4a65c_grow_d5877_Jx4a65c_grow_92f84
theorem dJx4a65c_grow_d5877_0 : decode cJx4a65c_grow_d5877 0 = .ok (.aload_n 0, 1) := by decide +kernel
theorem dJx4a65c_grow_d5877_1 : decode cJx4a65c_grow_d5877 1 = .ok (.aload_n 0, 1) := by decide +kernel
theorem dJx4a65c_grow_d5877_2 : decode cJx4a65c_grow_d5877 2 = .ok (.getfield 48, 3) := by decide +kernel
theorem dJx4a65c_grow_d5877_5 : decode cJx4a65c_grow_d5877 5 = .ok (.iconst 1, 1) := by decide +kernel
theorem dJx4a65c_grow_d5877_6 : decode cJx4a65c_grow_d5877 6 = .ok (.iadd, 1) := by decide +kernel
theorem dJx4a65c_grow_d5877_7 : decode cJx4a65c_grow_d5877 7 = .ok (.invokevirtual 69, 3) := by decide +kernel
theorem dJx4a65c_grow_d5877_10 : decode cJx4a65c_grow_d5877 10 = .ok (.areturn, 1) := by decide +kernel
theorem dJx4a65c_size_8abf5_0 : decode cJx4a65c_size_8abf5 0 = .ok (.aload_n 0, 1) := by decide +kernel
theorem dJx4a65c_size_8abf5_1 : decode cJx4a65c_size_8abf5 1 = .ok (.getfield 48, 3) := by decide +kernel
theorem dJx4a65c_size_8abf5_4 : decode cJx4a65c_size_8abf5 4 = .ok (.ireturn, 1) := by decide +kernel
theorem dJx4a65c_elementData_915e3_0 : decode cJx4a65c_elementData_915e3 0 = .ok (.aload_n 0, 1) := by decide +kernel
theorem dJx4a65c_elementData_915e3_1 : decode cJx4a65c_elementData_915e3 1 = .ok (.getfield 9, 3) := by decide +kernel
theorem dJx4a65c_elementData_915e3_4 : decode cJx4a65c_elementData_915e3 4 = .ok (.iload_n 1, 1) := by decide +kernel
theorem dJx4a65c_elementData_915e3_5 : decode cJx4a65c_elementData_915e3 5 = .ok (.aaload, 1) := by decide +kernel
theorem dJx4a65c_elementData_915e3_6 : decode cJx4a65c_elementData_915e3 6 = .ok (.areturn, 1) := by decide +kernel
set_option maxRecDepth 20000 in
theorem ggJx4a65c_get_915e3_J15_checkIndex_7cf53 : GoodIn wsJx4a65c_get_915e3 wsJ15_checkIndex_7cf53 := goodIn_r _ [5, 6, 7, 8, 9] (by decide +kernel) (by decide +kernel)
set_option maxRecDepth 20000 in
theorem gJx4a65c_get_915e3_J15_checkIndex_7cf53 : GoodIn wsJx4a65c_get_915e3 (va_wsS RJx4a65c 118 yJ15_checkIndex_7cf53 wsJ15_checkIndex_7cf53) := goodIn_app (goodIn_of _ (by decide +kernel)) ggJx4a65c_get_915e3_J15_checkIndex_7cf53
set_option maxRecDepth 20000 in
theorem ggJx4a65c_get_915e3_Jx4a65c_elementData_915e3 : GoodIn wsJx4a65c_get_915e3 wsJx4a65c_elementData_915e3 := goodIn_r _ [14, 15, 16, 17, 18] (by decide +kernel) (by decide +kernel)
set_option maxRecDepth 20000 in
theorem gJx4a65c_get_915e3_Jx4a65c_elementData_915e3 : GoodIn wsJx4a65c_get_915e3 (wsV RJx4a65c 123 RJx4a65c yJx4a65c_elementData_915e3 wsJx4a65c_elementData_915e3) := goodIn_app (goodIn_of _ (by decide +kernel)) ggJx4a65c_get_915e3_Jx4a65c_elementData_915e3
theorem dJx4a65c_get_915e3_0 : decode cJx4a65c_get_915e3 0 = .ok (.iload_n 1, 1) := by decide +kernel
theorem dJx4a65c_get_915e3_1 : decode cJx4a65c_get_915e3 1 = .ok (.aload_n 0, 1) := by decide +kernel
theorem dJx4a65c_get_915e3_2 : decode cJx4a65c_get_915e3 2 = .ok (.getfield 48, 3) := by decide +kernel
theorem dJx4a65c_get_915e3_5 : decode cJx4a65c_get_915e3 5 = .ok (.invokestatic 118, 3) := by decide +kernel
theorem dJx4a65c_get_915e3_8 : decode cJx4a65c_get_915e3 8 = .ok (.pop, 1) := by decide +kernel
theorem dJx4a65c_get_915e3_9 : decode cJx4a65c_get_915e3 9 = .ok (.aload_n 0, 1) := by decide +kernel
theorem dJx4a65c_get_915e3_10 : decode cJx4a65c_get_915e3 10 = .ok (.iload_n 1, 1) := by decide +kernel
theorem dJx4a65c_get_915e3_11 : decode cJx4a65c_get_915e3 11 = .ok (.invokevirtual 123, 3) := by decide +kernel
theorem dJx4a65c_get_915e3_14 : decode cJx4a65c_get_915e3 14 = .ok (.areturn, 1) := by decide +kernel
set_option maxRecDepth 20000 in
theorem ggJx4a65c_add_72be8_Jx4a65c_grow_d5877 : GoodIn wsJx4a65c_add_72be8 wsJx4a65c_grow_d5877 := goodIn_r _ [6, 1, 7, 8, 9, 5, 10, 11, 12, 13, 14, 15, 16, 17, 18, 19, 20, 21, 22, 23, 24, 25, 26, 27, 28, 29, 30, 31, 32, 33, 34, 35, 36, 37, 38, 39, 40, 41, 42, 43, 44, 45, 46, 47, 48, 49] (by decide +kernel) (by decide +kernel)
set_option maxRecDepth 20000 in
theorem gJx4a65c_add_72be8_Jx4a65c_grow_d5877 : GoodIn wsJx4a65c_add_72be8 (wsV RJx4a65c 129 RJx4a65c yJx4a65c_grow_d5877 wsJx4a65c_grow_d5877) := goodIn_app (goodIn_of _ (by decide +kernel)) ggJx4a65c_add_72be8_Jx4a65c_grow_d5877
theorem dJx4a65c_add_72be8_0 : decode cJx4a65c_add_72be8 0 = .ok (.iload_n 3, 1) := by decide +kernel
theorem dJx4a65c_add_72be8_1 : decode cJx4a65c_add_72be8 1 = .ok (.aload_n 2, 1) := by decide +kernel
theorem dJx4a65c_add_72be8_2 : decode cJx4a65c_add_72be8 2 = .ok (.arraylength, 1) := by decide +kernel
theorem dJx4a65c_add_72be8_3 : decode cJx4a65c_add_72be8 3 = .ok (.if_icmp .ne 8, 3) := by decide +kernel
theorem dJx4a65c_add_72be8_6 : decode cJx4a65c_add_72be8 6 = .ok (.aload_n 0, 1) := by decide +kernel
theorem dJx4a65c_add_72be8_7 : decode cJx4a65c_add_72be8 7 = .ok (.invokevirtual 129, 3) := by decide +kernel
theorem dJx4a65c_add_72be8_10 : decode cJx4a65c_add_72be8 10 = .ok (.astore_n 2, 1) := by decide +kernel
theorem dJx4a65c_add_72be8_11 : decode cJx4a65c_add_72be8 11 = .ok (.aload_n 2, 1) := by decide +kernel
theorem dJx4a65c_add_72be8_12 : decode cJx4a65c_add_72be8 12 = .ok (.iload_n 3, 1) := by decide +kernel
theorem dJx4a65c_add_72be8_13 : decode cJx4a65c_add_72be8 13 = .ok (.aload_n 1, 1) := by decide +kernel
theorem dJx4a65c_add_72be8_14 : decode cJx4a65c_add_72be8 14 = .ok (.aastore, 1) := by decide +kernel
theorem dJx4a65c_add_72be8_15 : decode cJx4a65c_add_72be8 15 = .ok (.aload_n 0, 1) := by decide +kernel
theorem dJx4a65c_add_72be8_16 : decode cJx4a65c_add_72be8 16 = .ok (.iload_n 3, 1) := by decide +kernel
theorem dJx4a65c_add_72be8_17 : decode cJx4a65c_add_72be8 17 = .ok (.iconst 1, 1) := by decide +kernel
theorem dJx4a65c_add_72be8_18 : decode cJx4a65c_add_72be8 18 = .ok (.iadd, 1) := by decide +kernel
theorem dJx4a65c_add_72be8_19 : decode cJx4a65c_add_72be8 19 = .ok (.putfield 48, 3) := by decide +kernel
theorem dJx4a65c_add_72be8_22 : decode cJx4a65c_add_72be8 22 = .ok (.return_, 1) := by decide +kernel
set_option maxRecDepth 20000 in
theorem ggJx4a65c_add_9ea2d_Jx4a65c_add_72be8 : GoodIn wsJx4a65c_add_9ea2d wsJx4a65c_add_72be8 := goodIn_r _ [9, 4, 10, 11, 12, 8, 13, 14, 15, 16, 17, 3, 18, 19, 20, 21, 22, 23, 24, 25, 26, 27, 28, 29, 30, 31, 32, 33, 34, 35, 36, 37, 38, 39, 40, 41, 42, 43, 44, 45, 46, 47, 48, 49, 50, 51, 52, 53, 54, 55] (by decide +kernel) (by decide +kernel)
set_option maxRecDepth 20000 in
theorem gJx4a65c_add_9ea2d_Jx4a65c_add_72be8 : GoodIn wsJx4a65c_add_9ea2d (wsV RJx4a65c 131 RJx4a65c yJx4a65c_add_72be8 wsJx4a65c_add_72be8) := goodIn_app (goodIn_of _ (by decide +kernel)) ggJx4a65c_add_9ea2d_Jx4a65c_add_72be8
theorem dJx4a65c_add_9ea2d_0 : decode cJx4a65c_add_9ea2d 0 = .ok (.aload_n 0, 1) := by decide +kernel
theorem dJx4a65c_add_9ea2d_1 : decode cJx4a65c_add_9ea2d 1 = .ok (.dup, 1) := by decide +kernel
theorem dJx4a65c_add_9ea2d_2 : decode cJx4a65c_add_9ea2d 2 = .ok (.getfield 63, 3) := by decide +kernel
theorem dJx4a65c_add_9ea2d_5 : decode cJx4a65c_add_9ea2d 5 = .ok (.iconst 1, 1) := by decide +kernel
theorem dJx4a65c_add_9ea2d_6 : decode cJx4a65c_add_9ea2d 6 = .ok (.iadd, 1) := by decide +kernel
theorem dJx4a65c_add_9ea2d_7 : decode cJx4a65c_add_9ea2d 7 = .ok (.putfield 63, 3) := by decide +kernel
theorem dJx4a65c_add_9ea2d_10 : decode cJx4a65c_add_9ea2d 10 = .ok (.aload_n 0, 1) := by decide +kernel
theorem dJx4a65c_add_9ea2d_11 : decode cJx4a65c_add_9ea2d 11 = .ok (.aload_n 1, 1) := by decide +kernel
theorem dJx4a65c_add_9ea2d_12 : decode cJx4a65c_add_9ea2d 12 = .ok (.aload_n 0, 1) := by decide +kernel
theorem dJx4a65c_add_9ea2d_13 : decode cJx4a65c_add_9ea2d 13 = .ok (.getfield 9, 3) := by decide +kernel
theorem dJx4a65c_add_9ea2d_16 : decode cJx4a65c_add_9ea2d 16 = .ok (.aload_n 0, 1) := by decide +kernel
theorem dJx4a65c_add_9ea2d_17 : decode cJx4a65c_add_9ea2d 17 = .ok (.getfield 48, 3) := by decide +kernel
theorem dJx4a65c_add_9ea2d_20 : decode cJx4a65c_add_9ea2d 20 = .ok (.invokevirtual 131, 3) := by decide +kernel
theorem dJx4a65c_add_9ea2d_23 : decode cJx4a65c_add_9ea2d 23 = .ok (.iconst 1, 1) := by decide +kernel
theorem dJx4a65c_add_9ea2d_24 : decode cJx4a65c_add_9ea2d 24 = .ok (.ireturn, 1) := by decide +kernel
set_option maxRecDepth 20000 in
theorem ggJ7_copyOf_1904c_J7_copyOf_6403c : GoodIn wsJ7_copyOf_1904c wsJ7_copyOf_6403c := goodIn_r _ [8, 9, 10, 11, 12, 13, 14, 15, 16, 17, 18] (by decide +kernel) (by decide +kernel)
set_option maxRecDepth 20000 in
theorem gJ7_copyOf_1904c_J7_copyOf_6403c : GoodIn wsJ7_copyOf_1904c (va_wsS RJ7 300 yJ7_copyOf_6403c wsJ7_copyOf_6403c) := goodIn_app (goodIn_of _ (by decide +kernel)) ggJ7_copyOf_1904c_J7_copyOf_6403c
theorem dJ7_copyOf_1904c_0 : decode cJ7_copyOf_1904c 0 = .ok (.aload_n 0, 1) := by decide +kernel
theorem dJ7_copyOf_1904c_1 : decode cJ7_copyOf_1904c 1 = .ok (.iload_n 1, 1) := by decide +kernel
theorem dJ7_copyOf_1904c_2 : decode cJ7_copyOf_1904c 2 = .ok (.aload_n 0, 1) := by decide +kernel
theorem dJ7_copyOf_1904c_3 : decode cJ7_copyOf_1904c 3 = .ok (.invokevirtual 86, 3) := by decide +kernel
theorem dJ7_copyOf_1904c_6 : decode cJ7_copyOf_1904c 6 = .ok (.invokestatic 300, 3) := by decide +kernel
theorem dJ7_copyOf_1904c_9 : decode cJ7_copyOf_1904c 9 = .ok (.areturn, 1) := by decide +kernel
theorem dJ7_copyOf_6403c_0 : decode cJ7_copyOf_6403c 0 = .ok (.aload_n 2, 1) := by decide +kernel
theorem dJ7_copyOf_6403c_1 : decode cJ7_copyOf_6403c 1 = .ok (.ldc 110, 2) := by decide +kernel
theorem dJ7_copyOf_6403c_3 : decode cJ7_copyOf_6403c 3 = .ok (.if_acmp .ne 10, 3) := by decide +kernel
theorem dJ7_copyOf_6403c_6 : decode cJ7_copyOf_6403c 6 = .ok (.iload_n 1, 1) := by decide +kernel
theorem dJ7_copyOf_6403c_7 : decode cJ7_copyOf_6403c 7 = .ok (.anewarray 2, 3) := by decide +kernel
theorem dJ7_copyOf_6403c_10 : decode cJ7_copyOf_6403c 10 = .ok (.goto 14, 3) := by decide +kernel
theorem dJ7_copyOf_6403c_13 : decode cJ7_copyOf_6403c 13 = .ok (.aload_n 2, 1) := by decide +kernel
theorem dJ7_copyOf_6403c_14 : decode cJ7_copyOf_6403c 14 = .ok (.invokevirtual 90, 3) := by decide +kernel
theorem dJ7_copyOf_6403c_17 : decode cJ7_copyOf_6403c 17 = .ok (.iload_n 1, 1) := by decide +kernel
theorem dJ7_copyOf_6403c_18 : decode cJ7_copyOf_6403c 18 = .ok (.invokestatic 95, 3) := by decide +kernel
theorem dJ7_copyOf_6403c_21 : decode cJ7_copyOf_6403c 21 = .ok (.checkcast 110, 3) := by decide +kernel
theorem dJ7_copyOf_6403c_24 : decode cJ7_copyOf_6403c 24 = .ok (.astore_n 3, 1) := by decide +kernel
theorem dJ7_copyOf_6403c_25 : decode cJ7_copyOf_6403c 25 = .ok (.aload_n 0, 1) := by decide +kernel
theorem dJ7_copyOf_6403c_26 : decode cJ7_copyOf_6403c 26 = .ok (.iconst 0, 1) := by decide +kernel
theorem dJ7_copyOf_6403c_27 : decode cJ7_copyOf_6403c 27 = .ok (.aload_n 3, 1) := by decide +kernel
theorem dJ7_copyOf_6403c_28 : decode cJ7_copyOf_6403c 28 = .ok (.iconst 0, 1) := by decide +kernel
theorem dJ7_copyOf_6403c_29 : decode cJ7_copyOf_6403c 29 = .ok (.aload_n 0, 1) := by decide +kernel
theorem dJ7_copyOf_6403c_30 : decode cJ7_copyOf_6403c 30 = .ok (.arraylength, 1) := by decide +kernel
theorem dJ7_copyOf_6403c_31 : decode cJ7_copyOf_6403c 31 = .ok (.iload_n 1, 1) := by decide +kernel
theorem dJ7_copyOf_6403c_32 : decode cJ7_copyOf_6403c 32 = .ok (.invokestatic 304, 3) := by decide +kernel
theorem dJ7_copyOf_6403c_35 : decode cJ7_copyOf_6403c 35 = .ok (.invokestatic 150, 3) := by decide +kernel
theorem dJ7_copyOf_6403c_38 : decode cJ7_copyOf_6403c 38 = .ok (.aload_n 3, 1) := by decide +kernel
theorem dJ7_copyOf_6403c_39 : decode cJ7_copyOf_6403c 39 = .ok (.areturn, 1) := by decide +kernel
theorem dJ7_copyOf_c38d5_0 : decode cJ7_copyOf_c38d5 0 = .ok (.iload_n 1, 1) := by decide +kernel
theorem dJ7_copyOf_c38d5_1 : decode cJ7_copyOf_c38d5 1 = .ok (.aload_n 0, 1) := by decide +kernel
theorem dJ7_copyOf_c38d5_2 : decode cJ7_copyOf_c38d5 2 = .ok (.arraylength, 1) := by decide +kernel
theorem dJ7_copyOf_c38d5_3 : decode cJ7_copyOf_c38d5 3 = .ok (.if_icmp .ne 11, 3) := by decide +kernel
theorem dJ7_copyOf_c38d5_6 : decode cJ7_copyOf_c38d5 6 = .ok (.aload_n 0, 1) := by decide +kernel
theorem dJ7_copyOf_c38d5_7 : decode cJ7_copyOf_c38d5 7 = .ok (.invokevirtual 319, 3) := by decide +kernel
theorem dJ7_copyOf_c38d5_10 : decode cJ7_copyOf_c38d5 10 = .ok (.checkcast 320, 3) := by decide +kernel
theorem dJ7_copyOf_c38d5_13 : decode cJ7_copyOf_c38d5 13 = .ok (.areturn, 1) := by decide +kernel
theorem dJ7_copyOf_c38d5_14 : decode cJ7_copyOf_c38d5 14 = .ok (.iload_n 1, 1) := by decide +kernel
theorem dJ7_copyOf_c38d5_15 : decode cJ7_copyOf_c38d5 15 = .ok (.newarray .long, 2) := by decide +kernel
theorem dJ7_copyOf_c38d5_17 : decode cJ7_copyOf_c38d5 17 = .ok (.astore_n 2, 1) := by decide +kernel
theorem dJ7_copyOf_c38d5_18 : decode cJ7_copyOf_c38d5 18 = .ok (.aload_n 0, 1) := by decide +kernel
theorem dJ7_copyOf_c38d5_19 : decode cJ7_copyOf_c38d5 19 = .ok (.iconst 0, 1) := by decide +kernel
theorem dJ7_copyOf_c38d5_20 : decode cJ7_copyOf_c38d5 20 = .ok (.aload_n 2, 1) := by decide +kernel
theorem dJ7_copyOf_c38d5_21 : decode cJ7_copyOf_c38d5 21 = .ok (.iconst 0, 1) := by decide +kernel
theorem dJ7_copyOf_c38d5_22 : decode cJ7_copyOf_c38d5 22 = .ok (.aload_n 0, 1) := by decide +kernel
theorem dJ7_copyOf_c38d5_23 : decode cJ7_copyOf_c38d5 23 = .ok (.arraylength, 1) := by decide +kernel
theorem dJ7_copyOf_c38d5_24 : decode cJ7_copyOf_c38d5 24 = .ok (.iload_n 1, 1) := by decide +kernel
theorem dJ7_copyOf_c38d5_25 : decode cJ7_copyOf_c38d5 25 = .ok (.invokestatic 304, 3) := by decide +kernel
theorem dJ7_copyOf_c38d5_28 : decode cJ7_copyOf_c38d5 28 = .ok (.invokestatic 150, 3) := by decide +kernel
theorem dJ7_copyOf_c38d5_31 : decode cJ7_copyOf_c38d5 31 = .ok (.aload_n 2, 1) := by decide +kernel
theorem dJ7_copyOf_c38d5_32 : decode cJ7_copyOf_c38d5 32 = .ok (.areturn, 1) := by decide +kernel
set_option maxRecDepth 20000 in
theorem ggJ15_checkIndex_7cf53_J3_checkIndex_8e157 : GoodIn wsJ15_checkIndex_7cf53 wsJ3_checkIndex_8e157 := goodIn_r _ [4] (by decide +kernel) (by decide +kernel)
set_option maxRecDepth 20000 in
theorem gJ15_checkIndex_7cf53_J3_checkIndex_8e157 : GoodIn wsJ15_checkIndex_7cf53 (va_wsS RJ15 105 yJ3_checkIndex_8e157 wsJ3_checkIndex_8e157) := goodIn_app (goodIn_of _ (by decide +kernel)) ggJ15_checkIndex_7cf53_J3_checkIndex_8e157
theorem dJ15_checkIndex_7cf53_0 : decode cJ15_checkIndex_7cf53 0 = .ok (.iload_n 0, 1) := by decide +kernel
theorem dJ15_checkIndex_7cf53_1 : decode cJ15_checkIndex_7cf53 1 = .ok (.iload_n 1, 1) := by decide +kernel
theorem dJ15_checkIndex_7cf53_2 : decode cJ15_checkIndex_7cf53 2 = .ok (.aconst_null, 1) := by decide +kernel
theorem dJ15_checkIndex_7cf53_3 : decode cJ15_checkIndex_7cf53 3 = .ok (.invokestatic 105, 3) := by decide +kernel
theorem dJ15_checkIndex_7cf53_6 : decode cJ15_checkIndex_7cf53 6 = .ok (.ireturn, 1) := by decide +kernel
set_option maxRecDepth 20000 in
theorem ggJ8_newLength_cabcc_J8_hugeLength_7cf53 : GoodIn wsJ8_newLength_cabcc wsJ8_hugeLength_7cf53 := goodIn_r _ [9, 5] (by decide +kernel) (by decide +kernel)
set_option maxRecDepth 20000 in
theorem gJ8_newLength_cabcc_J8_hugeLength_7cf53 : GoodIn wsJ8_newLength_cabcc (va_wsS RJ8 201 yJ8_hugeLength_7cf53 wsJ8_hugeLength_7cf53) := goodIn_app (goodIn_of _ (by decide +kernel)) ggJ8_newLength_cabcc_J8_hugeLength_7cf53
theorem dJ8_newLength_cabcc_0 : decode cJ8_newLength_cabcc 0 = .ok (.iload_n 0, 1) := by decide +kernel
theorem dJ8_newLength_cabcc_1 : decode cJ8_newLength_cabcc 1 = .ok (.iload_n 1, 1) := by decide +kernel
theorem dJ8_newLength_cabcc_2 : decode cJ8_newLength_cabcc 2 = .ok (.iload_n 2, 1) := by decide +kernel
theorem dJ8_newLength_cabcc_3 : decode cJ8_newLength_cabcc 3 = .ok (.invokestatic 194, 3) := by decide +kernel
theorem dJ8_newLength_cabcc_6 : decode cJ8_newLength_cabcc 6 = .ok (.iadd, 1) := by decide +kernel
theorem dJ8_newLength_cabcc_7 : decode cJ8_newLength_cabcc 7 = .ok (.istore_n 3, 1) := by decide +kernel
theorem dJ8_newLength_cabcc_8 : decode cJ8_newLength_cabcc 8 = .ok (.iconst 0, 1) := by decide +kernel
theorem dJ8_newLength_cabcc_9 : decode cJ8_newLength_cabcc 9 = .ok (.iload_n 3, 1) := by decide +kernel
theorem dJ8_newLength_cabcc_10 : decode cJ8_newLength_cabcc 10 = .ok (.if_icmp .ge 11, 3) := by decide +kernel
theorem dJ8_newLength_cabcc_13 : decode cJ8_newLength_cabcc 13 = .ok (.iload_n 3, 1) := by decide +kernel
theorem dJ8_newLength_cabcc_14 : decode cJ8_newLength_cabcc 14 = .ok (.ldc 200, 2) := by decide +kernel
theorem dJ8_newLength_cabcc_16 : decode cJ8_newLength_cabcc 16 = .ok (.if_icmp .gt 5, 3) := by decide +kernel
theorem dJ8_newLength_cabcc_19 : decode cJ8_newLength_cabcc 19 = .ok (.iload_n 3, 1) := by decide +kernel
theorem dJ8_newLength_cabcc_20 : decode cJ8_newLength_cabcc 20 = .ok (.ireturn, 1) := by decide +kernel
theorem dJ8_newLength_cabcc_21 : decode cJ8_newLength_cabcc 21 = .ok (.iload_n 0, 1) := by decide +kernel
theorem dJ8_newLength_cabcc_22 : decode cJ8_newLength_cabcc 22 = .ok (.iload_n 1, 1) := by decide +kernel
theorem dJ8_newLength_cabcc_23 : decode cJ8_newLength_cabcc 23 = .ok (.invokestatic 201, 3) := by decide +kernel
theorem dJ8_newLength_cabcc_26 : decode cJ8_newLength_cabcc 26 = .ok (.ireturn, 1) := by decide +kernel
theorem dJ8_hugeLength_7cf53_0 : decode cJ8_hugeLength_7cf53 0 = .ok (.iload_n 0, 1) := by decide +kernel
theorem dJ8_hugeLength_7cf53_1 : decode cJ8_hugeLength_7cf53 1 = .ok (.iload_n 1, 1) := by decide +kernel
theorem dJ8_hugeLength_7cf53_2 : decode cJ8_hugeLength_7cf53 2 = .ok (.iadd, 1) := by decide +kernel
theorem dJ8_hugeLength_7cf53_3 : decode cJ8_hugeLength_7cf53 3 = .ok (.istore_n 2, 1) := by decide +kernel
theorem dJ8_hugeLength_7cf53_4 : decode cJ8_hugeLength_7cf53 4 = .ok (.iload_n 2, 1) := by decide +kernel
theorem dJ8_hugeLength_7cf53_5 : decode cJ8_hugeLength_7cf53 5 = .ok (.ifCond .ge 44, 3) := by decide +kernel
theorem dJ8_hugeLength_7cf53_8 : decode cJ8_hugeLength_7cf53 8 = .ok (.new 204, 3) := by decide +kernel
theorem dJ8_hugeLength_7cf53_11 : decode cJ8_hugeLength_7cf53 11 = .ok (.dup, 1) := by decide +kernel
theorem dJ8_hugeLength_7cf53_12 : decode cJ8_hugeLength_7cf53 12 = .ok (.new 89, 3) := by decide +kernel
theorem dJ8_hugeLength_7cf53_15 : decode cJ8_hugeLength_7cf53 15 = .ok (.dup, 1) := by decide +kernel
theorem dJ8_hugeLength_7cf53_16 : decode cJ8_hugeLength_7cf53 16 = .ok (.invokespecial 91, 3) := by decide +kernel
theorem dJ8_hugeLength_7cf53_19 : decode cJ8_hugeLength_7cf53 19 = .ok (.ldc 206, 2) := by decide +kernel
theorem dJ8_hugeLength_7cf53_21 : decode cJ8_hugeLength_7cf53 21 = .ok (.invokevirtual 94, 3) := by decide +kernel
theorem dJ8_hugeLength_7cf53_24 : decode cJ8_hugeLength_7cf53 24 = .ok (.iload_n 0, 1) := by decide +kernel
theorem dJ8_hugeLength_7cf53_25 : decode cJ8_hugeLength_7cf53 25 = .ok (.invokevirtual 98, 3) := by decide +kernel
theorem dJ8_hugeLength_7cf53_28 : decode cJ8_hugeLength_7cf53 28 = .ok (.ldc 208, 2) := by decide +kernel
theorem dJ8_hugeLength_7cf53_30 : decode cJ8_hugeLength_7cf53 30 = .ok (.invokevirtual 94, 3) := by decide +kernel
theorem dJ8_hugeLength_7cf53_33 : decode cJ8_hugeLength_7cf53 33 = .ok (.iload_n 1, 1) := by decide +kernel
theorem dJ8_hugeLength_7cf53_34 : decode cJ8_hugeLength_7cf53 34 = .ok (.invokevirtual 98, 3) := by decide +kernel
theorem dJ8_hugeLength_7cf53_37 : decode cJ8_hugeLength_7cf53 37 = .ok (.ldc 210, 2) := by decide +kernel
theorem dJ8_hugeLength_7cf53_39 : decode cJ8_hugeLength_7cf53 39 = .ok (.invokevirtual 94, 3) := by decide +kernel
theorem dJ8_hugeLength_7cf53_42 : decode cJ8_hugeLength_7cf53 42 = .ok (.invokevirtual 101, 3) := by decide +kernel
theorem dJ8_hugeLength_7cf53_45 : decode cJ8_hugeLength_7cf53 45 = .ok (.invokespecial 212, 3) := by decide +kernel
theorem dJ8_hugeLength_7cf53_48 : decode cJ8_hugeLength_7cf53 48 = .ok (.athrow, 1) := by decide +kernel
theorem dJ8_hugeLength_7cf53_49 : decode cJ8_hugeLength_7cf53 49 = .ok (.iload_n 2, 1) := by decide +kernel
theorem dJ8_hugeLength_7cf53_50 : decode cJ8_hugeLength_7cf53 50 = .ok (.ldc 200, 2) := by decide +kernel
theorem dJ8_hugeLength_7cf53_52 : decode cJ8_hugeLength_7cf53 52 = .ok (.if_icmp .gt 6, 3) := by decide +kernel
theorem dJ8_hugeLength_7cf53_55 : decode cJ8_hugeLength_7cf53 55 = .ok (.ldc 200, 2) := by decide +kernel
theorem dJ8_hugeLength_7cf53_57 : decode cJ8_hugeLength_7cf53 57 = .ok (.ireturn, 1) := by decide +kernel
theorem dJ8_hugeLength_7cf53_58 : decode cJ8_hugeLength_7cf53 58 = .ok (.iload_n 2, 1) := by decide +kernel
theorem dJ8_hugeLength_7cf53_59 : decode cJ8_hugeLength_7cf53 59 = .ok (.ireturn, 1) := by decide +kernel
theorem dJ3_checkIndex_8e157_0 : decode cJ3_checkIndex_8e157 0 = .ok (.iload_n 0, 1) := by decide +kernel
theorem dJ3_checkIndex_8e157_1 : decode cJ3_checkIndex_8e157 1 = .ok (.ifCond .lt 8, 3) := by decide +kernel
theorem dJ3_checkIndex_8e157_4 : decode cJ3_checkIndex_8e157 4 = .ok (.iload_n 0, 1) := by decide +kernel
theorem dJ3_checkIndex_8e157_5 : decode cJ3_checkIndex_8e157 5 = .ok (.iload_n 1, 1) := by decide +kernel
theorem dJ3_checkIndex_8e157_6 : decode cJ3_checkIndex_8e157 6 = .ok (.if_icmp .lt 10, 3) := by decide +kernel
theorem dJ3_checkIndex_8e157_9 : decode cJ3_checkIndex_8e157 9 = .ok (.aload_n 2, 1) := by decide +kernel
theorem dJ3_checkIndex_8e157_10 : decode cJ3_checkIndex_8e157 10 = .ok (.iload_n 0, 1) := by decide +kernel
theorem dJ3_checkIndex_8e157_11 : decode cJ3_checkIndex_8e157 11 = .ok (.iload_n 1, 1) := by decide +kernel
theorem dJ3_checkIndex_8e157_12 : decode cJ3_checkIndex_8e157 12 = .ok (.invokestatic 95, 3) := by decide +kernel
theorem dJ3_checkIndex_8e157_15 : decode cJ3_checkIndex_8e157 15 = .ok (.athrow, 1) := by decide +kernel
theorem dJ3_checkIndex_8e157_16 : decode cJ3_checkIndex_8e157 16 = .ok (.iload_n 0, 1) := by decide +kernel
theorem dJ3_checkIndex_8e157_17 : decode cJ3_checkIndex_8e157 17 = .ok (.ireturn, 1) := by decide +kernel
theorem dL_below_0 : decode cL_below 0 = .ok (.iload_n 0, 1) := by decide +kernel
theorem dL_below_1 : decode cL_below 1 = .ok (.ldc 7, 2) := by decide +kernel
theorem dL_below_3 : decode cL_below 3 = .ok (.iand, 1) := by decide +kernel
theorem dL_below_4 : decode cL_below 4 = .ok (.iload_n 1, 1) := by decide +kernel
theorem dL_below_5 : decode cL_below 5 = .ok (.irem, 1) := by decide +kernel
theorem dL_below_6 : decode cL_below 6 = .ok (.ireturn, 1) := by decide +kernel
theorem dL_cell_0 : decode cL_cell 0 = .ok (.iload_n 1, 1) := by decide +kernel
theorem dL_cell_1 : decode cL_cell 1 = .ok (.aload_n 0, 1) := by decide +kernel
theorem dL_cell_2 : decode cL_cell 2 = .ok (.arraylength, 1) := by decide +kernel
theorem dL_cell_3 : decode cL_cell 3 = .ok (.if_icmp .ge 9, 3) := by decide +kernel
theorem dL_cell_6 : decode cL_cell 6 = .ok (.aload_n 0, 1) := by decide +kernel
theorem dL_cell_7 : decode cL_cell 7 = .ok (.iload_n 1, 1) := by decide +kernel
theorem dL_cell_8 : decode cL_cell 8 = .ok (.iaload, 1) := by decide +kernel
theorem dL_cell_9 : decode cL_cell 9 = .ok (.goto 9, 3) := by decide +kernel
theorem dL_cell_12 : decode cL_cell 12 = .ok (.ldc 8, 2) := by decide +kernel
theorem dL_cell_14 : decode cL_cell 14 = .ok (.iload_n 1, 1) := by decide +kernel
theorem dL_cell_15 : decode cL_cell 15 = .ok (.iconst 3, 1) := by decide +kernel
theorem dL_cell_16 : decode cL_cell 16 = .ok (.iadd, 1) := by decide +kernel
theorem dL_cell_17 : decode cL_cell 17 = .ok (.imul, 1) := by decide +kernel
theorem dL_cell_18 : decode cL_cell 18 = .ok (.ireturn, 1) := by decide +kernel
set_option maxRecDepth 20000 in
theorem ggL_law_X10_init : GoodIn wsL_law wsX10_init := goodIn_r _ [11, 12, 13, 14, 15, 16, 17, 18, 19, 20, 21, 22, 23, 24, 25, 26, 27, 28, 29, 30, 31, 32, 33, 34, 35, 36, 37, 38, 39, 40, 41, 42, 43, 44, 45, 892, 893, 894, 895, 896, 897, 898, 899, 887, 888, 889, 890, 891, 900, 901, 902] (by decide +kernel) (by decide +kernel)
set_option maxRecDepth 20000 in
theorem gL_law_X10_init : GoodIn wsL_law (wsX10_init) := ggL_law_X10_init
set_option maxRecDepth 20000 in
theorem ggL_law_L_cell : GoodIn wsL_law wsL_cell := goodIn_r _ [49, 50] (by decide +kernel) (by decide +kernel)
set_option maxRecDepth 20000 in
theorem gL_law_L_cell : GoodIn wsL_law (va_wsS RL 12 yL_cell wsL_cell) := goodIn_app (goodIn_of _ (by decide +kernel)) ggL_law_L_cell
set_option maxRecDepth 20000 in
theorem ggL_law_L_below : GoodIn wsL_law wsL_below := goodIn_r _ [53, 54] (by decide +kernel) (by decide +kernel)
set_option maxRecDepth 20000 in
theorem gL_law_L_below : GoodIn wsL_law (va_wsS RL 18 yL_below wsL_below) := goodIn_app (goodIn_of _ (by decide +kernel)) ggL_law_L_below
set_option maxRecDepth 20000 in
theorem ggL_law_L_add : GoodIn wsL_law wsL_add := goodIn_ca (goodIn_ca (goodIn_ca (goodIn_r _ [57, 58, 51, 52, 48, 53, 54, 59, 60, 61, 2, 62, 63, 64, 65, 66, 67, 68, 69, 70, 71, 72, 73, 74, 75, 76, 77, 78, 79, 80, 18, 81, 82, 83, 17, 84, 27, 85, 86, 87, 26, 88, 89, 90, 91, 92, 93, 13, 14, 94, 95, 96, 97, 98, 99, 100, 101, 102, 103, 19, 104, 105, 106, 107, 108, 109, 110, 111, 112, 113, 114, 115, 116, 117, 118, 119, 120, 121, 122, 123, 124, 125, 126, 127, 128, 35, 129, 130, 131, 132, 133, 134, 5, 6, 7, 135, 136, 137, 138, 139, 140, 141, 142, 143, 144, 145, 146, 147, 30, 148, 149, 150, 151, 152, 153, 154, 155, 156, 157, 158, 159, 160, 161, 162, 163, 164, 165, 166, 167, 168, 169, 170, 171, 172, 173, 174, 175, 176, 177, 178, 179, 180, 181, 182, 183, 184, 185, 34, 186, 187, 188, 189, 190, 191, 192, 193, 194, 195, 196, 197, 198, 199, 200, 201, 202, 203, 204, 205, 206, 207, 208, 209, 210, 211, 212, 213, 214, 215, 216, 217, 218, 219, 220, 221, 222, 223, 224, 225, 226, 227, 228, 229, 230, 231, 232, 233, 234, 235, 236, 237, 238, 239, 240, 241, 25, 242, 32, 33, 36, 37, 38, 39, 40, 41, 42, 43, 44, 45, 243, 244, 245, 246, 247, 248, 249, 250, 251, 252, 253, 254, 255, 256, 257, 258, 259, 260, 261, 262, 263, 264, 265, 266, 267, 268, 269, 270, 271, 272, 273, 274, 275, 276, 277, 278, 279, 280, 281, 282, 283, 284, 285, 286, 287, 288, 289, 290, 291, 292, 293, 294, 295, 296, 297, 298, 299, 300, 301, 903, 904, 905, 906, 907, 908, 909, 910, 911, 912, 913, 914, 915, 916, 917, 887, 888, 889, 890, 891, 892, 893, 894, 895, 896, 897, 898, 899, 900, 901, 902, 918, 919, 920, 921, 922, 923, 924, 925, 926, 927, 928, 929, 930, 931, 932, 933, 934, 935, 936, 937, 938, 939, 940, 941, 942, 943, 944, 945, 946, 947, 948, 949] (by decide +kernel) (by decide +kernel)) (goodIn_sub (fun _ h => List.mem_append_left _ (List.mem_append_left _ (List.mem_append_right _ h))) (by decide +kernel))) (goodIn_sub (fun _ h => List.mem_append_left _ (List.mem_append_right _ h)) (by decide +kernel))) (goodIn_sub (fun _ h => List.mem_append_right _ h) (by decide +kernel))
set_option maxRecDepth 20000 in
theorem gL_law_L_add : GoodIn wsL_law (va_wsS RL 22 yL_add wsL_add) := goodIn_app (goodIn_of _ (by decide +kernel)) ggL_law_L_add
set_option maxRecDepth 20000 in
theorem ggL_law_X10_stages : GoodIn wsL_law wsX10_stages := goodIn_r _ [305, 18, 81, 82, 83, 17, 84, 27, 85, 86, 87, 26, 88, 89, 887, 888, 889, 890, 891, 892, 893, 894, 895, 896, 897, 898, 899, 900, 901, 902] (by decide +kernel) (by decide +kernel)
set_option maxRecDepth 20000 in
theorem gL_law_X10_stages : GoodIn wsL_law (wsV RL 26 RX10 yX10_stages wsX10_stages) := goodIn_app (goodIn_of _ (by decide +kernel)) ggL_law_X10_stages
set_option maxRecDepth 20000 in
theorem ggL_law_X10_start : GoodIn wsL_law wsX10_start := goodIn_ca (goodIn_r _ [309, 78, 79, 80, 18, 81, 82, 83, 17, 84, 27, 85, 86, 87, 26, 88, 89, 887, 888, 889, 890, 891, 892, 893, 894, 895, 896, 897, 898, 899, 900, 901, 902] (by decide +kernel) (by decide +kernel)) (goodIn_sub (fun _ h => List.mem_append_left _ (List.mem_append_right _ h)) (by decide +kernel))
set_option maxRecDepth 20000 in
theorem gL_law_X10_start : GoodIn wsL_law (wsV RL 30 RX10 yX10_start wsX10_start) := goodIn_app (goodIn_of _ (by decide +kernel)) ggL_law_X10_start
set_option maxRecDepth 20000 in
theorem ggL_law_X10_setCapacity : GoodIn wsL_law wsX10_setCapacity := goodIn_ca (goodIn_r _ [313, 18, 66, 67, 2, 68, 69, 70, 71, 72, 73, 887, 888, 889, 890, 891, 892, 893, 894, 895, 896, 897, 898, 899] (by decide +kernel) (by decide +kernel)) (goodIn_sub (fun _ h => List.mem_append_left _ (List.mem_append_left _ (List.mem_append_right _ h))) (by decide +kernel))
set_option maxRecDepth 20000 in
theorem gL_law_X10_setCapacity : GoodIn wsL_law (wsV RL 33 RX10 yX10_setCapacity wsX10_setCapacity) := goodIn_app (goodIn_of _ (by decide +kernel)) ggL_law_X10_setCapacity
set_option maxRecDepth 20000 in
theorem ggL_law_X10_markOf : GoodIn wsL_law wsX10_markOf := goodIn_ca (goodIn_r _ [317, 268, 269, 270, 2, 271, 272, 273, 18, 108, 109, 110, 17, 111, 27, 112, 85, 86, 87, 26, 88, 89, 113, 114, 115, 116, 117, 118, 119, 120, 121, 122, 123, 124, 125, 126, 127, 128, 35, 920, 921, 922, 923, 924, 925, 926, 927, 928, 929, 930, 931, 937, 938, 939, 940, 941, 942, 943, 944, 945, 946, 947, 887, 888, 889, 890, 891, 892, 893, 894, 895, 896, 897, 898, 899, 900, 901, 902] (by decide +kernel) (by decide +kernel)) (goodIn_sub (fun _ h => List.mem_append_right _ h) (by decide +kernel))
set_option maxRecDepth 20000 in
theorem gL_law_X10_markOf : GoodIn wsL_law (wsV RL 37 RX10 yX10_markOf wsX10_markOf) := goodIn_app (goodIn_of _ (by decide +kernel)) ggL_law_X10_markOf
set_option maxRecDepth 20000 in
theorem ggL_law_L_offer : GoodIn wsL_law wsL_offer := goodIn_ca (goodIn_ca (goodIn_ca (goodIn_r _ [320, 264, 265, 266, 2, 267, 268, 269, 270, 271, 272, 273, 18, 108, 109, 110, 17, 111, 27, 112, 85, 86, 87, 26, 88, 89, 113, 114, 115, 116, 117, 118, 119, 120, 121, 122, 123, 124, 125, 126, 127, 128, 35, 321, 322, 323, 324, 78, 79, 325, 326, 327, 328, 329, 69, 70, 71, 72, 73, 66, 67, 68, 330, 331, 332, 333, 80, 334, 335, 336, 103, 337, 338, 339, 340, 341, 342, 343, 344, 345, 346, 347, 140, 348, 349, 350, 199, 351, 352, 353, 354, 355, 356, 357, 139, 210, 211, 6, 212, 213, 214, 215, 216, 920, 921, 922, 923, 924, 925, 926, 927, 928, 929, 930, 931, 903, 904, 905, 906, 907, 908, 909, 910, 911, 912, 913, 914, 915, 916, 917, 887, 888, 889, 890, 891, 892, 893, 894, 895, 896, 897, 898, 899, 900, 901, 902, 918, 919] (by decide +kernel) (by decide +kernel)) (goodIn_sub (fun _ h => List.mem_append_right _ h) (by decide +kernel))) (goodIn_sub (fun _ h => List.mem_append_left _ (List.mem_append_right _ h)) (by decide +kernel))) (goodIn_sub (fun _ h => List.mem_append_left _ (List.mem_append_left _ (List.mem_append_right _ h))) (by decide +kernel))
set_option maxRecDepth 20000 in
theorem gL_law_L_offer : GoodIn wsL_law (va_wsS RL 45 yL_offer wsL_offer) := goodIn_app (goodIn_of _ (by decide +kernel)) ggL_law_L_offer
set_option maxRecDepth 20000 in
theorem ggL_law_X10_work : GoodIn wsL_law wsX10_work := goodIn_ca (goodIn_ca (goodIn_r _ [361, 18, 362, 66, 67, 2, 68, 69, 70, 71, 72, 73, 363, 364, 365, 366, 78, 79, 80, 367, 368, 369, 17, 370, 27, 29, 28, 85, 86, 87, 26, 88, 89, 152, 109, 110, 111, 112, 113, 114, 115, 116, 117, 118, 119, 120, 121, 122, 123, 124, 125, 126, 127, 128, 35, 371, 372, 373, 147, 374, 223, 232, 375, 376, 229, 377, 234, 235, 378, 379, 380, 156, 381, 161, 382, 335, 336, 103, 337, 338, 383, 384, 385, 386, 162, 387, 388, 211, 6, 212, 389, 390, 391, 392, 393, 394, 233, 395, 396, 397, 398, 160, 399, 400, 401, 402, 403, 404, 167, 405, 406, 407, 408, 409, 410, 411, 412, 413, 414, 415, 416, 417, 418, 140, 419, 214, 215, 216, 420, 421, 422, 423, 30, 424, 425, 426, 341, 427, 428, 429, 430, 431, 432, 433, 434, 435, 436, 437, 345, 346, 347, 348, 349, 350, 199, 351, 352, 353, 354, 355, 356, 357, 139, 210, 213, 438, 439, 440, 228, 441, 246, 247, 248, 249, 442, 443, 444, 445, 253, 255, 256, 446, 447, 448, 252, 449, 261, 262, 450, 451, 452, 453, 454, 455, 5, 7, 456, 457, 458, 459, 460, 461, 462, 463, 464, 465, 466, 230, 231, 467, 468, 469, 470, 471, 472, 473, 474, 475, 476, 477, 478, 479, 480, 481, 482, 483, 484, 485, 486, 487, 488, 489, 490, 491, 492, 493, 494, 495, 496, 497, 498, 499, 500, 501, 502, 503, 504, 505, 506, 507, 508, 509, 510, 511, 512, 513, 514, 515, 516, 517, 518, 519, 520, 521, 522, 523, 524, 525, 340, 342, 343, 526, 527, 528, 529, 530, 531, 532, 533, 534, 535, 536, 537, 538, 539, 540, 541, 542, 543, 544, 545, 546, 547, 548, 549, 550, 551, 552, 553, 554, 555, 556, 557, 558, 559, 560, 561, 562, 563, 564, 565, 566, 567, 568, 569, 570, 571, 572, 573, 574, 575, 576, 577, 578, 579, 580, 581, 582, 583, 584, 585, 586, 587, 588, 589, 590, 591, 592, 593, 594, 595, 596, 597, 598, 599, 600, 601, 602, 603, 604, 605, 606, 607, 608, 609, 610, 611, 612, 613, 614, 615, 616, 617, 618, 619, 620, 621, 622, 623, 624, 625, 626, 627, 628, 629, 630, 631, 632, 633, 634, 635, 636, 637, 638, 639, 640, 641, 642, 643, 644, 645, 646, 647, 648, 649, 650, 651, 652, 653, 654, 655, 656, 236, 225, 657, 658, 659, 660, 661, 662, 663, 664, 665, 887, 888, 889, 890, 891, 892, 893, 894, 895, 896, 897, 898, 899, 900, 901, 902, 920, 921, 922, 923, 924, 925, 926, 927, 928, 929, 930, 931, 903, 904, 905, 906, 907, 908, 909, 910, 911, 912, 913, 914, 915, 916, 917, 937, 938, 939, 940, 941, 942, 943, 944, 945, 946, 947, 935, 936, 918, 919, 932, 933, 934, 948, 949] (by decide +kernel) (by decide +kernel)) (goodIn_sub (fun _ h => List.mem_append_left _ (List.mem_append_left _ (List.mem_append_right _ h))) (by decide +kernel))) (goodIn_sub (fun _ h => List.mem_append_left _ (List.mem_append_right _ h)) (by decide +kernel))
set_option maxRecDepth 20000 in
theorem gL_law_X10_work : GoodIn wsL_law (wsV RL 49 RX10 yX10_work wsX10_work) := goodIn_app (goodIn_of _ (by decide +kernel)) ggL_law_X10_work
set_option maxRecDepth 20000 in
theorem ggL_law_X10_workAt : GoodIn wsL_law wsX10_workAt := goodIn_ca (goodIn_ca (goodIn_r _ [669, 18, 362, 268, 269, 270, 2, 271, 272, 273, 108, 109, 110, 17, 111, 27, 112, 85, 86, 87, 26, 88, 89, 113, 114, 115, 116, 117, 118, 119, 120, 121, 122, 123, 124, 125, 126, 127, 128, 35, 363, 364, 365, 366, 78, 79, 80, 670, 372, 373, 147, 374, 223, 232, 375, 376, 229, 377, 234, 235, 378, 379, 380, 156, 381, 161, 382, 335, 336, 103, 337, 338, 383, 384, 385, 386, 162, 387, 388, 211, 6, 212, 389, 390, 391, 392, 393, 394, 233, 395, 396, 397, 398, 160, 399, 400, 401, 402, 403, 404, 167, 405, 406, 407, 408, 409, 410, 29, 152, 411, 412, 413, 414, 415, 416, 417, 418, 140, 419, 214, 215, 216, 420, 421, 422, 423, 30, 424, 425, 426, 341, 427, 428, 429, 430, 431, 432, 433, 434, 435, 436, 437, 345, 346, 347, 348, 349, 350, 199, 351, 352, 353, 354, 355, 356, 357, 139, 210, 213, 438, 439, 440, 228, 441, 246, 247, 248, 249, 442, 443, 444, 445, 253, 255, 256, 446, 447, 448, 252, 449, 261, 262, 450, 451, 452, 453, 454, 455, 5, 7, 456, 457, 458, 459, 460, 461, 462, 463, 464, 465, 466, 230, 231, 467, 468, 469, 470, 471, 472, 473, 474, 475, 476, 477, 478, 479, 480, 481, 482, 483, 484, 485, 486, 487, 488, 489, 490, 491, 492, 493, 494, 495, 496, 497, 498, 499, 500, 501, 502, 503, 504, 505, 506, 507, 508, 509, 510, 511, 512, 513, 514, 515, 516, 517, 518, 519, 520, 521, 522, 523, 524, 525, 340, 342, 343, 526, 527, 528, 529, 530, 531, 532, 533, 534, 535, 536, 537, 538, 539, 540, 541, 542, 543, 544, 545, 546, 547, 548, 549, 550, 551, 552, 553, 554, 555, 556, 557, 558, 559, 560, 561, 562, 563, 564, 565, 566, 567, 568, 569, 570, 571, 572, 573, 574, 575, 576, 577, 578, 579, 580, 581, 582, 583, 584, 585, 586, 587, 588, 589, 590, 591, 592, 593, 594, 595, 596, 597, 598, 599, 600, 601, 602, 603, 604, 605, 606, 607, 608, 609, 610, 611, 612, 613, 614, 615, 616, 617, 618, 619, 620, 621, 622, 623, 624, 625, 626, 627, 628, 629, 630, 631, 632, 633, 634, 635, 636, 637, 638, 639, 640, 641, 642, 643, 644, 645, 646, 647, 648, 649, 650, 651, 652, 653, 654, 655, 656, 236, 225, 657, 658, 659, 660, 661, 662, 663, 664, 665, 887, 888, 889, 890, 891, 892, 893, 894, 895, 896, 897, 898, 899, 900, 901, 902, 920, 921, 922, 923, 924, 925, 926, 927, 928, 929, 930, 931, 903, 904, 905, 906, 907, 908, 909, 910, 911, 912, 913, 914, 915, 916, 917, 937, 938, 939, 940, 941, 942, 943, 944, 945, 946, 947, 935, 936, 918, 919, 932, 933, 934, 948, 949] (by decide +kernel) (by decide +kernel)) (goodIn_sub (fun _ h => List.mem_append_right _ h) (by decide +kernel))) (goodIn_sub (fun _ h => List.mem_append_left _ (List.mem_append_right _ h)) (by decide +kernel))
set_option maxRecDepth 20000 in
theorem gL_law_X10_workAt : GoodIn wsL_law (wsV RL 52 RX10 yX10_workAt wsX10_workAt) := goodIn_app (goodIn_of _ (by decide +kernel)) ggL_law_X10_workAt
set_option maxRecDepth 20000 in
theorem ggL_law_X10_begun : GoodIn wsL_law wsX10_begun := goodIn_r _ [674, 18, 887, 888, 889, 890, 891, 892, 893, 894, 895, 896, 897, 898, 899] (by decide +kernel) (by decide +kernel)
set_option maxRecDepth 20000 in
theorem gL_law_X10_begun : GoodIn wsL_law (wsV RL 56 RX10 yX10_begun wsX10_begun) := goodIn_app (goodIn_of _ (by decide +kernel)) ggL_law_X10_begun
set_option maxRecDepth 20000 in
theorem ggL_law_X10_checkpoint : GoodIn wsL_law wsX10_checkpoint := goodIn_ca (goodIn_r _ [678, 78, 79, 18, 363, 364, 365, 2, 366, 80, 679, 680, 681, 17, 682, 683, 461, 27, 424, 112, 85, 86, 87, 26, 88, 89, 113, 114, 115, 116, 117, 118, 119, 120, 121, 122, 123, 124, 125, 126, 127, 128, 35, 887, 888, 889, 890, 891, 892, 893, 894, 895, 896, 897, 898, 899, 920, 921, 922, 923, 924, 925, 926, 927, 928, 929, 930, 931, 903, 904, 905, 906, 907, 908, 909, 910, 911, 912, 913, 914, 915, 916, 917, 900, 901, 902] (by decide +kernel) (by decide +kernel)) (goodIn_sub (fun _ h => List.mem_append_left _ (List.mem_append_right _ h)) (by decide +kernel))
set_option maxRecDepth 20000 in
theorem gL_law_X10_checkpoint : GoodIn wsL_law (wsV RL 59 RX10 yX10_checkpoint wsX10_checkpoint) := goodIn_app (goodIn_of _ (by decide +kernel)) ggL_law_X10_checkpoint
set_option maxRecDepth 20000 in
theorem ggL_law_X10_sortOf : GoodIn wsL_law wsX10_sortOf := goodIn_ca (goodIn_r _ [267, 268, 269, 270, 2, 271, 272, 273, 18, 108, 109, 110, 17, 111, 27, 112, 85, 86, 87, 26, 88, 89, 113, 114, 115, 116, 117, 118, 119, 120, 121, 122, 123, 124, 125, 126, 127, 128, 35, 920, 921, 922, 923, 924, 925, 926, 927, 928, 929, 930, 931, 903, 904, 905, 906, 907, 908, 909, 910, 911, 912, 913, 914, 915, 916, 917, 887, 888, 889, 890, 891, 892, 893, 894, 895, 896, 897, 898, 899, 900, 901, 902] (by decide +kernel) (by decide +kernel)) (goodIn_sub (fun _ h => List.mem_append_right _ h) (by decide +kernel))
set_option maxRecDepth 20000 in
theorem gL_law_X10_sortOf : GoodIn wsL_law (wsV RL 62 RX10 yX10_sortOf wsX10_sortOf) := goodIn_app (goodIn_of _ (by decide +kernel)) ggL_law_X10_sortOf
set_option maxRecDepth 20000 in
theorem ggL_law_X10_committed : GoodIn wsL_law wsX10_committed := goodIn_ca (goodIn_ca (goodIn_r _ [687, 688, 689, 690, 2, 691, 268, 269, 270, 271, 272, 273, 18, 108, 109, 110, 17, 111, 27, 112, 85, 86, 87, 26, 88, 89, 113, 114, 115, 116, 117, 118, 119, 120, 121, 122, 123, 124, 125, 126, 127, 128, 35, 69, 70, 71, 72, 73, 920, 921, 922, 923, 924, 925, 926, 927, 928, 929, 930, 931, 937, 938, 939, 940, 941, 942, 943, 944, 945, 946, 947, 903, 904, 905, 906, 907, 908, 909, 910, 911, 912, 913, 914, 915, 916, 917, 887, 888, 889, 890, 891, 892, 893, 894, 895, 896, 897, 898, 899, 900, 901, 902] (by decide +kernel) (by decide +kernel)) (goodIn_sub (fun _ h => List.mem_append_right _ h) (by decide +kernel))) (goodIn_sub (fun _ h => List.mem_append_left _ (List.mem_append_left _ (List.mem_append_right _ h))) (by decide +kernel))
set_option maxRecDepth 20000 in
theorem gL_law_X10_committed : GoodIn wsL_law (wsV RL 65 RX10 yX10_committed wsX10_committed) := goodIn_app (goodIn_of _ (by decide +kernel)) ggL_law_X10_committed
set_option maxRecDepth 20000 in
theorem ggL_law_X10_crash : GoodIn wsL_law wsX10_crash := goodIn_ca (goodIn_r _ [695, 696, 18, 363, 364, 365, 2, 366, 78, 79, 80, 697, 698, 699, 17, 700, 27, 112, 461, 29, 462, 85, 86, 87, 26, 88, 89, 113, 114, 115, 116, 117, 118, 119, 120, 121, 122, 123, 124, 125, 126, 127, 128, 35, 701, 702, 703, 147, 704, 229, 230, 225, 223, 375, 705, 439, 440, 228, 441, 246, 247, 248, 249, 442, 443, 444, 445, 253, 255, 256, 446, 447, 448, 252, 449, 261, 262, 450, 451, 452, 103, 453, 338, 454, 211, 6, 212, 455, 5, 7, 140, 348, 139, 419, 214, 215, 216, 456, 706, 707, 708, 709, 710, 711, 712, 156, 713, 161, 162, 387, 714, 389, 390, 887, 888, 889, 890, 891, 892, 893, 894, 895, 896, 897, 898, 899, 900, 901, 902, 920, 921, 922, 923, 924, 925, 926, 927, 928, 929, 930, 931, 937, 938, 939, 940, 941, 942, 943, 944, 945, 946, 947, 948, 949, 918, 919, 935, 936, 932, 933, 934] (by decide +kernel) (by decide +kernel)) (goodIn_sub (fun _ h => List.mem_append_left _ (List.mem_append_right _ h)) (by decide +kernel))
set_option maxRecDepth 20000 in
theorem gL_law_X10_crash : GoodIn wsL_law (wsV RL 68 RX10 yX10_crash wsX10_crash) := goodIn_app (goodIn_of _ (by decide +kernel)) ggL_law_X10_crash
set_option maxRecDepth 20000 in
theorem ggL_law_X10_outputs : GoodIn wsL_law wsX10_outputs := goodIn_ca (goodIn_ca (goodIn_r _ [718, 688, 689, 690, 2, 691, 268, 269, 270, 271, 272, 273, 18, 108, 109, 110, 17, 111, 27, 112, 85, 86, 87, 26, 88, 89, 113, 114, 115, 116, 117, 118, 119, 120, 121, 122, 123, 124, 125, 126, 127, 128, 35, 69, 70, 71, 72, 73, 920, 921, 922, 923, 924, 925, 926, 927, 928, 929, 930, 931, 937, 938, 939, 940, 941, 942, 943, 944, 945, 946, 947, 903, 904, 905, 906, 907, 908, 909, 910, 911, 912, 913, 914, 915, 916, 917, 887, 888, 889, 890, 891, 892, 893, 894, 895, 896, 897, 898, 899, 900, 901, 902] (by decide +kernel) (by decide +kernel)) (goodIn_sub (fun _ h => List.mem_append_right _ h) (by decide +kernel))) (goodIn_sub (fun _ h => List.mem_append_left _ (List.mem_append_left _ (List.mem_append_right _ h))) (by decide +kernel))
set_option maxRecDepth 20000 in
theorem gL_law_X10_outputs : GoodIn wsL_law (wsV RL 71 RX10 yX10_outputs wsX10_outputs) := goodIn_app (goodIn_of _ (by decide +kernel)) ggL_law_X10_outputs
set_option maxRecDepth 20000 in
theorem ggL_law_L_isSound : GoodIn wsL_law wsL_isSound := goodIn_ca (goodIn_ca (goodIn_r _ [721, 4, 5, 6, 7, 722, 723, 724, 2, 725, 268, 269, 270, 271, 272, 273, 18, 108, 109, 110, 17, 111, 27, 112, 85, 86, 87, 26, 88, 89, 113, 114, 115, 116, 117, 118, 119, 120, 121, 122, 123, 124, 125, 126, 127, 128, 35, 726, 544, 545, 147, 546, 235, 234, 727, 402, 403, 160, 404, 167, 405, 406, 335, 336, 103, 337, 338, 728, 729, 730, 731, 732, 733, 734, 735, 670, 372, 373, 374, 223, 232, 375, 376, 229, 377, 378, 379, 380, 156, 381, 161, 382, 383, 384, 385, 386, 162, 387, 388, 211, 212, 389, 390, 391, 392, 393, 394, 233, 395, 396, 397, 398, 399, 400, 401, 736, 737, 738, 739, 740, 741, 742, 743, 744, 745, 746, 747, 748, 671, 672, 673, 674, 264, 265, 266, 267, 749, 750, 751, 752, 753, 754, 755, 756, 228, 757, 253, 255, 256, 758, 633, 634, 252, 635, 261, 496, 759, 760, 761, 762, 763, 764, 765, 766, 767, 326, 327, 328, 329, 69, 70, 71, 72, 73, 715, 716, 717, 718, 688, 689, 690, 691, 684, 685, 686, 687, 768, 769, 770, 771, 772, 773, 774, 775, 776, 777, 778, 779, 780, 489, 490, 491, 492, 493, 494, 495, 497, 472, 473, 474, 140, 781, 782, 522, 523, 524, 314, 315, 316, 317, 783, 784, 785, 786, 787, 788, 789, 790, 791, 792, 793, 794, 795, 367, 368, 369, 370, 29, 28, 152, 371, 796, 797, 798, 799, 800, 801, 802, 803, 887, 888, 889, 890, 891, 892, 893, 894, 895, 896, 897, 898, 899, 900, 901, 902, 920, 921, 922, 923, 924, 925, 926, 927, 928, 929, 930, 931, 932, 933, 934, 918, 919, 903, 904, 905, 906, 907, 908, 909, 910, 911, 912, 913, 914, 915, 916, 917, 937, 938, 939, 940, 941, 942, 943, 944, 945, 946, 947, 935, 936, 948, 949] (by decide +kernel) (by decide +kernel)) (goodIn_sub (fun _ h => List.mem_append_right _ h) (by decide +kernel))) (goodIn_sub (fun _ h => List.mem_append_left _ (List.mem_append_left _ (List.mem_append_right _ h))) (by decide +kernel))
set_option maxRecDepth 20000 in
theorem gL_law_L_isSound : GoodIn wsL_law (va_wsS RL 74 yL_isSound wsL_isSound) := goodIn_app (goodIn_of _ (by decide +kernel)) ggL_law_L_isSound
set_option maxRecDepth 20000 in
theorem ggL_law_X10_digest : GoodIn wsL_law wsX10_digest := goodIn_ca (goodIn_ca (goodIn_r _ [807, 808, 809, 18, 810, 303, 304, 2, 305, 81, 82, 83, 17, 84, 27, 85, 86, 87, 26, 88, 89, 811, 812, 813, 814, 80, 815, 816, 817, 818, 819, 820, 821, 822, 672, 673, 674, 823, 824, 825, 826, 696, 827, 828, 829, 830, 362, 831, 784, 785, 786, 787, 788, 789, 790, 112, 113, 114, 115, 116, 117, 118, 119, 120, 121, 122, 123, 124, 125, 126, 127, 128, 35, 791, 402, 403, 160, 404, 167, 405, 406, 335, 336, 103, 337, 338, 832, 793, 794, 795, 367, 368, 369, 370, 29, 28, 152, 109, 110, 111, 371, 372, 373, 147, 374, 223, 232, 375, 376, 229, 377, 234, 235, 378, 379, 380, 156, 381, 161, 382, 383, 384, 385, 386, 162, 387, 388, 211, 6, 212, 389, 390, 391, 392, 393, 394, 233, 395, 396, 397, 398, 399, 400, 401, 833, 834, 835, 836, 837, 265, 266, 267, 268, 269, 270, 271, 272, 273, 108, 838, 315, 316, 317, 839, 746, 747, 748, 840, 761, 762, 763, 841, 742, 743, 744, 842, 750, 751, 752, 753, 754, 755, 756, 228, 757, 253, 255, 256, 758, 633, 634, 252, 635, 261, 496, 759, 843, 733, 734, 735, 670, 844, 737, 738, 739, 740, 845, 723, 724, 725, 726, 544, 545, 546, 727, 846, 729, 730, 731, 847, 848, 849, 850, 851, 773, 774, 775, 776, 777, 778, 779, 69, 70, 71, 72, 73, 780, 489, 490, 491, 492, 493, 494, 495, 497, 472, 473, 474, 140, 781, 782, 522, 523, 524, 852, 853, 854, 855, 856, 716, 717, 718, 688, 689, 690, 691, 857, 685, 686, 687, 858, 859, 860, 861, 862, 863, 566, 341, 567, 568, 864, 563, 564, 865, 477, 478, 479, 887, 888, 889, 890, 891, 892, 893, 894, 895, 896, 897, 898, 899, 900, 901, 902, 920, 921, 922, 923, 924, 925, 926, 927, 928, 929, 930, 931, 932, 933, 934, 918, 919, 903, 904, 905, 906, 907, 908, 909, 910, 911, 912, 913, 914, 915, 916, 917, 937, 938, 939, 940, 941, 942, 943, 944, 945, 946, 947, 935, 936, 948, 949] (by decide +kernel) (by decide +kernel)) (goodIn_sub (fun _ h => List.mem_append_right _ h) (by decide +kernel))) (goodIn_sub (fun _ h => List.mem_append_left _ (List.mem_append_left _ (List.mem_append_right _ h))) (by decide +kernel))
set_option maxRecDepth 20000 in
theorem gL_law_X10_digest : GoodIn wsL_law (wsV RL 78 RX10 yX10_digest wsX10_digest) := goodIn_app (goodIn_of _ (by decide +kernel)) ggL_law_X10_digest
set_option maxRecDepth 20000 in
theorem ggL_law_X10_itemsToRest : GoodIn wsL_law wsX10_itemsToRest := goodIn_ca (goodIn_r _ [869, 19, 18, 66, 67, 2, 68, 69, 70, 71, 72, 73, 870, 871, 872, 17, 873, 28, 29, 27, 112, 85, 86, 87, 26, 88, 89, 113, 114, 115, 116, 117, 118, 119, 120, 121, 122, 123, 124, 125, 126, 127, 128, 35, 874, 875, 876, 147, 877, 229, 223, 376, 375, 705, 439, 440, 228, 441, 246, 247, 248, 249, 442, 443, 444, 445, 253, 255, 256, 446, 447, 448, 252, 449, 261, 262, 450, 451, 452, 103, 453, 338, 454, 211, 6, 212, 455, 5, 7, 140, 348, 139, 419, 214, 215, 216, 456, 878, 879, 880, 156, 881, 161, 162, 387, 383, 384, 385, 386, 388, 382, 335, 336, 337, 389, 390, 882, 367, 368, 369, 370, 152, 109, 110, 111, 371, 372, 373, 374, 232, 377, 234, 235, 378, 379, 380, 381, 391, 392, 393, 394, 233, 395, 396, 397, 398, 160, 399, 400, 401, 402, 403, 404, 167, 405, 406, 407, 408, 409, 410, 411, 412, 413, 414, 415, 416, 417, 418, 420, 421, 422, 423, 30, 424, 425, 426, 341, 427, 428, 429, 430, 431, 432, 433, 434, 435, 436, 437, 345, 346, 347, 349, 350, 199, 351, 352, 353, 354, 355, 356, 357, 210, 213, 438, 457, 458, 459, 460, 461, 462, 463, 464, 465, 466, 230, 231, 467, 468, 469, 470, 471, 472, 473, 474, 475, 476, 477, 478, 479, 480, 481, 482, 483, 484, 485, 486, 487, 488, 489, 490, 491, 492, 493, 494, 495, 496, 497, 498, 499, 500, 501, 502, 503, 504, 505, 506, 507, 508, 509, 510, 511, 512, 513, 514, 515, 516, 517, 518, 519, 520, 521, 522, 523, 524, 525, 340, 342, 343, 526, 527, 528, 529, 530, 531, 532, 533, 534, 535, 536, 537, 538, 539, 540, 541, 542, 543, 544, 545, 546, 547, 548, 549, 550, 551, 552, 553, 554, 555, 556, 557, 558, 559, 560, 561, 562, 563, 564, 565, 566, 567, 568, 569, 570, 571, 572, 573, 574, 575, 576, 577, 578, 579, 580, 581, 582, 583, 584, 585, 586, 587, 588, 589, 590, 591, 592, 593, 594, 595, 596, 597, 598, 599, 600, 601, 602, 603, 604, 605, 606, 607, 608, 609, 610, 611, 612, 613, 614, 615, 616, 617, 618, 619, 620, 621, 622, 623, 624, 625, 626, 627, 628, 629, 630, 631, 632, 633, 634, 635, 636, 637, 638, 639, 640, 641, 642, 643, 644, 645, 646, 647, 648, 649, 650, 651, 652, 653, 654, 655, 656, 236, 225, 657, 658, 659, 660, 661, 662, 663, 664, 665, 887, 888, 889, 890, 891, 892, 893, 894, 895, 896, 897, 898, 899, 900, 901, 902, 920, 921, 922, 923, 924, 925, 926, 927, 928, 929, 930, 931, 937, 938, 939, 940, 941, 942, 943, 944, 945, 946, 947, 948, 949, 918, 919, 935, 936, 932, 933, 934, 903, 904, 905, 906, 907, 908, 909, 910, 911, 912, 913, 914, 915, 916, 917] (by decide +kernel) (by decide +kernel)) (goodIn_sub (fun _ h => List.mem_append_left _ (List.mem_append_left _ (List.mem_append_right _ h))) (by decide +kernel))
set_option maxRecDepth 20000 in
theorem gL_law_X10_itemsToRest : GoodIn wsL_law (wsV RL 82 RX10 yX10_itemsToRest wsX10_itemsToRest) := goodIn_app (goodIn_of _ (by decide +kernel)) ggL_law_X10_itemsToRest
set_option maxRecDepth 20000 in
theorem ggL_law_X10_next : GoodIn wsL_law wsX10_next := goodIn_r _ [795, 18, 367, 368, 369, 17, 370, 27, 29, 28, 85, 86, 87, 26, 88, 89, 152, 109, 110, 111, 112, 113, 114, 115, 116, 117, 118, 119, 120, 121, 122, 123, 124, 125, 126, 127, 128, 35, 371, 372, 373, 147, 374, 223, 232, 375, 376, 229, 377, 234, 235, 378, 379, 380, 156, 381, 161, 382, 335, 336, 103, 337, 338, 383, 384, 385, 386, 162, 387, 388, 211, 6, 212, 389, 390, 391, 392, 393, 394, 233, 395, 396, 397, 398, 160, 399, 400, 401, 402, 403, 404, 167, 405, 406, 887, 888, 889, 890, 891, 892, 893, 894, 895, 896, 897, 898, 899, 900, 901, 902, 920, 921, 922, 923, 924, 925, 926, 927, 928, 929, 930, 931, 903, 904, 905, 906, 907, 908, 909, 910, 911, 912, 913, 914, 915, 916, 917, 937, 938, 939, 940, 941, 942, 943, 944, 945, 946, 947, 935, 936, 918, 919, 932, 933, 934] (by decide +kernel) (by decide +kernel)
set_option maxRecDepth 20000 in
theorem gL_law_X10_next : GoodIn wsL_law (wsV RL 85 RX10 yX10_next wsX10_next) := goodIn_app (goodIn_of _ (by decide +kernel)) ggL_law_X10_next
set_option maxRecDepth 20000 in
theorem ggL_law_X10_close : GoodIn wsL_law wsX10_close := goodIn_ca (goodIn_ca (goodIn_ca (goodIn_r _ [886, 326, 327, 328, 2, 329, 268, 269, 270, 271, 272, 273, 18, 108, 109, 110, 17, 111, 27, 112, 85, 86, 87, 26, 88, 89, 113, 114, 115, 116, 117, 118, 119, 120, 121, 122, 123, 124, 125, 126, 127, 128, 35, 69, 70, 71, 72, 73, 330, 331, 332, 333, 78, 79, 80, 753, 392, 393, 147, 394, 233, 229, 395, 335, 336, 103, 337, 338, 920, 921, 922, 923, 924, 925, 926, 927, 928, 929, 930, 931, 903, 904, 905, 906, 907, 908, 909, 910, 911, 912, 913, 914, 915, 916, 917, 887, 888, 889, 890, 891, 892, 893, 894, 895, 896, 897, 898, 899, 900, 901, 902, 937, 938, 939, 940, 941, 942, 943, 944, 945, 946, 947, 918, 919] (by decide +kernel) (by decide +kernel)) (goodIn_sub (fun _ h => List.mem_append_right _ h) (by decide +kernel))) (goodIn_sub (fun _ h => List.mem_append_left _ (List.mem_append_left _ (List.mem_append_right _ h))) (by decide +kernel))) (goodIn_sub (fun _ h => List.mem_append_left _ (List.mem_append_right _ h)) (by decide +kernel))
set_option maxRecDepth 20000 in
theorem gL_law_X10_close : GoodIn wsL_law (wsV RL 88 RX10 yX10_close wsX10_close) := goodIn_app (goodIn_of _ (by decide +kernel)) ggL_law_X10_close
set_option maxRecDepth 20000 in
theorem ggL_law_X10_isBlocked : GoodIn wsL_law wsX10_isBlocked := goodIn_ca (goodIn_r _ [731, 268, 269, 270, 2, 271, 272, 273, 18, 108, 109, 110, 17, 111, 27, 112, 85, 86, 87, 26, 88, 89, 113, 114, 115, 116, 117, 118, 119, 120, 121, 122, 123, 124, 125, 126, 127, 128, 35, 726, 544, 545, 147, 546, 235, 234, 932, 933, 934, 887, 888, 889, 890, 891, 892, 893, 894, 895, 896, 897, 898, 899, 900, 901, 902, 920, 921, 922, 923, 924, 925, 926, 927, 928, 929, 930, 931] (by decide +kernel) (by decide +kernel)) (goodIn_sub (fun _ h => List.mem_append_right _ h) (by decide +kernel))
set_option maxRecDepth 20000 in
theorem gL_law_X10_isBlocked : GoodIn wsL_law (wsV RL 92 RX10 yX10_isBlocked wsX10_isBlocked) := goodIn_app (goodIn_of _ (by decide +kernel)) ggL_law_X10_isBlocked
set_option maxRecDepth 20000 in
theorem ggL_law_X10_kept : GoodIn wsL_law wsX10_kept := goodIn_ca (goodIn_r _ [752, 268, 269, 270, 2, 271, 272, 273, 18, 108, 109, 110, 17, 111, 27, 112, 85, 86, 87, 26, 88, 89, 113, 114, 115, 116, 117, 118, 119, 120, 121, 122, 123, 124, 125, 126, 127, 128, 35, 753, 392, 393, 147, 394, 233, 229, 395, 335, 336, 103, 337, 338, 754, 755, 756, 228, 757, 253, 255, 256, 758, 633, 634, 252, 635, 261, 496, 759, 920, 921, 922, 923, 924, 925, 926, 927, 928, 929, 930, 931, 903, 904, 905, 906, 907, 908, 909, 910, 911, 912, 913, 914, 915, 916, 917, 887, 888, 889, 890, 891, 892, 893, 894, 895, 896, 897, 898, 899, 900, 901, 902, 937, 938, 939, 940, 941, 942, 943, 944, 945, 946, 947, 918, 919, 948, 949] (by decide +kernel) (by decide +kernel)) (goodIn_sub (fun _ h => List.mem_append_right _ h) (by decide +kernel))
set_option maxRecDepth 20000 in
theorem gL_law_X10_kept : GoodIn wsL_law (wsV RL 96 RX10 yX10_kept wsX10_kept) := goodIn_app (goodIn_of _ (by decide +kernel)) ggL_law_X10_kept
set_option maxRecDepth 20000 in
theorem ggL_law_X10_isReady : GoodIn wsL_law wsX10_isReady := goodIn_ca (goodIn_r _ [735, 18, 268, 269, 270, 2, 271, 272, 273, 108, 109, 110, 17, 111, 27, 112, 85, 86, 87, 26, 88, 89, 113, 114, 115, 116, 117, 118, 119, 120, 121, 122, 123, 124, 125, 126, 127, 128, 35, 670, 372, 373, 147, 374, 223, 232, 375, 376, 229, 377, 234, 235, 378, 379, 380, 156, 381, 161, 382, 335, 336, 103, 337, 338, 383, 384, 385, 386, 162, 387, 388, 211, 6, 212, 389, 390, 391, 392, 393, 394, 233, 395, 396, 397, 398, 160, 399, 400, 401, 402, 403, 404, 167, 405, 406, 887, 888, 889, 890, 891, 892, 893, 894, 895, 896, 897, 898, 899, 900, 901, 902, 920, 921, 922, 923, 924, 925, 926, 927, 928, 929, 930, 931, 903, 904, 905, 906, 907, 908, 909, 910, 911, 912, 913, 914, 915, 916, 917, 937, 938, 939, 940, 941, 942, 943, 944, 945, 946, 947, 935, 936, 918, 919, 932, 933, 934] (by decide +kernel) (by decide +kernel)) (goodIn_sub (fun _ h => List.mem_append_right _ h) (by decide +kernel))
set_option maxRecDepth 20000 in
theorem gL_law_X10_isReady : GoodIn wsL_law (wsV RL 99 RX10 yX10_isReady wsX10_isReady) := goodIn_app (goodIn_of _ (by decide +kernel)) ggL_law_X10_isReady
set_option maxRecDepth 20000 in
theorem ggL_law_X10_wouldLose : GoodIn wsL_law wsX10_wouldLose := goodIn_ca (goodIn_ca (goodIn_r _ [771, 688, 689, 690, 2, 691, 268, 269, 270, 271, 272, 273, 18, 108, 109, 110, 17, 111, 27, 112, 85, 86, 87, 26, 88, 89, 113, 114, 115, 116, 117, 118, 119, 120, 121, 122, 123, 124, 125, 126, 127, 128, 35, 69, 70, 71, 72, 73, 920, 921, 922, 923, 924, 925, 926, 927, 928, 929, 930, 931, 937, 938, 939, 940, 941, 942, 943, 944, 945, 946, 947, 903, 904, 905, 906, 907, 908, 909, 910, 911, 912, 913, 914, 915, 916, 917, 887, 888, 889, 890, 891, 892, 893, 894, 895, 896, 897, 898, 899, 900, 901, 902] (by decide +kernel) (by decide +kernel)) (goodIn_sub (fun _ h => List.mem_append_right _ h) (by decide +kernel))) (goodIn_sub (fun _ h => List.mem_append_left _ (List.mem_append_left _ (List.mem_append_right _ h))) (by decide +kernel))
set_option maxRecDepth 20000 in
theorem gL_law_X10_wouldLose : GoodIn wsL_law (wsV RL 102 RX10 yX10_wouldLose wsX10_wouldLose) := goodIn_app (goodIn_of _ (by decide +kernel)) ggL_law_X10_wouldLose
set_option maxRecDepth 20000 in
theorem ggL_law_X10_taken : GoodIn wsL_law wsX10_taken := goodIn_ca (goodIn_r _ [748, 268, 269, 270, 2, 271, 272, 273, 18, 108, 109, 110, 17, 111, 27, 112, 85, 86, 87, 26, 88, 89, 113, 114, 115, 116, 117, 118, 119, 120, 121, 122, 123, 124, 125, 126, 127, 128, 35, 920, 921, 922, 923, 924, 925, 926, 927, 928, 929, 930, 931, 937, 938, 939, 940, 941, 942, 943, 944, 945, 946, 947, 887, 888, 889, 890, 891, 892, 893, 894, 895, 896, 897, 898, 899, 900, 901, 902] (by decide +kernel) (by decide +kernel)) (goodIn_sub (fun _ h => List.mem_append_right _ h) (by decide +kernel))
set_option maxRecDepth 20000 in
theorem gL_law_X10_taken : GoodIn wsL_law (wsV RL 105 RX10 yX10_taken wsX10_taken) := goodIn_app (goodIn_of _ (by decide +kernel)) ggL_law_X10_taken
set_option maxRecDepth 20000 in
theorem ggL_law_X10_inFlight : GoodIn wsL_law wsX10_inFlight := goodIn_r _ [786, 18, 787, 788, 789, 17, 790, 27, 112, 85, 86, 87, 26, 88, 89, 113, 114, 115, 116, 117, 118, 119, 120, 121, 122, 123, 124, 125, 126, 127, 128, 35, 791, 402, 403, 160, 404, 167, 405, 406, 335, 336, 103, 337, 338, 887, 888, 889, 890, 891, 892, 893, 894, 895, 896, 897, 898, 899, 920, 921, 922, 923, 924, 925, 926, 927, 928, 929, 930, 931, 900, 901, 902, 932, 933, 934, 918, 919] (by decide +kernel) (by decide +kernel)
set_option maxRecDepth 20000 in
theorem gL_law_X10_inFlight : GoodIn wsL_law (wsV RL 108 RX10 yX10_inFlight wsX10_inFlight) := goodIn_app (goodIn_of _ (by decide +kernel)) ggL_law_X10_inFlight
theorem dL_law_0 : decode cL_law 0 = .ok (.new 9, 3) := by decide +kernel
theorem dL_law_3 : decode cL_law 3 = .ok (.dup, 1) := by decide +kernel
theorem dL_law_4 : decode cL_law 4 = .ok (.invokespecial 11, 3) := by decide +kernel
theorem dL_law_7 : decode cL_law 7 = .ok (.astore_n 1, 1) := by decide +kernel
theorem dL_law_8 : decode cL_law 8 = .ok (.iconst 3, 1) := by decide +kernel
theorem dL_law_9 : decode cL_law 9 = .ok (.aload_n 0, 1) := by decide +kernel
theorem dL_law_10 : decode cL_law 10 = .ok (.iconst 0, 1) := by decide +kernel
theorem dL_law_11 : decode cL_law 11 = .ok (.invokestatic 12, 3) := by decide +kernel
theorem dL_law_14 : decode cL_law 14 = .ok (.bipush 9, 2) := by decide +kernel
theorem dL_law_16 : decode cL_law 16 = .ok (.invokestatic 18, 3) := by decide +kernel
theorem dL_law_19 : decode cL_law 19 = .ok (.iadd, 1) := by decide +kernel
theorem dL_law_20 : decode cL_law 20 = .ok (.istore_n 2, 1) := by decide +kernel
theorem dL_law_21 : decode cL_law 21 = .ok (.iconst 0, 1) := by decide +kernel
theorem dL_law_22 : decode cL_law 22 = .ok (.istore_n 3, 1) := by decide +kernel
theorem dL_law_23 : decode cL_law 23 = .ok (.iload_n 3, 1) := by decide +kernel
theorem dL_law_24 : decode cL_law 24 = .ok (.iload_n 2, 1) := by decide +kernel
theorem dL_law_25 : decode cL_law 25 = .ok (.if_icmp .ge 21, 3) := by decide +kernel
theorem dL_law_28 : decode cL_law 28 = .ok (.aload_n 1, 1) := by decide +kernel
theorem dL_law_29 : decode cL_law 29 = .ok (.iload_n 3, 1) := by decide +kernel
theorem dL_law_30 : decode cL_law 30 = .ok (.aload_n 0, 1) := by decide +kernel
theorem dL_law_31 : decode cL_law 31 = .ok (.iconst 1, 1) := by decide +kernel
theorem dL_law_32 : decode cL_law 32 = .ok (.iload_n 3, 1) := by decide +kernel
theorem dL_law_33 : decode cL_law 33 = .ok (.iadd, 1) := by decide +kernel
theorem dL_law_34 : decode cL_law 34 = .ok (.invokestatic 12, 3) := by decide +kernel
theorem dL_law_37 : decode cL_law 37 = .ok (.invokestatic 22, 3) := by decide +kernel
theorem dL_law_40 : decode cL_law 40 = .ok (.iinc 3 1, 3) := by decide +kernel
theorem dL_law_43 : decode cL_law 43 = .ok (.goto (-20), 3) := by decide +kernel
theorem dL_law_46 : decode cL_law 46 = .ok (.aload_n 1, 1) := by decide +kernel
theorem dL_law_47 : decode cL_law 47 = .ok (.invokevirtual 26, 3) := by decide +kernel
theorem dL_law_50 : decode cL_law 50 = .ok (.istore_n 2, 1) := by decide +kernel
theorem dL_law_51 : decode cL_law 51 = .ok (.aload_n 1, 1) := by decide +kernel
theorem dL_law_52 : decode cL_law 52 = .ok (.invokevirtual 30, 3) := by decide +kernel
theorem dL_law_55 : decode cL_law 55 = .ok (.pop, 1) := by decide +kernel
theorem dL_law_56 : decode cL_law 56 = .ok (.aload_n 1, 1) := by decide +kernel
theorem dL_law_57 : decode cL_law 57 = .ok (.iconst 1, 1) := by decide +kernel
theorem dL_law_58 : decode cL_law 58 = .ok (.aload_n 0, 1) := by decide +kernel
theorem dL_law_59 : decode cL_law 59 = .ok (.bipush 13, 2) := by decide +kernel
theorem dL_law_61 : decode cL_law 61 = .ok (.invokestatic 12, 3) := by decide +kernel
theorem dL_law_64 : decode cL_law 64 = .ok (.bipush 9, 2) := by decide +kernel
theorem dL_law_66 : decode cL_law 66 = .ok (.invokestatic 18, 3) := by decide +kernel
theorem dL_law_69 : decode cL_law 69 = .ok (.iadd, 1) := by decide +kernel
theorem dL_law_70 : decode cL_law 70 = .ok (.invokevirtual 33, 3) := by decide +kernel
theorem dL_law_73 : decode cL_law 73 = .ok (.pop, 1) := by decide +kernel
theorem dL_law_74 : decode cL_law 74 = .ok (.iconst 0, 1) := by decide +kernel
theorem dL_law_75 : decode cL_law 75 = .ok (.istore_n 3, 1) := by decide +kernel
theorem dL_law_76 : decode cL_law 76 = .ok (.iconst 0, 1) := by decide +kernel
theorem dL_law_77 : decode cL_law 77 = .ok (.istore 4, 2) := by decide +kernel
