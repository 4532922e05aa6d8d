theorem dX9_hiddenNow_114 : decode cX9_hiddenNow 114 = .ok (.iload 5, 2) := by decide +kernel
theorem dX9_hiddenNow_116 : decode cX9_hiddenNow 116 = .ok (.invokevirtual 203, 3) := by decide +kernel
theorem dX9_hiddenNow_119 : decode cX9_hiddenNow 119 = .ok (.ifCond .eq 7, 3) := by decide +kernel
theorem dX9_hiddenNow_122 : decode cX9_hiddenNow 122 = .ok (.iconst 1, 1) := by decide +kernel
theorem dX9_hiddenNow_123 : decode cX9_hiddenNow 123 = .ok (.goto 4, 3) := by decide +kernel
theorem dX9_hiddenNow_126 : decode cX9_hiddenNow 126 = .ok (.iconst 0, 1) := by decide +kernel
theorem dX9_hiddenNow_127 : decode cX9_hiddenNow 127 = .ok (.iadd, 1) := by decide +kernel
theorem dX9_hiddenNow_128 : decode cX9_hiddenNow 128 = .ok (.istore_n 3, 1) := by decide +kernel
theorem dX9_hiddenNow_129 : decode cX9_hiddenNow 129 = .ok (.iinc 4 1, 3) := by decide +kernel
theorem dX9_hiddenNow_132 : decode cX9_hiddenNow 132 = .ok (.goto (-110), 3) := by decide +kernel
theorem dX9_hiddenNow_135 : decode cX9_hiddenNow 135 = .ok (.iload_n 3, 1) := by decide +kernel
theorem dX9_hiddenNow_136 : decode cX9_hiddenNow 136 = .ok (.ireturn, 1) := by decide +kernel
set_option maxRecDepth 20000 in
theorem ggX9_hiddenBy_X9_isProcedure : GoodIn wsX9_hiddenBy wsX9_isProcedure := goodIn_r _ [6, 7, 8, 9, 5, 10, 44, 45, 46, 47, 48, 49, 50, 51, 52, 53, 54, 55, 56, 57, 58, 59, 60, 61, 62, 63, 64, 65, 66, 67, 68, 69, 70, 71, 72, 73, 74, 75, 76, 77, 78, 79, 80, 81, 82, 83, 84, 85, 86, 87, 88, 89, 90, 91, 92, 93, 94, 95, 96, 97, 98, 99, 100, 101, 102, 103] (by decide +kernel) (by decide +kernel)
set_option maxRecDepth 20000 in
theorem gX9_hiddenBy_X9_isProcedure : GoodIn wsX9_hiddenBy (wsV RX9 124 RX9 yX9_isProcedure wsX9_isProcedure) := goodIn_app (goodIn_of _ (by decide +kernel)) ggX9_hiddenBy_X9_isProcedure
set_option maxRecDepth 20000 in
theorem ggX9_hiddenBy_X9_no : GoodIn wsX9_hiddenBy wsX9_no := goodIn_r _ [14, 1, 44, 45, 46, 47, 48, 49, 50, 51, 52, 53, 54, 55, 56, 57, 58, 59, 60, 61, 62, 63, 64, 65, 66, 67, 68, 69, 70, 71, 72, 73, 74, 75, 76, 77, 78, 79, 80, 81, 82, 83, 84, 85, 86, 87, 88, 89, 90, 91, 92, 93, 94, 95, 96, 97, 98, 99, 100, 101, 102, 103] (by decide +kernel) (by decide +kernel)
set_option maxRecDepth 20000 in
theorem gX9_hiddenBy_X9_no : GoodIn wsX9_hiddenBy (wsV RX9 128 RX9 yX9_no wsX9_no) := goodIn_app (goodIn_of _ (by decide +kernel)) ggX9_hiddenBy_X9_no
set_option maxRecDepth 20000 in
theorem ggX9_hiddenBy_X9_isName : GoodIn wsX9_hiddenBy wsX9_isName := goodIn_r _ [17, 8, 9, 5, 10] (by decide +kernel) (by decide +kernel)
set_option maxRecDepth 20000 in
theorem gX9_hiddenBy_X9_isName : GoodIn wsX9_hiddenBy (va_wsS RX9 132 yX9_isName wsX9_isName) := goodIn_app (goodIn_of _ (by decide +kernel)) ggX9_hiddenBy_X9_isName
set_option maxRecDepth 20000 in
theorem ggX9_hiddenBy_X9_hiddenNow : GoodIn wsX9_hiddenBy wsX9_hiddenNow := goodIn_r _ [21, 22, 23, 24, 25, 26, 27, 5, 28, 29, 30, 31, 32, 33, 34, 35, 36, 37, 38, 39, 40, 41, 42, 43, 44, 45, 46, 47, 48, 49, 50, 51, 52, 53, 54, 55, 56, 57, 58, 59, 60, 61, 62, 63, 64, 65, 66, 67, 68, 69, 70, 71, 72, 73, 74, 75, 76, 77, 78, 79, 80, 81, 82, 83, 84, 85, 86, 87, 88, 89, 90, 91, 92, 93, 94, 95, 96, 97, 98, 99, 100, 101, 102, 103] (by decide +kernel) (by decide +kernel)
set_option maxRecDepth 20000 in
theorem gX9_hiddenBy_X9_hiddenNow : GoodIn wsX9_hiddenBy (wsV RX9 497 RX9 yX9_hiddenNow wsX9_hiddenNow) := goodIn_app (goodIn_of _ (by decide +kernel)) ggX9_hiddenBy_X9_hiddenNow
theorem dX9_hiddenBy_0 : decode cX9_hiddenBy 0 = .ok (.aload_n 0, 1) := by decide +kernel
theorem dX9_hiddenBy_1 : decode cX9_hiddenBy 1 = .ok (.iconst 0, 1) := by decide +kernel
theorem dX9_hiddenBy_2 : decode cX9_hiddenBy 2 = .ok (.putfield 114, 3) := by decide +kernel
theorem dX9_hiddenBy_5 : decode cX9_hiddenBy 5 = .ok (.aload_n 0, 1) := by decide +kernel
theorem dX9_hiddenBy_6 : decode cX9_hiddenBy 6 = .ok (.iload_n 1, 1) := by decide +kernel
theorem dX9_hiddenBy_7 : decode cX9_hiddenBy 7 = .ok (.invokevirtual 124, 3) := by decide +kernel
theorem dX9_hiddenBy_10 : decode cX9_hiddenBy 10 = .ok (.ifCond .ne 9, 3) := by decide +kernel
theorem dX9_hiddenBy_13 : decode cX9_hiddenBy 13 = .ok (.aload_n 0, 1) := by decide +kernel
theorem dX9_hiddenBy_14 : decode cX9_hiddenBy 14 = .ok (.iconst 1, 1) := by decide +kernel
theorem dX9_hiddenBy_15 : decode cX9_hiddenBy 15 = .ok (.invokevirtual 128, 3) := by decide +kernel
theorem dX9_hiddenBy_18 : decode cX9_hiddenBy 18 = .ok (.ireturn, 1) := by decide +kernel
theorem dX9_hiddenBy_19 : decode cX9_hiddenBy 19 = .ok (.iload_n 2, 1) := by decide +kernel
theorem dX9_hiddenBy_20 : decode cX9_hiddenBy 20 = .ok (.invokestatic 132, 3) := by decide +kernel
theorem dX9_hiddenBy_23 : decode cX9_hiddenBy 23 = .ok (.ifCond .eq 12, 3) := by decide +kernel
theorem dX9_hiddenBy_26 : decode cX9_hiddenBy 26 = .ok (.aload_n 0, 1) := by decide +kernel
theorem dX9_hiddenBy_27 : decode cX9_hiddenBy 27 = .ok (.iload_n 1, 1) := by decide +kernel
theorem dX9_hiddenBy_28 : decode cX9_hiddenBy 28 = .ok (.iload_n 2, 1) := by decide +kernel
theorem dX9_hiddenBy_29 : decode cX9_hiddenBy 29 = .ok (.invokevirtual 497, 3) := by decide +kernel
theorem dX9_hiddenBy_32 : decode cX9_hiddenBy 32 = .ok (.goto 8, 3) := by decide +kernel
theorem dX9_hiddenBy_35 : decode cX9_hiddenBy 35 = .ok (.aload_n 0, 1) := by decide +kernel
theorem dX9_hiddenBy_36 : decode cX9_hiddenBy 36 = .ok (.iconst 2, 1) := by decide +kernel
theorem dX9_hiddenBy_37 : decode cX9_hiddenBy 37 = .ok (.invokevirtual 128, 3) := by decide +kernel
theorem dX9_hiddenBy_40 : decode cX9_hiddenBy 40 = .ok (.ireturn, 1) := by decide +kernel
set_option maxRecDepth 20000 in
theorem ggX9_digest_X9_faults : GoodIn wsX9_digest wsX9_faults := goodIn_r _ [16, 17, 18, 19, 15, 20, 21, 4, 22, 23, 24, 25, 26, 27, 28, 29, 30, 31, 32, 33, 34, 35, 36, 37, 38, 39, 40, 41, 42, 43, 44, 45, 46, 47, 48, 49, 50, 51, 6, 52, 53, 54, 55, 56, 57, 58, 59, 60, 61, 62, 63, 64, 65, 66, 67, 68, 69, 70, 71, 72, 73, 74, 75, 76, 77, 78, 79, 80, 81, 82, 83, 84, 85, 86, 87, 88, 89, 90, 91, 92, 93, 94, 95, 96, 97, 98, 99, 100, 101, 102, 103, 104, 105, 106, 107, 108, 109, 110, 111, 112, 113, 114, 115, 116, 117, 118, 382, 383, 384, 385, 386, 387, 388, 389, 390, 391, 392, 393, 394, 395, 396, 397, 398, 399, 400, 401, 402, 403, 404, 405, 406, 407, 408, 409, 410, 411, 412, 413, 414, 415, 416, 417, 418, 419, 420, 421, 422, 423, 424, 425, 426, 427, 428, 429, 430, 431, 432, 433, 434, 435, 436, 437, 438, 439, 440, 441] (by decide +kernel) (by decide +kernel)
set_option maxRecDepth 20000 in
theorem gX9_digest_X9_faults : GoodIn wsX9_digest (wsV RX9 227 RX9 yX9_faults wsX9_faults) := goodIn_app (goodIn_of _ (by decide +kernel)) ggX9_digest_X9_faults
set_option maxRecDepth 20000 in
theorem ggX9_digest_X9_manyNow : GoodIn wsX9_digest wsX9_manyNow := goodIn_r _ [122, 4, 6, 5, 10, 11, 29, 30, 31, 15, 32, 33, 34, 123, 124, 125, 126, 27, 28, 89, 90, 127, 128, 129, 130, 106, 107, 108, 131, 132, 133, 134, 135, 136, 137, 138, 139, 140, 141, 142, 143, 144, 145, 55, 56, 57, 58, 59, 60, 61, 62, 63, 47, 71, 72, 73, 74, 75, 146, 147, 148, 149, 76, 77, 78, 79, 80, 81, 150, 151, 152, 153, 52, 53, 54, 154, 155, 156, 157, 158, 159, 160, 161, 162, 163, 164, 165, 166, 167, 168, 169, 170, 12, 13, 14, 16, 17, 18, 19, 20, 21, 22, 23, 24, 25, 26, 35, 36, 37, 38, 39, 40, 41, 42, 43, 44, 45, 46, 48, 49, 50, 51, 64, 65, 66, 67, 68, 69, 70, 82, 83, 84, 85, 86, 87, 88, 91, 92, 93, 94, 95, 96, 97, 98, 99, 100, 101, 102, 103, 104, 105, 109, 110, 111, 112, 113, 114, 115, 116, 117, 118, 171, 172, 173, 174, 175, 176, 177, 178, 179, 180, 181, 182, 183, 184, 185, 186, 187, 188, 189, 190, 191, 192, 193, 194, 195, 196, 197, 198, 199, 200, 201, 202, 203, 204, 205, 206, 207, 208, 209, 210, 211, 212, 213, 214, 215, 216, 217, 218, 219, 220, 221, 222, 223, 224, 225, 226, 227, 228, 229, 382, 383, 384, 385, 386, 387, 388, 389, 390, 391, 392, 393, 394, 395, 396, 397, 398, 399, 400, 401, 402, 403, 404, 405, 406, 407, 408, 409, 410, 411, 412, 413, 414, 415, 416, 417, 418, 419, 420, 421, 422, 423, 424, 425, 426, 427, 428, 429, 430, 431, 432, 433, 434, 435, 436, 437, 438, 439, 440, 441] (by decide +kernel) (by decide +kernel)
set_option maxRecDepth 20000 in
theorem gX9_digest_X9_manyNow : GoodIn wsX9_digest (wsV RX9 494 RX9 yX9_manyNow wsX9_manyNow) := goodIn_app (goodIn_of _ (by decide +kernel)) ggX9_digest_X9_manyNow
set_option maxRecDepth 20000 in
theorem ggX9_digest_X9_ofProcedureNow : GoodIn wsX9_digest wsX9_ofProcedureNow := goodIn_r _ [233, 47, 234, 80, 235, 22, 5, 150, 151, 152, 15, 153, 6, 27, 28, 52, 53, 54, 29, 30, 31, 32, 33, 34, 146, 147, 148, 149, 60, 61, 62, 63, 59, 154, 155, 156, 157, 158, 159, 160, 161, 162, 163, 164, 165, 166, 55, 56, 57, 58, 71, 72, 73, 74, 75, 12, 13, 14, 16, 17, 18, 19, 20, 21, 4, 23, 24, 25, 26, 35, 36, 37, 38, 39, 40, 41, 42, 43, 44, 45, 46, 48, 49, 50, 51, 64, 65, 66, 67, 68, 69, 70, 76, 77, 78, 79, 81, 82, 83, 84, 85, 86, 87, 88, 89, 90, 91, 92, 93, 94, 95, 96, 97, 98, 99, 100, 101, 102, 103, 104, 105, 106, 107, 108, 109, 110, 111, 112, 113, 114, 115, 116, 117, 118, 178, 179, 180, 181, 182, 183, 184, 185, 186, 187, 188, 189, 190, 191, 192, 193, 194, 195, 196, 197, 198, 199, 200, 201, 202, 203, 204, 205, 167, 168, 169, 170, 206, 207, 208, 209, 210, 211, 212, 213, 214, 215, 216, 217, 218, 219, 220, 221, 222, 223, 224, 127, 128, 129, 130, 131, 132, 133, 134, 135, 136, 137, 138, 139, 140, 141, 225, 226, 227, 228, 142, 143, 144, 145, 229, 382, 383, 384, 385, 386, 387, 388, 389, 390, 391, 392, 393, 394, 395, 396, 397, 398, 399, 400, 401, 402, 403, 404, 405, 406, 407, 408, 409, 410, 411, 412, 413, 414, 415, 416, 417, 418, 419, 420, 421, 422, 423, 424, 425, 426, 427, 428, 429, 430, 431, 432, 433, 434, 435, 436, 437, 438, 439, 440, 441] (by decide +kernel) (by decide +kernel)
set_option maxRecDepth 20000 in
theorem gX9_digest_X9_ofProcedureNow : GoodIn wsX9_digest (wsV RX9 234 RX9 yX9_ofProcedureNow wsX9_ofProcedureNow) := goodIn_app (goodIn_of _ (by decide +kernel)) ggX9_digest_X9_ofProcedureNow
set_option maxRecDepth 20000 in
theorem ggX9_digest_X9_hiddenNow : GoodIn wsX9_digest wsX9_hiddenNow := goodIn_r _ [239, 59, 6, 27, 28, 52, 53, 15, 54, 29, 30, 31, 32, 33, 34, 146, 147, 148, 149, 47, 60, 61, 62, 63, 382, 383, 384, 385, 386, 387, 388, 389, 390, 391, 392, 393, 394, 395, 396, 397, 398, 399, 400, 401, 402, 403, 404, 405, 406, 407, 408, 409, 410, 411, 412, 413, 414, 415, 416, 417, 418, 419, 420, 421, 422, 423, 424, 425, 426, 427, 428, 429, 430, 431, 432, 433, 434, 435, 436, 437, 438, 439, 440, 441] (by decide +kernel) (by decide +kernel)
set_option maxRecDepth 20000 in
theorem gX9_digest_X9_hiddenNow : GoodIn wsX9_digest (wsV RX9 497 RX9 yX9_hiddenNow wsX9_hiddenNow) := goodIn_app (goodIn_of _ (by decide +kernel)) ggX9_digest_X9_hiddenNow
set_option maxRecDepth 20000 in
theorem ggX9_digest_X9_length : GoodIn wsX9_digest wsX9_length := goodIn_r _ [181, 182, 183, 184, 185, 15, 186, 187, 188, 22, 189, 190, 191, 192, 27, 28, 47, 193, 194, 195, 196, 197, 21, 198, 199, 200, 201, 55, 56, 57, 58, 59, 60, 61, 62, 63, 71, 72, 73, 74, 75, 202, 203, 204, 205, 167, 168, 169, 170, 154, 155, 156, 157, 158, 206, 207, 208, 209, 210, 211, 212, 213, 214, 215, 35, 36, 37, 38, 39, 40, 41, 42, 33, 43, 44, 45, 46, 48, 49, 50, 51, 6, 29, 30, 31, 32, 34, 216, 217, 218, 219, 89, 220, 90, 95, 96, 97, 98, 81, 221, 222, 223, 224, 106, 107, 108, 116, 117, 118, 127, 128, 129, 130, 131, 132, 133, 134, 135, 136, 137, 138, 139, 140, 141, 225, 226, 227, 228, 109, 110, 111, 112, 113, 114, 115, 142, 143, 144, 145, 146, 147, 148, 149, 76, 77, 78, 79, 80, 150, 151, 152, 153, 52, 53, 54, 159, 160, 161, 162, 163, 164, 165, 166, 229, 382, 383, 384, 385, 386, 387, 388, 389, 390, 391, 392, 393, 394, 395, 396, 397, 398, 399, 400, 401, 402, 403, 404, 405, 406, 407, 408, 409, 410, 411, 412, 413, 414, 415, 416, 417, 418, 419, 420, 421, 422, 423, 424, 425, 426, 427, 428, 429, 430, 431, 432, 433, 434, 435, 436, 437, 438, 439, 440, 441] (by decide +kernel) (by decide +kernel)
set_option maxRecDepth 20000 in
theorem gX9_digest_X9_length : GoodIn wsX9_digest (wsV RX9 231 RX9 yX9_length wsX9_length) := goodIn_app (goodIn_of _ (by decide +kernel)) ggX9_digest_X9_length
set_option maxRecDepth 20000 in
theorem ggX9_digest_X9_instruction : GoodIn wsX9_digest wsX9_instruction := goodIn_r _ [243, 197, 6, 188, 382, 383, 384, 385, 386, 387, 388, 389, 390, 391, 392, 393, 394, 395, 396, 397, 398, 399, 400, 401, 402, 403, 404, 405, 406, 407, 408, 409, 410, 411, 412, 413, 414, 415, 416, 417, 418, 419, 420, 421, 422, 423, 424, 425, 426, 427, 428, 429, 430, 431, 432, 433, 434, 435, 436, 437, 438, 439, 440, 441] (by decide +kernel) (by decide +kernel)
set_option maxRecDepth 20000 in
theorem gX9_digest_X9_instruction : GoodIn wsX9_digest (wsV RX9 328 RX9 yX9_instruction wsX9_instruction) := goodIn_app (goodIn_of _ (by decide +kernel)) ggX9_digest_X9_instruction
set_option maxRecDepth 20000 in
theorem ggX9_digest_X9_ofNodeNow : GoodIn wsX9_digest wsX9_ofNodeNow := goodIn_r _ [126, 27, 28, 89, 90, 29, 30, 31, 15, 32, 33, 34, 127, 128, 129, 130, 106, 107, 108, 131, 132, 133, 134, 135, 136, 137, 138, 139, 140, 141, 142, 143, 144, 145, 55, 56, 57, 58, 59, 60, 61, 62, 63, 47, 71, 72, 73, 74, 75, 146, 147, 148, 149, 76, 77, 78, 79, 80, 81, 150, 151, 152, 153, 6, 52, 53, 54, 154, 155, 156, 157, 158, 159, 160, 161, 162, 163, 164, 165, 166, 167, 168, 169, 170, 382, 383, 384, 385, 386, 387, 388, 389, 390, 391, 392, 393, 394, 395, 396, 397, 398, 399, 400, 401, 402, 403, 404, 405, 406, 407, 408, 409, 410, 411, 412, 413, 414, 415, 416, 417, 418, 419, 420, 421, 422, 423, 424, 425, 426, 427, 428, 429, 430, 431, 432, 433, 434, 435, 436, 437, 438, 439, 440, 441] (by decide +kernel) (by decide +kernel)
set_option maxRecDepth 20000 in
theorem gX9_digest_X9_ofNodeNow : GoodIn wsX9_digest (wsV RX9 240 RX9 yX9_ofNodeNow wsX9_ofNodeNow) := goodIn_app (goodIn_of _ (by decide +kernel)) ggX9_digest_X9_ofNodeNow
set_option maxRecDepth 20000 in
theorem ggX9_digest_X9_lookFor : GoodIn wsX9_digest wsX9_lookFor := goodIn_r _ [20, 21, 4, 22, 23, 24, 25, 15, 26, 27, 28, 29, 30, 31, 32, 33, 34, 35, 36, 37, 38, 39, 40, 41, 42, 43, 44, 45, 46, 47, 48, 49, 50, 51, 6, 52, 53, 54, 55, 56, 57, 58, 59, 60, 61, 62, 63, 64, 65, 66, 67, 68, 69, 70, 71, 72, 73, 74, 75, 76, 77, 78, 79, 80, 81, 82, 83, 84, 85, 86, 87, 88, 89, 90, 91, 92, 93, 94, 95, 96, 97, 98, 99, 100, 101, 102, 103, 104, 105, 106, 107, 108, 109, 110, 111, 112, 113, 114, 115, 116, 117, 118, 382, 383, 384, 385, 386, 387, 388, 389, 390, 391, 392, 393, 394, 395, 396, 397, 398, 399, 400, 401, 402, 403, 404, 405, 406, 407, 408, 409, 410, 411, 412, 413, 414, 415, 416, 417, 418, 419, 420, 421, 422, 423, 424, 425, 426, 427, 428, 429, 430, 431, 432, 433, 434, 435, 436, 437, 438, 439, 440, 441] (by decide +kernel) (by decide +kernel)
set_option maxRecDepth 20000 in
theorem gX9_digest_X9_lookFor : GoodIn wsX9_digest (wsV RX9 280 RX9 yX9_lookFor wsX9_lookFor) := goodIn_app (goodIn_of _ (by decide +kernel)) ggX9_digest_X9_lookFor
set_option maxRecDepth 20000 in
theorem ggX9_digest_X9_go : GoodIn wsX9_digest wsX9_go := goodIn_r _ [247, 248, 249, 250, 6, 251, 252, 4, 253, 254, 255, 256, 257, 258, 259, 260, 261, 262, 263, 264, 265, 266, 267, 268, 269, 270, 22, 21, 271, 116, 117, 15, 118, 29, 30, 31, 32, 33, 34, 142, 143, 144, 145, 27, 89, 28, 55, 56, 57, 58, 59, 60, 61, 62, 63, 47, 71, 72, 73, 74, 75, 146, 147, 148, 149, 76, 77, 78, 79, 80, 81, 150, 151, 152, 153, 52, 53, 54, 154, 155, 156, 157, 158, 159, 160, 161, 162, 163, 164, 165, 166, 171, 172, 173, 272, 273, 274, 275, 276, 277, 278, 279, 280, 281, 282, 283, 284, 285, 198, 199, 200, 201, 286, 287, 288, 289, 290, 291, 292, 293, 294, 295, 296, 297, 298, 299, 300, 301, 302, 303, 304, 305, 306, 307, 308, 309, 310, 311, 312, 313, 314, 315, 316, 317, 318, 319, 320, 321, 322, 323, 324, 325, 326, 327, 328, 167, 168, 169, 170, 329, 330, 331, 332, 90, 333, 334, 335, 336, 106, 107, 108, 138, 139, 140, 337, 338, 339, 340, 341, 342, 343, 344, 91, 92, 93, 94, 345, 346, 347, 348, 349, 350, 351, 352, 95, 96, 97, 98, 353, 354, 355, 356, 357, 358, 359, 360, 39, 40, 41, 42, 43, 44, 45, 46, 48, 49, 50, 51, 361, 362, 363, 364, 365, 366, 367, 368, 369, 370, 371, 372, 373, 374, 375, 376, 377, 378, 379, 380, 381, 382, 383, 384, 385, 386, 387, 388, 389, 390, 391, 392, 393, 394, 395, 396, 397, 398, 399, 400, 401, 402, 403, 404, 405, 406, 407, 408, 409, 410, 411, 412, 413, 414, 415, 416, 417, 418, 419, 420, 421, 422, 423, 424, 425, 426, 427, 428, 429, 430, 431, 432, 433, 434, 435, 436, 437, 438, 439, 440, 441] (by decide +kernel) (by decide +kernel)
set_option maxRecDepth 20000 in
theorem gX9_digest_X9_go : GoodIn wsX9_digest (wsV RX9 478 RX9 yX9_go wsX9_go) := goodIn_app (goodIn_of _ (by decide +kernel)) ggX9_digest_X9_go
set_option maxRecDepth 20000 in
theorem ggX9_digest_X9_allCode : GoodIn wsX9_digest wsX9_allCode := goodIn_r _ [177, 4, 178, 179, 180, 15, 181, 182, 183, 184, 185, 186, 187, 188, 22, 189, 190, 191, 192, 27, 28, 47, 193, 194, 195, 196, 197, 21, 198, 199, 200, 201, 55, 56, 57, 58, 59, 60, 61, 62, 63, 71, 72, 73, 74, 75, 202, 203, 204, 205, 167, 168, 169, 170, 154, 155, 156, 157, 158, 206, 207, 208, 209, 210, 211, 212, 213, 214, 215, 35, 36, 37, 38, 39, 40, 41, 42, 33, 43, 44, 45, 46, 48, 49, 50, 51, 6, 29, 30, 31, 32, 34, 216, 217, 218, 219, 89, 220, 90, 95, 96, 97, 98, 81, 221, 222, 223, 224, 106, 107, 108, 116, 117, 118, 127, 128, 129, 130, 131, 132, 133, 134, 135, 136, 137, 138, 139, 140, 141, 225, 226, 227, 228, 109, 110, 111, 112, 113, 114, 115, 142, 143, 144, 145, 146, 147, 148, 149, 76, 77, 78, 79, 80, 150, 151, 152, 153, 52, 53, 54, 159, 160, 161, 162, 163, 164, 165, 166, 229, 382, 383, 384, 385, 386, 387, 388, 389, 390, 391, 392, 393, 394, 395, 396, 397, 398, 399, 400, 401, 402, 403, 404, 405, 406, 407, 408, 409, 410, 411, 412, 413, 414, 415, 416, 417, 418, 419, 420, 421, 422, 423, 424, 425, 426, 427, 428, 429, 430, 431, 432, 433, 434, 435, 436, 437, 438, 439, 440, 441] (by decide +kernel) (by decide +kernel)
set_option maxRecDepth 20000 in
theorem gX9_digest_X9_allCode : GoodIn wsX9_digest (wsV RX9 491 RX9 yX9_allCode wsX9_allCode) := goodIn_app (goodIn_of _ (by decide +kernel)) ggX9_digest_X9_allCode
theorem dX9_digest_0 : decode cX9_digest 0 = .ok (.aload_n 0, 1) := by decide +kernel
theorem dX9_digest_1 : decode cX9_digest 1 = .ok (.iconst 0, 1) := by decide +kernel
theorem dX9_digest_2 : decode cX9_digest 2 = .ok (.putfield 114, 3) := by decide +kernel
theorem dX9_digest_5 : decode cX9_digest 5 = .ok (.ldc2_w 500, 3) := by decide +kernel
theorem dX9_digest_8 : decode cX9_digest 8 = .ok (.lstore_n 1, 1) := by decide +kernel
theorem dX9_digest_9 : decode cX9_digest 9 = .ok (.aload_n 0, 1) := by decide +kernel
theorem dX9_digest_10 : decode cX9_digest 10 = .ok (.invokevirtual 227, 3) := by decide +kernel
theorem dX9_digest_13 : decode cX9_digest 13 = .ok (.istore_n 3, 1) := by decide +kernel
theorem dX9_digest_14 : decode cX9_digest 14 = .ok (.iconst 0, 1) := by decide +kernel
theorem dX9_digest_15 : decode cX9_digest 15 = .ok (.istore 4, 2) := by decide +kernel
theorem dX9_digest_17 : decode cX9_digest 17 = .ok (.iload 4, 2) := by decide +kernel
theorem dX9_digest_19 : decode cX9_digest 19 = .ok (.bipush 11, 2) := by decide +kernel
theorem dX9_digest_21 : decode cX9_digest 21 = .ok (.if_icmp .ge 23, 3) := by decide +kernel
theorem dX9_digest_24 : decode cX9_digest 24 = .ok (.lload_n 1, 1) := by decide +kernel
theorem dX9_digest_25 : decode cX9_digest 25 = .ok (.ldc2_w 502, 3) := by decide +kernel
theorem dX9_digest_28 : decode cX9_digest 28 = .ok (.lmul, 1) := by decide +kernel
theorem dX9_digest_29 : decode cX9_digest 29 = .ok (.aload_n 0, 1) := by decide +kernel
theorem dX9_digest_30 : decode cX9_digest 30 = .ok (.iload 4, 2) := by decide +kernel
theorem dX9_digest_32 : decode cX9_digest 32 = .ok (.invokevirtual 494, 3) := by decide +kernel
theorem dX9_digest_35 : decode cX9_digest 35 = .ok (.i2l, 1) := by decide +kernel
theorem dX9_digest_36 : decode cX9_digest 36 = .ok (.ladd, 1) := by decide +kernel
theorem dX9_digest_37 : decode cX9_digest 37 = .ok (.lstore_n 1, 1) := by decide +kernel
theorem dX9_digest_38 : decode cX9_digest 38 = .ok (.iinc 4 1, 3) := by decide +kernel
theorem dX9_digest_41 : decode cX9_digest 41 = .ok (.goto (-24), 3) := by decide +kernel
theorem dX9_digest_44 : decode cX9_digest 44 = .ok (.iconst 0, 1) := by decide +kernel
theorem dX9_digest_45 : decode cX9_digest 45 = .ok (.istore 4, 2) := by decide +kernel
theorem dX9_digest_47 : decode cX9_digest 47 = .ok (.iload 4, 2) := by decide +kernel
theorem dX9_digest_49 : decode cX9_digest 49 = .ok (.aload_n 0, 1) := by decide +kernel
theorem dX9_digest_50 : decode cX9_digest 50 = .ok (.getfield 7, 3) := by decide +kernel
theorem dX9_digest_53 : decode cX9_digest 53 = .ok (.if_icmp .ge 139, 3) := by decide +kernel
theorem dX9_digest_56 : decode cX9_digest 56 = .ok (.iconst 0, 1) := by decide +kernel
theorem dX9_digest_57 : decode cX9_digest 57 = .ok (.istore 5, 2) := by decide +kernel
theorem dX9_digest_59 : decode cX9_digest 59 = .ok (.iload 5, 2) := by decide +kernel
theorem dX9_digest_61 : decode cX9_digest 61 = .ok (.bipush 8, 2) := by decide +kernel
theorem dX9_digest_63 : decode cX9_digest 63 = .ok (.if_icmp .ge 25, 3) := by decide +kernel
theorem dX9_digest_66 : decode cX9_digest 66 = .ok (.lload_n 1, 1) := by decide +kernel
theorem dX9_digest_67 : decode cX9_digest 67 = .ok (.ldc2_w 502, 3) := by decide +kernel
theorem dX9_digest_70 : decode cX9_digest 70 = .ok (.lmul, 1) := by decide +kernel
theorem dX9_digest_71 : decode cX9_digest 71 = .ok (.aload_n 0, 1) := by decide +kernel
theorem dX9_digest_72 : decode cX9_digest 72 = .ok (.iload 4, 2) := by decide +kernel
theorem dX9_digest_74 : decode cX9_digest 74 = .ok (.iload 5, 2) := by decide +kernel
theorem dX9_digest_76 : decode cX9_digest 76 = .ok (.invokevirtual 234, 3) := by decide +kernel
theorem dX9_digest_79 : decode cX9_digest 79 = .ok (.i2l, 1) := by decide +kernel
theorem dX9_digest_80 : decode cX9_digest 80 = .ok (.ladd, 1) := by decide +kernel
theorem dX9_digest_81 : decode cX9_digest 81 = .ok (.lstore_n 1, 1) := by decide +kernel
theorem dX9_digest_82 : decode cX9_digest 82 = .ok (.iinc 5 1, 3) := by decide +kernel
theorem dX9_digest_85 : decode cX9_digest 85 = .ok (.goto (-26), 3) := by decide +kernel
theorem dX9_digest_88 : decode cX9_digest 88 = .ok (.iconst 0, 1) := by decide +kernel
theorem dX9_digest_89 : decode cX9_digest 89 = .ok (.istore 5, 2) := by decide +kernel
theorem dX9_digest_91 : decode cX9_digest 91 = .ok (.iload 5, 2) := by decide +kernel
theorem dX9_digest_93 : decode cX9_digest 93 = .ok (.bipush 8, 2) := by decide +kernel
theorem dX9_digest_95 : decode cX9_digest 95 = .ok (.if_icmp .ge 25, 3) := by decide +kernel
theorem dX9_digest_98 : decode cX9_digest 98 = .ok (.lload_n 1, 1) := by decide +kernel
theorem dX9_digest_99 : decode cX9_digest 99 = .ok (.ldc2_w 502, 3) := by decide +kernel
theorem dX9_digest_102 : decode cX9_digest 102 = .ok (.lmul, 1) := by decide +kernel
theorem dX9_digest_103 : decode cX9_digest 103 = .ok (.aload_n 0, 1) := by decide +kernel
theorem dX9_digest_104 : decode cX9_digest 104 = .ok (.iload 4, 2) := by decide +kernel
theorem dX9_digest_106 : decode cX9_digest 106 = .ok (.iload 5, 2) := by decide +kernel
theorem dX9_digest_108 : decode cX9_digest 108 = .ok (.invokevirtual 497, 3) := by decide +kernel
theorem dX9_digest_111 : decode cX9_digest 111 = .ok (.i2l, 1) := by decide +kernel
theorem dX9_digest_112 : decode cX9_digest 112 = .ok (.ladd, 1) := by decide +kernel
theorem dX9_digest_113 : decode cX9_digest 113 = .ok (.lstore_n 1, 1) := by decide +kernel
theorem dX9_digest_114 : decode cX9_digest 114 = .ok (.iinc 5 1, 3) := by decide +kernel
theorem dX9_digest_117 : decode cX9_digest 117 = .ok (.goto (-26), 3) := by decide +kernel
theorem dX9_digest_120 : decode cX9_digest 120 = .ok (.iload_n 3, 1) := by decide +kernel
theorem dX9_digest_121 : decode cX9_digest 121 = .ok (.ifCond .le 6, 3) := by decide +kernel
theorem dX9_digest_124 : decode cX9_digest 124 = .ok (.goto 62, 3) := by decide +kernel
theorem dX9_digest_127 : decode cX9_digest 127 = .ok (.aload_n 0, 1) := by decide +kernel
theorem dX9_digest_128 : decode cX9_digest 128 = .ok (.iload 4, 2) := by decide +kernel
theorem dX9_digest_130 : decode cX9_digest 130 = .ok (.aload_n 0, 1) := by decide +kernel
theorem dX9_digest_131 : decode cX9_digest 131 = .ok (.getfield 65, 3) := by decide +kernel
theorem dX9_digest_134 : decode cX9_digest 134 = .ok (.invokevirtual 231, 3) := by decide +kernel
theorem dX9_digest_137 : decode cX9_digest 137 = .ok (.istore 5, 2) := by decide +kernel
theorem dX9_digest_139 : decode cX9_digest 139 = .ok (.iconst 0, 1) := by decide +kernel
theorem dX9_digest_140 : decode cX9_digest 140 = .ok (.istore 6, 2) := by decide +kernel
theorem dX9_digest_142 : decode cX9_digest 142 = .ok (.iload 6, 2) := by decide +kernel
theorem dX9_digest_144 : decode cX9_digest 144 = .ok (.iload 5, 2) := by decide +kernel
theorem dX9_digest_146 : decode cX9_digest 146 = .ok (.if_icmp .ge 40, 3) := by decide +kernel
theorem dX9_digest_149 : decode cX9_digest 149 = .ok (.iconst 0, 1) := by decide +kernel
theorem dX9_digest_150 : decode cX9_digest 150 = .ok (.istore 7, 2) := by decide +kernel
theorem dX9_digest_152 : decode cX9_digest 152 = .ok (.iload 7, 2) := by decide +kernel
theorem dX9_digest_154 : decode cX9_digest 154 = .ok (.iconst 4, 1) := by decide +kernel
theorem dX9_digest_155 : decode cX9_digest 155 = .ok (.if_icmp .ge 25, 3) := by decide +kernel
theorem dX9_digest_158 : decode cX9_digest 158 = .ok (.lload_n 1, 1) := by decide +kernel
theorem dX9_digest_159 : decode cX9_digest 159 = .ok (.ldc2_w 502, 3) := by decide +kernel
theorem dX9_digest_162 : decode cX9_digest 162 = .ok (.lmul, 1) := by decide +kernel
theorem dX9_digest_163 : decode cX9_digest 163 = .ok (.aload_n 0, 1) := by decide +kernel
theorem dX9_digest_164 : decode cX9_digest 164 = .ok (.iload 6, 2) := by decide +kernel
theorem dX9_digest_166 : decode cX9_digest 166 = .ok (.iload 7, 2) := by decide +kernel
theorem dX9_digest_168 : decode cX9_digest 168 = .ok (.invokevirtual 328, 3) := by decide +kernel
theorem dX9_digest_171 : decode cX9_digest 171 = .ok (.i2l, 1) := by decide +kernel
theorem dX9_digest_172 : decode cX9_digest 172 = .ok (.ladd, 1) := by decide +kernel
theorem dX9_digest_173 : decode cX9_digest 173 = .ok (.lstore_n 1, 1) := by decide +kernel
theorem dX9_digest_174 : decode cX9_digest 174 = .ok (.iinc 7 1, 3) := by decide +kernel
theorem dX9_digest_177 : decode cX9_digest 177 = .ok (.goto (-25), 3) := by decide +kernel
theorem dX9_digest_180 : decode cX9_digest 180 = .ok (.iinc 6 1, 3) := by decide +kernel
theorem dX9_digest_183 : decode cX9_digest 183 = .ok (.goto (-41), 3) := by decide +kernel
theorem dX9_digest_186 : decode cX9_digest 186 = .ok (.iinc 4 1, 3) := by decide +kernel
theorem dX9_digest_189 : decode cX9_digest 189 = .ok (.goto (-142), 3) := by decide +kernel
theorem dX9_digest_192 : decode cX9_digest 192 = .ok (.iconst 0, 1) := by decide +kernel
theorem dX9_digest_193 : decode cX9_digest 193 = .ok (.istore 4, 2) := by decide +kernel
theorem dX9_digest_195 : decode cX9_digest 195 = .ok (.iload 4, 2) := by decide +kernel
theorem dX9_digest_197 : decode cX9_digest 197 = .ok (.aload_n 0, 1) := by decide +kernel
theorem dX9_digest_198 : decode cX9_digest 198 = .ok (.getfield 121, 3) := by decide +kernel
theorem dX9_digest_201 : decode cX9_digest 201 = .ok (.if_icmp .ge 41, 3) := by decide +kernel
theorem dX9_digest_204 : decode cX9_digest 204 = .ok (.iconst 4, 1) := by decide +kernel
theorem dX9_digest_205 : decode cX9_digest 205 = .ok (.istore 5, 2) := by decide +kernel
theorem dX9_digest_207 : decode cX9_digest 207 = .ok (.iload 5, 2) := by decide +kernel
theorem dX9_digest_209 : decode cX9_digest 209 = .ok (.bipush 8, 2) := by decide +kernel
theorem dX9_digest_211 : decode cX9_digest 211 = .ok (.if_icmp .ge 25, 3) := by decide +kernel
theorem dX9_digest_214 : decode cX9_digest 214 = .ok (.lload_n 1, 1) := by decide +kernel
theorem dX9_digest_215 : decode cX9_digest 215 = .ok (.ldc2_w 502, 3) := by decide +kernel
theorem dX9_digest_218 : decode cX9_digest 218 = .ok (.lmul, 1) := by decide +kernel
theorem dX9_digest_219 : decode cX9_digest 219 = .ok (.aload_n 0, 1) := by decide +kernel
theorem dX9_digest_220 : decode cX9_digest 220 = .ok (.iload 4, 2) := by decide +kernel
theorem dX9_digest_222 : decode cX9_digest 222 = .ok (.iload 5, 2) := by decide +kernel
theorem dX9_digest_224 : decode cX9_digest 224 = .ok (.invokevirtual 240, 3) := by decide +kernel
theorem dX9_digest_227 : decode cX9_digest 227 = .ok (.i2l, 1) := by decide +kernel
theorem dX9_digest_228 : decode cX9_digest 228 = .ok (.ladd, 1) := by decide +kernel
theorem dX9_digest_229 : decode cX9_digest 229 = .ok (.lstore_n 1, 1) := by decide +kernel
theorem dX9_digest_230 : decode cX9_digest 230 = .ok (.iinc 5 1, 3) := by decide +kernel
theorem dX9_digest_233 : decode cX9_digest 233 = .ok (.goto (-26), 3) := by decide +kernel
theorem dX9_digest_236 : decode cX9_digest 236 = .ok (.iinc 4 1, 3) := by decide +kernel
theorem dX9_digest_239 : decode cX9_digest 239 = .ok (.goto (-44), 3) := by decide +kernel
theorem dX9_digest_242 : decode cX9_digest 242 = .ok (.iconst 0, 1) := by decide +kernel
theorem dX9_digest_243 : decode cX9_digest 243 = .ok (.istore 4, 2) := by decide +kernel
theorem dX9_digest_245 : decode cX9_digest 245 = .ok (.iload 4, 2) := by decide +kernel
theorem dX9_digest_247 : decode cX9_digest 247 = .ok (.iload_n 3, 1) := by decide +kernel
theorem dX9_digest_248 : decode cX9_digest 248 = .ok (.if_icmp .ge 40, 3) := by decide +kernel
theorem dX9_digest_251 : decode cX9_digest 251 = .ok (.iconst 0, 1) := by decide +kernel
theorem dX9_digest_252 : decode cX9_digest 252 = .ok (.istore 5, 2) := by decide +kernel
theorem dX9_digest_254 : decode cX9_digest 254 = .ok (.iload 5, 2) := by decide +kernel
theorem dX9_digest_256 : decode cX9_digest 256 = .ok (.iconst 3, 1) := by decide +kernel
theorem dX9_digest_257 : decode cX9_digest 257 = .ok (.if_icmp .ge 25, 3) := by decide +kernel
theorem dX9_digest_260 : decode cX9_digest 260 = .ok (.lload_n 1, 1) := by decide +kernel
theorem dX9_digest_261 : decode cX9_digest 261 = .ok (.ldc2_w 502, 3) := by decide +kernel
theorem dX9_digest_264 : decode cX9_digest 264 = .ok (.lmul, 1) := by decide +kernel
theorem dX9_digest_265 : decode cX9_digest 265 = .ok (.aload_n 0, 1) := by decide +kernel
theorem dX9_digest_266 : decode cX9_digest 266 = .ok (.iload 4, 2) := by decide +kernel
theorem dX9_digest_268 : decode cX9_digest 268 = .ok (.iload 5, 2) := by decide +kernel
theorem dX9_digest_270 : decode cX9_digest 270 = .ok (.invokevirtual 280, 3) := by decide +kernel
theorem dX9_digest_273 : decode cX9_digest 273 = .ok (.i2l, 1) := by decide +kernel
theorem dX9_digest_274 : decode cX9_digest 274 = .ok (.ladd, 1) := by decide +kernel
theorem dX9_digest_275 : decode cX9_digest 275 = .ok (.lstore_n 1, 1) := by decide +kernel
theorem dX9_digest_276 : decode cX9_digest 276 = .ok (.iinc 5 1, 3) := by decide +kernel
theorem dX9_digest_279 : decode cX9_digest 279 = .ok (.goto (-25), 3) := by decide +kernel
theorem dX9_digest_282 : decode cX9_digest 282 = .ok (.iinc 4 1, 3) := by decide +kernel
theorem dX9_digest_285 : decode cX9_digest 285 = .ok (.goto (-40), 3) := by decide +kernel
theorem dX9_digest_288 : decode cX9_digest 288 = .ok (.iconst 0, 1) := by decide +kernel
theorem dX9_digest_289 : decode cX9_digest 289 = .ok (.istore 4, 2) := by decide +kernel
theorem dX9_digest_291 : decode cX9_digest 291 = .ok (.iload 4, 2) := by decide +kernel
theorem dX9_digest_293 : decode cX9_digest 293 = .ok (.bipush 10, 2) := by decide +kernel
theorem dX9_digest_295 : decode cX9_digest 295 = .ok (.if_icmp .ge 24, 3) := by decide +kernel
theorem dX9_digest_298 : decode cX9_digest 298 = .ok (.lload_n 1, 1) := by decide +kernel
theorem dX9_digest_299 : decode cX9_digest 299 = .ok (.ldc2_w 502, 3) := by decide +kernel
theorem dX9_digest_302 : decode cX9_digest 302 = .ok (.lmul, 1) := by decide +kernel
theorem dX9_digest_303 : decode cX9_digest 303 = .ok (.aload_n 0, 1) := by decide +kernel
theorem dX9_digest_304 : decode cX9_digest 304 = .ok (.getfield 74, 3) := by decide +kernel
theorem dX9_digest_307 : decode cX9_digest 307 = .ok (.iload 4, 2) := by decide +kernel
theorem dX9_digest_309 : decode cX9_digest 309 = .ok (.iaload, 1) := by decide +kernel
theorem dX9_digest_310 : decode cX9_digest 310 = .ok (.i2l, 1) := by decide +kernel
theorem dX9_digest_311 : decode cX9_digest 311 = .ok (.ladd, 1) := by decide +kernel
theorem dX9_digest_312 : decode cX9_digest 312 = .ok (.lstore_n 1, 1) := by decide +kernel
theorem dX9_digest_313 : decode cX9_digest 313 = .ok (.iinc 4 1, 3) := by decide +kernel
theorem dX9_digest_316 : decode cX9_digest 316 = .ok (.goto (-25), 3) := by decide +kernel
theorem dX9_digest_319 : decode cX9_digest 319 = .ok (.lload_n 1, 1) := by decide +kernel
theorem dX9_digest_320 : decode cX9_digest 320 = .ok (.ldc2_w 502, 3) := by decide +kernel
theorem dX9_digest_323 : decode cX9_digest 323 = .ok (.lmul, 1) := by decide +kernel
theorem dX9_digest_324 : decode cX9_digest 324 = .ok (.aload_n 0, 1) := by decide +kernel
theorem dX9_digest_325 : decode cX9_digest 325 = .ok (.getfield 488, 3) := by decide +kernel
theorem dX9_digest_328 : decode cX9_digest 328 = .ok (.i2l, 1) := by decide +kernel
theorem dX9_digest_329 : decode cX9_digest 329 = .ok (.ladd, 1) := by decide +kernel
theorem dX9_digest_330 : decode cX9_digest 330 = .ok (.lstore_n 1, 1) := by decide +kernel
theorem dX9_digest_331 : decode cX9_digest 331 = .ok (.aload_n 0, 1) := by decide +kernel
theorem dX9_digest_332 : decode cX9_digest 332 = .ok (.getfield 77, 3) := by decide +kernel
theorem dX9_digest_335 : decode cX9_digest 335 = .ok (.astore 4, 2) := by decide +kernel
theorem dX9_digest_337 : decode cX9_digest 337 = .ok (.aload 4, 2) := by decide +kernel
theorem dX9_digest_339 : decode cX9_digest 339 = .ok (.arraylength, 1) := by decide +kernel
theorem dX9_digest_340 : decode cX9_digest 340 = .ok (.istore 5, 2) := by decide +kernel
theorem dX9_digest_342 : decode cX9_digest 342 = .ok (.iconst 0, 1) := by decide +kernel
theorem dX9_digest_343 : decode cX9_digest 343 = .ok (.istore 6, 2) := by decide +kernel
theorem dX9_digest_345 : decode cX9_digest 345 = .ok (.iload 6, 2) := by decide +kernel
theorem dX9_digest_347 : decode cX9_digest 347 = .ok (.iload 5, 2) := by decide +kernel
theorem dX9_digest_349 : decode cX9_digest 349 = .ok (.if_icmp .ge 26, 3) := by decide +kernel
theorem dX9_digest_352 : decode cX9_digest 352 = .ok (.aload 4, 2) := by decide +kernel
theorem dX9_digest_354 : decode cX9_digest 354 = .ok (.iload 6, 2) := by decide +kernel
theorem dX9_digest_356 : decode cX9_digest 356 = .ok (.iaload, 1) := by decide +kernel
theorem dX9_digest_357 : decode cX9_digest 357 = .ok (.istore 7, 2) := by decide +kernel
theorem dX9_digest_359 : decode cX9_digest 359 = .ok (.lload_n 1, 1) := by decide +kernel
theorem dX9_digest_360 : decode cX9_digest 360 = .ok (.ldc2_w 502, 3) := by decide +kernel
theorem dX9_digest_363 : decode cX9_digest 363 = .ok (.lmul, 1) := by decide +kernel
theorem dX9_digest_364 : decode cX9_digest 364 = .ok (.iload 7, 2) := by decide +kernel
theorem dX9_digest_366 : decode cX9_digest 366 = .ok (.i2l, 1) := by decide +kernel
theorem dX9_digest_367 : decode cX9_digest 367 = .ok (.ladd, 1) := by decide +kernel
theorem dX9_digest_368 : decode cX9_digest 368 = .ok (.lstore_n 1, 1) := by decide +kernel
theorem dX9_digest_369 : decode cX9_digest 369 = .ok (.iinc 6 1, 3) := by decide +kernel
theorem dX9_digest_372 : decode cX9_digest 372 = .ok (.goto (-27), 3) := by decide +kernel
theorem dX9_digest_375 : decode cX9_digest 375 = .ok (.iload_n 3, 1) := by decide +kernel
theorem dX9_digest_376 : decode cX9_digest 376 = .ok (.ifCond .le 5, 3) := by decide +kernel
theorem dX9_digest_379 : decode cX9_digest 379 = .ok (.lload_n 1, 1) := by decide +kernel
theorem dX9_digest_380 : decode cX9_digest 380 = .ok (.lreturn, 1) := by decide +kernel
theorem dX9_digest_381 : decode cX9_digest 381 = .ok (.aload_n 0, 1) := by decide +kernel
theorem dX9_digest_382 : decode cX9_digest 382 = .ok (.aload_n 0, 1) := by decide +kernel
theorem dX9_digest_383 : decode cX9_digest 383 = .ok (.getfield 68, 3) := by decide +kernel
theorem dX9_digest_386 : decode cX9_digest 386 = .ok (.aload_n 0, 1) := by decide +kernel
theorem dX9_digest_387 : decode cX9_digest 387 = .ok (.getfield 71, 3) := by decide +kernel
theorem dX9_digest_390 : decode cX9_digest 390 = .ok (.iconst 0, 1) := by decide +kernel
theorem dX9_digest_391 : decode cX9_digest 391 = .ok (.invokevirtual 478, 3) := by decide +kernel
theorem dX9_digest_394 : decode cX9_digest 394 = .ok (.astore 4, 2) := by decide +kernel
theorem dX9_digest_396 : decode cX9_digest 396 = .ok (.lload_n 1, 1) := by decide +kernel
theorem dX9_digest_397 : decode cX9_digest 397 = .ok (.ldc2_w 502, 3) := by decide +kernel
theorem dX9_digest_400 : decode cX9_digest 400 = .ok (.lmul, 1) := by decide +kernel
theorem dX9_digest_401 : decode cX9_digest 401 = .ok (.aload_n 0, 1) := by decide +kernel
theorem dX9_digest_402 : decode cX9_digest 402 = .ok (.iconst 0, 1) := by decide +kernel
theorem dX9_digest_403 : decode cX9_digest 403 = .ok (.invokevirtual 491, 3) := by decide +kernel
theorem dX9_digest_406 : decode cX9_digest 406 = .ok (.i2l, 1) := by decide +kernel
theorem dX9_digest_407 : decode cX9_digest 407 = .ok (.ladd, 1) := by decide +kernel
theorem dX9_digest_408 : decode cX9_digest 408 = .ok (.ldc2_w 502, 3) := by decide +kernel
theorem dX9_digest_411 : decode cX9_digest 411 = .ok (.lmul, 1) := by decide +kernel
theorem dX9_digest_412 : decode cX9_digest 412 = .ok (.aload 4, 2) := by decide +kernel
theorem dX9_digest_414 : decode cX9_digest 414 = .ok (.bipush 6, 2) := by decide +kernel
theorem dX9_digest_416 : decode cX9_digest 416 = .ok (.iaload, 1) := by decide +kernel
theorem dX9_digest_417 : decode cX9_digest 417 = .ok (.i2l, 1) := by decide +kernel
theorem dX9_digest_418 : decode cX9_digest 418 = .ok (.ladd, 1) := by decide +kernel
theorem dX9_digest_419 : decode cX9_digest 419 = .ok (.ldc2_w 502, 3) := by decide +kernel
theorem dX9_digest_422 : decode cX9_digest 422 = .ok (.lmul, 1) := by decide +kernel
theorem dX9_digest_423 : decode cX9_digest 423 = .ok (.aload 4, 2) := by decide +kernel
theorem dX9_digest_425 : decode cX9_digest 425 = .ok (.bipush 7, 2) := by decide +kernel
theorem dX9_digest_427 : decode cX9_digest 427 = .ok (.iaload, 1) := by decide +kernel
theorem dX9_digest_428 : decode cX9_digest 428 = .ok (.i2l, 1) := by decide +kernel
theorem dX9_digest_429 : decode cX9_digest 429 = .ok (.ladd, 1) := by decide +kernel
theorem dX9_digest_430 : decode cX9_digest 430 = .ok (.lstore_n 1, 1) := by decide +kernel
theorem dX9_digest_431 : decode cX9_digest 431 = .ok (.aload_n 0, 1) := by decide +kernel
theorem dX9_digest_432 : decode cX9_digest 432 = .ok (.sipush 200, 3) := by decide +kernel
theorem dX9_digest_435 : decode cX9_digest 435 = .ok (.bipush 10, 2) := by decide +kernel
theorem dX9_digest_437 : decode cX9_digest 437 = .ok (.aload_n 0, 1) := by decide +kernel
theorem dX9_digest_438 : decode cX9_digest 438 = .ok (.getfield 65, 3) := by decide +kernel
theorem dX9_digest_441 : decode cX9_digest 441 = .ok (.invokevirtual 478, 3) := by decide +kernel
theorem dX9_digest_444 : decode cX9_digest 444 = .ok (.astore 5, 2) := by decide +kernel
theorem dX9_digest_446 : decode cX9_digest 446 = .ok (.aload 5, 2) := by decide +kernel
theorem dX9_digest_448 : decode cX9_digest 448 = .ok (.arraylength, 1) := by decide +kernel
theorem dX9_digest_449 : decode cX9_digest 449 = .ok (.istore 6, 2) := by decide +kernel
theorem dX9_digest_451 : decode cX9_digest 451 = .ok (.iconst 0, 1) := by decide +kernel
theorem dX9_digest_452 : decode cX9_digest 452 = .ok (.istore 7, 2) := by decide +kernel
theorem dX9_digest_454 : decode cX9_digest 454 = .ok (.iload 7, 2) := by decide +kernel
theorem dX9_digest_456 : decode cX9_digest 456 = .ok (.iload 6, 2) := by decide +kernel
theorem dX9_digest_458 : decode cX9_digest 458 = .ok (.if_icmp .ge 26, 3) := by decide +kernel
theorem dX9_digest_461 : decode cX9_digest 461 = .ok (.aload 5, 2) := by decide +kernel
theorem dX9_digest_463 : decode cX9_digest 463 = .ok (.iload 7, 2) := by decide +kernel
theorem dX9_digest_465 : decode cX9_digest 465 = .ok (.iaload, 1) := by decide +kernel
theorem dX9_digest_466 : decode cX9_digest 466 = .ok (.istore 8, 2) := by decide +kernel
theorem dX9_digest_468 : decode cX9_digest 468 = .ok (.lload_n 1, 1) := by decide +kernel
theorem dX9_digest_469 : decode cX9_digest 469 = .ok (.ldc2_w 502, 3) := by decide +kernel
theorem dX9_digest_472 : decode cX9_digest 472 = .ok (.lmul, 1) := by decide +kernel
theorem dX9_digest_473 : decode cX9_digest 473 = .ok (.iload 8, 2) := by decide +kernel
theorem dX9_digest_475 : decode cX9_digest 475 = .ok (.i2l, 1) := by decide +kernel
theorem dX9_digest_476 : decode cX9_digest 476 = .ok (.ladd, 1) := by decide +kernel
theorem dX9_digest_477 : decode cX9_digest 477 = .ok (.lstore_n 1, 1) := by decide +kernel
theorem dX9_digest_478 : decode cX9_digest 478 = .ok (.iinc 7 1, 3) := by decide +kernel
theorem dX9_digest_481 : decode cX9_digest 481 = .ok (.goto (-27), 3) := by decide +kernel
theorem dX9_digest_484 : decode cX9_digest 484 = .ok (.lload_n 1, 1) := by decide +kernel
theorem dX9_digest_485 : decode cX9_digest 485 = .ok (.lreturn, 1) := by decide +kernel
