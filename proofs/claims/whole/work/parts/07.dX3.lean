set_option maxRecDepth 20000 in
theorem ggX3_init_X7_init : GoodIn wsX3_init wsX7_init := goodIn_r _ [29, 30, 2, 3, 31, 32, 33, 34, 52, 53, 54] (by decide +kernel) (by decide +kernel)
set_option maxRecDepth 20000 in
theorem gX3_init_X7_init : GoodIn wsX3_init (wsX7_init) := ggX3_init_X7_init
set_option maxRecDepth 20000 in
theorem ggX3_init_X6_init : GoodIn wsX3_init wsX6_init := goodIn_r _ [36, 37, 2, 3, 38, 39, 40, 41, 42, 43, 44, 45, 46, 47, 48, 33, 49, 50, 51, 72, 73, 74, 75, 76, 77, 78, 79, 80, 81, 82, 83, 84, 85] (by decide +kernel) (by decide +kernel)
set_option maxRecDepth 20000 in
theorem gX3_init_X6_init_n34 : GoodIn wsX3_init (wsX6_init) := ggX3_init_X6_init
theorem dX3_init_0 : decode cX3_init 0 = .ok (.aload_n 0, 1) := by decide +kernel
theorem dX3_init_1 : decode cX3_init 1 = .ok (.invokespecial 3, 3) := by decide +kernel
theorem dX3_init_4 : decode cX3_init 4 = .ok (.aload_n 0, 1) := by decide +kernel
theorem dX3_init_5 : decode cX3_init 5 = .ok (.new 9, 3) := by decide +kernel
theorem dX3_init_8 : decode cX3_init 8 = .ok (.dup, 1) := by decide +kernel
theorem dX3_init_9 : decode cX3_init 9 = .ok (.iconst 2, 1) := by decide +kernel
theorem dX3_init_10 : decode cX3_init 10 = .ok (.invokespecial 11, 3) := by decide +kernel
theorem dX3_init_13 : decode cX3_init 13 = .ok (.putfield 14, 3) := by decide +kernel
theorem dX3_init_16 : decode cX3_init 16 = .ok (.aload_n 0, 1) := by decide +kernel
theorem dX3_init_17 : decode cX3_init 17 = .ok (.new 9, 3) := by decide +kernel
theorem dX3_init_20 : decode cX3_init 20 = .ok (.dup, 1) := by decide +kernel
theorem dX3_init_21 : decode cX3_init 21 = .ok (.iconst 2, 1) := by decide +kernel
theorem dX3_init_22 : decode cX3_init 22 = .ok (.invokespecial 11, 3) := by decide +kernel
theorem dX3_init_25 : decode cX3_init 25 = .ok (.putfield 20, 3) := by decide +kernel
theorem dX3_init_28 : decode cX3_init 28 = .ok (.aload_n 0, 1) := by decide +kernel
theorem dX3_init_29 : decode cX3_init 29 = .ok (.new 9, 3) := by decide +kernel
theorem dX3_init_32 : decode cX3_init 32 = .ok (.dup, 1) := by decide +kernel
theorem dX3_init_33 : decode cX3_init 33 = .ok (.iconst 3, 1) := by decide +kernel
theorem dX3_init_34 : decode cX3_init 34 = .ok (.invokespecial 11, 3) := by decide +kernel
theorem dX3_init_37 : decode cX3_init 37 = .ok (.putfield 23, 3) := by decide +kernel
theorem dX3_init_40 : decode cX3_init 40 = .ok (.aload_n 0, 1) := by decide +kernel
theorem dX3_init_41 : decode cX3_init 41 = .ok (.new 9, 3) := by decide +kernel
theorem dX3_init_44 : decode cX3_init 44 = .ok (.dup, 1) := by decide +kernel
theorem dX3_init_45 : decode cX3_init 45 = .ok (.iconst 5, 1) := by decide +kernel
theorem dX3_init_46 : decode cX3_init 46 = .ok (.invokespecial 11, 3) := by decide +kernel
theorem dX3_init_49 : decode cX3_init 49 = .ok (.putfield 26, 3) := by decide +kernel
theorem dX3_init_52 : decode cX3_init 52 = .ok (.aload_n 0, 1) := by decide +kernel
theorem dX3_init_53 : decode cX3_init 53 = .ok (.new 9, 3) := by decide +kernel
theorem dX3_init_56 : decode cX3_init 56 = .ok (.dup, 1) := by decide +kernel
theorem dX3_init_57 : decode cX3_init 57 = .ok (.iconst 5, 1) := by decide +kernel
theorem dX3_init_58 : decode cX3_init 58 = .ok (.invokespecial 11, 3) := by decide +kernel
theorem dX3_init_61 : decode cX3_init 61 = .ok (.putfield 29, 3) := by decide +kernel
theorem dX3_init_64 : decode cX3_init 64 = .ok (.aload_n 0, 1) := by decide +kernel
theorem dX3_init_65 : decode cX3_init 65 = .ok (.new 32, 3) := by decide +kernel
theorem dX3_init_68 : decode cX3_init 68 = .ok (.dup, 1) := by decide +kernel
theorem dX3_init_69 : decode cX3_init 69 = .ok (.invokespecial 34, 3) := by decide +kernel
theorem dX3_init_72 : decode cX3_init 72 = .ok (.putfield 35, 3) := by decide +kernel
theorem dX3_init_75 : decode cX3_init 75 = .ok (.aload_n 0, 1) := by decide +kernel
theorem dX3_init_76 : decode cX3_init 76 = .ok (.iconst 0, 1) := by decide +kernel
theorem dX3_init_77 : decode cX3_init 77 = .ok (.putfield 39, 3) := by decide +kernel
theorem dX3_init_80 : decode cX3_init 80 = .ok (.aload_n 0, 1) := by decide +kernel
theorem dX3_init_81 : decode cX3_init 81 = .ok (.iconst 0, 1) := by decide +kernel
theorem dX3_init_82 : decode cX3_init 82 = .ok (.putfield 43, 3) := by decide +kernel
theorem dX3_init_85 : decode cX3_init 85 = .ok (.aload_n 0, 1) := by decide +kernel
theorem dX3_init_86 : decode cX3_init 86 = .ok (.iconst 0, 1) := by decide +kernel
theorem dX3_init_87 : decode cX3_init 87 = .ok (.putfield 46, 3) := by decide +kernel
theorem dX3_init_90 : decode cX3_init 90 = .ok (.aload_n 0, 1) := by decide +kernel
theorem dX3_init_91 : decode cX3_init 91 = .ok (.iconst (-1), 1) := by decide +kernel
theorem dX3_init_92 : decode cX3_init 92 = .ok (.putfield 49, 3) := by decide +kernel
theorem dX3_init_95 : decode cX3_init 95 = .ok (.aload_n 0, 1) := by decide +kernel
theorem dX3_init_96 : decode cX3_init 96 = .ok (.iconst 0, 1) := by decide +kernel
theorem dX3_init_97 : decode cX3_init 97 = .ok (.putfield 52, 3) := by decide +kernel
theorem dX3_init_100 : decode cX3_init 100 = .ok (.aload_n 0, 1) := by decide +kernel
theorem dX3_init_101 : decode cX3_init 101 = .ok (.iconst 0, 1) := by decide +kernel
theorem dX3_init_102 : decode cX3_init 102 = .ok (.putfield 55, 3) := by decide +kernel
theorem dX3_init_105 : decode cX3_init 105 = .ok (.aload_n 0, 1) := by decide +kernel
theorem dX3_init_106 : decode cX3_init 106 = .ok (.iconst 1, 1) := by decide +kernel
theorem dX3_init_107 : decode cX3_init 107 = .ok (.putfield 58, 3) := by decide +kernel
theorem dX3_init_110 : decode cX3_init 110 = .ok (.aload_n 0, 1) := by decide +kernel
theorem dX3_init_111 : decode cX3_init 111 = .ok (.aload_n 1, 1) := by decide +kernel
theorem dX3_init_112 : decode cX3_init 112 = .ok (.putfield 62, 3) := by decide +kernel
theorem dX3_init_115 : decode cX3_init 115 = .ok (.aload_n 0, 1) := by decide +kernel
theorem dX3_init_116 : decode cX3_init 116 = .ok (.aload_n 2, 1) := by decide +kernel
theorem dX3_init_117 : decode cX3_init 117 = .ok (.putfield 66, 3) := by decide +kernel
theorem dX3_init_120 : decode cX3_init 120 = .ok (.aload_n 0, 1) := by decide +kernel
theorem dX3_init_121 : decode cX3_init 121 = .ok (.aload_n 3, 1) := by decide +kernel
theorem dX3_init_122 : decode cX3_init 122 = .ok (.putfield 70, 3) := by decide +kernel
theorem dX3_init_125 : decode cX3_init 125 = .ok (.aload_n 0, 1) := by decide +kernel
theorem dX3_init_126 : decode cX3_init 126 = .ok (.aload 4, 2) := by decide +kernel
theorem dX3_init_128 : decode cX3_init 128 = .ok (.putfield 74, 3) := by decide +kernel
theorem dX3_init_131 : decode cX3_init 131 = .ok (.return_, 1) := by decide +kernel
set_option maxRecDepth 20000 in
theorem ggX3_execute_X0_layOut : GoodIn wsX3_execute wsX0_layOut := goodIn_r _ [15, 16, 17, 18, 19, 20, 21, 22, 23, 24, 25, 14, 26, 27, 28, 29, 30, 31, 32, 33, 34, 35, 36, 37, 38, 39, 40, 41, 42, 43, 44, 45, 46, 47, 48, 49, 50, 51, 52, 53, 54, 55, 56, 57, 58, 59, 60, 61, 62, 63, 64, 65, 66, 67, 68, 69, 70, 71, 72, 73, 74, 75, 76, 77, 78, 79, 80, 81, 82, 83, 84, 85, 86, 87, 88, 89, 90, 91, 92, 93, 94, 95, 96, 97, 98, 99, 100, 101, 102, 103, 104, 105, 106, 107, 108, 109, 110, 111, 112, 113, 114, 115, 116, 117, 118, 119, 120, 121, 122, 123, 124, 125, 126, 127, 128, 129, 130, 131, 132, 133, 134, 135, 136, 137, 138, 139, 140, 141, 142, 143, 144, 145, 146, 147, 148, 149, 150, 403, 404, 405, 406, 407, 408, 409, 410, 411, 412, 413, 414, 415, 416, 417, 418, 419, 420, 421, 422, 423, 424, 425, 426, 427, 428, 429, 430, 431, 432, 433, 434, 435, 436, 437, 438, 439, 440, 441, 442, 443, 444, 445, 446, 447, 448, 449, 450, 451, 452, 453, 454, 455, 456, 457] (by decide +kernel) (by decide +kernel)
set_option maxRecDepth 20000 in
theorem gX3_execute_X0_layOut : GoodIn wsX3_execute (wsV RX3 78 RX0 yX0_layOut wsX0_layOut) := goodIn_app (goodIn_of _ (by decide +kernel)) ggX3_execute_X0_layOut
set_option maxRecDepth 20000 in
theorem ggX3_execute_X3_clear : GoodIn wsX3_execute wsX3_clear := goodIn_r _ [155, 156, 157, 158, 159, 160, 161, 5, 162, 7, 163, 164, 165, 166, 167, 168, 386, 387, 388, 389, 390, 391, 392, 393, 394, 395, 396, 397, 398, 399, 400, 401, 402, 458, 459, 460] (by decide +kernel) (by decide +kernel)
set_option maxRecDepth 20000 in
theorem gX3_execute_X3_clear : GoodIn wsX3_execute (wsV RX3 83 RX3 yX3_clear wsX3_clear) := goodIn_app (goodIn_of _ (by decide +kernel)) ggX3_execute_X3_clear
set_option maxRecDepth 20000 in
theorem ggX3_execute_X6_start : GoodIn wsX3_execute wsX6_start := goodIn_r _ [173, 174, 175, 176, 177, 178, 179, 180, 181, 182, 183, 184, 461, 462, 463, 464, 465, 466, 467, 468, 469, 470, 471, 472, 473, 474] (by decide +kernel) (by decide +kernel)
set_option maxRecDepth 20000 in
theorem gX3_execute_X6_start : GoodIn wsX3_execute (wsV RX3 86 RX6 yX6_start wsX6_start) := goodIn_app (goodIn_of _ (by decide +kernel)) ggX3_execute_X6_start
set_option maxRecDepth 20000 in
theorem ggX3_execute_X3_keepReturn : GoodIn wsX3_execute wsX3_keepReturn := goodIn_r _ [188, 159, 161, 162, 160, 189, 190, 191, 192, 166, 193, 168, 194, 195, 196, 197, 198, 199, 200, 201, 202, 203, 204, 205, 206, 207, 208, 209, 210, 211, 212, 213, 214, 215, 216, 217, 218, 219, 220, 221, 222, 386, 387, 388, 389, 390, 391, 392, 393, 394, 395, 396, 397, 398, 399, 400, 401, 402, 458, 459, 460] (by decide +kernel) (by decide +kernel)
set_option maxRecDepth 20000 in
theorem gX3_execute_X3_keepReturn : GoodIn wsX3_execute (wsV RX3 89 RX3 yX3_keepReturn wsX3_keepReturn) := goodIn_app (goodIn_of _ (by decide +kernel)) ggX3_execute_X3_keepReturn
set_option maxRecDepth 20000 in
theorem ggX3_execute_X3_call : GoodIn wsX3_execute wsX3_call := goodIn_r _ [226, 162, 159, 189, 5, 4, 227, 228, 2, 229, 230, 231, 232, 233, 234, 235, 209, 236, 237, 158, 161, 156, 1, 238, 8, 239, 240, 241, 166, 242, 195, 194, 219, 220, 221, 222, 168, 243, 244, 245, 246, 247, 248, 249, 190, 191, 192, 193, 196, 197, 198, 199, 200, 201, 202, 203, 204, 205, 206, 207, 208, 210, 211, 212, 213, 214, 215, 216, 217, 218, 250, 251, 252, 154, 253, 254, 157, 255, 256, 163, 164, 165, 167, 386, 387, 388, 389, 390, 391, 392, 393, 394, 395, 396, 397, 398, 399, 400, 401, 402, 458, 459, 460, 461, 462, 463, 464, 465, 466, 467, 468, 469, 470, 471, 472, 473, 474, 427, 428, 429, 430, 431, 432, 433, 434, 435, 436, 437, 438, 439, 440, 441, 442, 443, 444, 445, 446, 447, 448, 449, 450, 451, 452, 453, 454, 455, 456, 457, 403, 404, 405, 406, 407, 408, 409, 410, 411, 412, 413, 414, 415, 416, 417, 418, 419] (by decide +kernel) (by decide +kernel)
set_option maxRecDepth 20000 in
theorem gX3_execute_X3_call : GoodIn wsX3_execute (wsV RX3 93 RX3 yX3_call wsX3_call) := goodIn_app (goodIn_of _ (by decide +kernel)) ggX3_execute_X3_call
set_option maxRecDepth 20000 in
theorem ggX3_execute_X3_begin : GoodIn wsX3_execute wsX3_begin := goodIn_r _ [260, 1, 261, 4, 262, 263, 264, 265, 266, 154, 267, 268, 269, 229, 270, 271, 7, 386, 387, 388, 389, 390, 391, 392, 393, 394, 395, 396, 397, 398, 399, 400, 401, 402, 403, 404, 405, 406, 407, 408, 409, 410, 411, 412, 413, 414, 415, 416, 417, 418, 419, 461, 462, 463, 464, 465, 466, 467, 468, 469, 470, 471, 472, 473, 474, 427, 428, 429, 430, 431, 432, 433, 434, 435, 436, 437, 438, 439, 440, 441, 442, 443, 444, 445] (by decide +kernel) (by decide +kernel)
set_option maxRecDepth 20000 in
theorem gX3_execute_X3_begin : GoodIn wsX3_execute (wsV RX3 100 RX3 yX3_begin wsX3_begin) := goodIn_app (goodIn_of _ (by decide +kernel)) ggX3_execute_X3_begin
set_option maxRecDepth 20000 in
theorem ggX3_execute_X3_perform : GoodIn wsX3_execute wsX3_perform := goodIn_r _ [275, 1, 276, 277, 160, 189, 4, 278, 279, 280, 281, 154, 282, 157, 190, 191, 192, 166, 193, 168, 194, 195, 196, 197, 198, 199, 200, 201, 202, 203, 204, 205, 206, 207, 208, 209, 210, 211, 212, 213, 214, 215, 216, 217, 218, 219, 220, 221, 222, 283, 284, 285, 286, 158, 287, 288, 289, 290, 161, 239, 240, 241, 242, 291, 292, 293, 294, 229, 295, 156, 8, 5, 185, 186, 187, 188, 159, 162, 296, 297, 298, 299, 300, 301, 302, 303, 304, 305, 306, 307, 163, 164, 165, 167, 264, 265, 266, 267, 268, 269, 270, 271, 7, 308, 309, 310, 311, 3, 312, 313, 314, 2, 223, 224, 225, 226, 227, 228, 230, 231, 232, 233, 234, 235, 236, 237, 238, 243, 244, 245, 246, 247, 248, 249, 250, 251, 252, 253, 254, 255, 256, 315, 316, 317, 318, 319, 320, 321, 322, 323, 324, 325, 326, 327, 31, 328, 45, 51, 329, 330, 331, 332, 333, 334, 335, 336, 337, 338, 339, 340, 341, 342, 343, 344, 345, 346, 347, 348, 349, 350, 351, 352, 353, 354, 355, 356, 357, 358, 359, 360, 361, 362, 363, 364, 365, 366, 367, 368, 369, 370, 371, 372, 373, 374, 172, 375, 178, 376, 377, 177, 378, 184, 379, 380, 381, 382, 383, 384, 120, 385, 386, 387, 388, 389, 390, 391, 392, 393, 394, 395, 396, 397, 398, 399, 400, 401, 402, 403, 404, 405, 406, 407, 408, 409, 410, 411, 412, 413, 414, 415, 416, 417, 418, 419, 458, 459, 460, 427, 428, 429, 430, 431, 432, 433, 434, 435, 436, 437, 438, 439, 440, 441, 442, 443, 444, 445, 461, 462, 463, 464, 465, 466, 467, 468, 469, 470, 471, 472, 473, 474, 420, 421, 422, 423, 424, 425, 426, 446, 447, 448, 449, 450, 451, 452, 453, 454, 455, 456, 457] (by decide +kernel) (by decide +kernel)
set_option maxRecDepth 20000 in
theorem gX3_execute_X3_perform : GoodIn wsX3_execute (wsV RX3 108 RX3 yX3_perform wsX3_perform) := goodIn_app (goodIn_of _ (by decide +kernel)) ggX3_execute_X3_perform
theorem dX3_execute_0 : decode cX3_execute 0 = .ok (.aload_n 0, 1) := by decide +kernel
theorem dX3_execute_1 : decode cX3_execute 1 = .ok (.getfield 74, 3) := by decide +kernel
theorem dX3_execute_4 : decode cX3_execute 4 = .ok (.iconst 0, 1) := by decide +kernel
theorem dX3_execute_5 : decode cX3_execute 5 = .ok (.invokevirtual 78, 3) := by decide +kernel
theorem dX3_execute_8 : decode cX3_execute 8 = .ok (.aload_n 0, 1) := by decide +kernel
theorem dX3_execute_9 : decode cX3_execute 9 = .ok (.invokevirtual 83, 3) := by decide +kernel
theorem dX3_execute_12 : decode cX3_execute 12 = .ok (.aload_n 0, 1) := by decide +kernel
theorem dX3_execute_13 : decode cX3_execute 13 = .ok (.iload_n 1, 1) := by decide +kernel
theorem dX3_execute_14 : decode cX3_execute 14 = .ok (.putfield 39, 3) := by decide +kernel
theorem dX3_execute_17 : decode cX3_execute 17 = .ok (.aload_n 0, 1) := by decide +kernel
theorem dX3_execute_18 : decode cX3_execute 18 = .ok (.iload_n 3, 1) := by decide +kernel
theorem dX3_execute_19 : decode cX3_execute 19 = .ok (.putfield 43, 3) := by decide +kernel
theorem dX3_execute_22 : decode cX3_execute 22 = .ok (.aload_n 0, 1) := by decide +kernel
theorem dX3_execute_23 : decode cX3_execute 23 = .ok (.aload 4, 2) := by decide +kernel
theorem dX3_execute_25 : decode cX3_execute 25 = .ok (.putfield 35, 3) := by decide +kernel
theorem dX3_execute_28 : decode cX3_execute 28 = .ok (.aload_n 0, 1) := by decide +kernel
theorem dX3_execute_29 : decode cX3_execute 29 = .ok (.getfield 35, 3) := by decide +kernel
theorem dX3_execute_32 : decode cX3_execute 32 = .ok (.invokevirtual 86, 3) := by decide +kernel
theorem dX3_execute_35 : decode cX3_execute 35 = .ok (.aload_n 0, 1) := by decide +kernel
theorem dX3_execute_36 : decode cX3_execute 36 = .ok (.iconst (-1), 1) := by decide +kernel
theorem dX3_execute_37 : decode cX3_execute 37 = .ok (.aload_n 0, 1) := by decide +kernel
theorem dX3_execute_38 : decode cX3_execute 38 = .ok (.getfield 52, 3) := by decide +kernel
theorem dX3_execute_41 : decode cX3_execute 41 = .ok (.invokevirtual 89, 3) := by decide +kernel
theorem dX3_execute_44 : decode cX3_execute 44 = .ok (.aload_n 0, 1) := by decide +kernel
theorem dX3_execute_45 : decode cX3_execute 45 = .ok (.iconst 0, 1) := by decide +kernel
theorem dX3_execute_46 : decode cX3_execute 46 = .ok (.iconst (-1), 1) := by decide +kernel
theorem dX3_execute_47 : decode cX3_execute 47 = .ok (.invokevirtual 93, 3) := by decide +kernel
theorem dX3_execute_50 : decode cX3_execute 50 = .ok (.iconst 0, 1) := by decide +kernel
theorem dX3_execute_51 : decode cX3_execute 51 = .ok (.istore 5, 2) := by decide +kernel
theorem dX3_execute_53 : decode cX3_execute 53 = .ok (.iload 5, 2) := by decide +kernel
theorem dX3_execute_55 : decode cX3_execute 55 = .ok (.ldc 96, 2) := by decide +kernel
theorem dX3_execute_57 : decode cX3_execute 57 = .ok (.if_icmp .ge 81, 3) := by decide +kernel
theorem dX3_execute_60 : decode cX3_execute 60 = .ok (.aload_n 0, 1) := by decide +kernel
theorem dX3_execute_61 : decode cX3_execute 61 = .ok (.getfield 58, 3) := by decide +kernel
theorem dX3_execute_64 : decode cX3_execute 64 = .ok (.ifCond .ne 74, 3) := by decide +kernel
theorem dX3_execute_67 : decode cX3_execute 67 = .ok (.aload_n 0, 1) := by decide +kernel
theorem dX3_execute_68 : decode cX3_execute 68 = .ok (.getfield 46, 3) := by decide +kernel
theorem dX3_execute_71 : decode cX3_execute 71 = .ok (.istore 6, 2) := by decide +kernel
theorem dX3_execute_73 : decode cX3_execute 73 = .ok (.iload 6, 2) := by decide +kernel
theorem dX3_execute_75 : decode cX3_execute 75 = .ok (.ifCond .lt 15, 3) := by decide +kernel
theorem dX3_execute_78 : decode cX3_execute 78 = .ok (.iload 6, 2) := by decide +kernel
theorem dX3_execute_80 : decode cX3_execute 80 = .ok (.aload_n 0, 1) := by decide +kernel
theorem dX3_execute_81 : decode cX3_execute 81 = .ok (.getfield 74, 3) := by decide +kernel
theorem dX3_execute_84 : decode cX3_execute 84 = .ok (.getfield 97, 3) := by decide +kernel
theorem dX3_execute_87 : decode cX3_execute 87 = .ok (.if_icmp .lt 11, 3) := by decide +kernel
theorem dX3_execute_90 : decode cX3_execute 90 = .ok (.aload_n 0, 1) := by decide +kernel
theorem dX3_execute_91 : decode cX3_execute 91 = .ok (.iconst 1, 1) := by decide +kernel
theorem dX3_execute_92 : decode cX3_execute 92 = .ok (.putfield 58, 3) := by decide +kernel
theorem dX3_execute_95 : decode cX3_execute 95 = .ok (.goto 37, 3) := by decide +kernel
theorem dX3_execute_98 : decode cX3_execute 98 = .ok (.aload_n 0, 1) := by decide +kernel
theorem dX3_execute_99 : decode cX3_execute 99 = .ok (.iload 6, 2) := by decide +kernel
theorem dX3_execute_101 : decode cX3_execute 101 = .ok (.iload_n 2, 1) := by decide +kernel
theorem dX3_execute_102 : decode cX3_execute 102 = .ok (.invokevirtual 100, 3) := by decide +kernel
theorem dX3_execute_105 : decode cX3_execute 105 = .ok (.ifCond .eq 27, 3) := by decide +kernel
theorem dX3_execute_108 : decode cX3_execute 108 = .ok (.aload_n 0, 1) := by decide +kernel
theorem dX3_execute_109 : decode cX3_execute 109 = .ok (.iload 6, 2) := by decide +kernel
theorem dX3_execute_111 : decode cX3_execute 111 = .ok (.iconst 1, 1) := by decide +kernel
theorem dX3_execute_112 : decode cX3_execute 112 = .ok (.iadd, 1) := by decide +kernel
theorem dX3_execute_113 : decode cX3_execute 113 = .ok (.putfield 46, 3) := by decide +kernel
theorem dX3_execute_116 : decode cX3_execute 116 = .ok (.aload_n 0, 1) := by decide +kernel
theorem dX3_execute_117 : decode cX3_execute 117 = .ok (.iload 6, 2) := by decide +kernel
theorem dX3_execute_119 : decode cX3_execute 119 = .ok (.aload_n 0, 1) := by decide +kernel
theorem dX3_execute_120 : decode cX3_execute 120 = .ok (.getfield 74, 3) := by decide +kernel
theorem dX3_execute_123 : decode cX3_execute 123 = .ok (.getfield 104, 3) := by decide +kernel
theorem dX3_execute_126 : decode cX3_execute 126 = .ok (.iload 6, 2) := by decide +kernel
theorem dX3_execute_128 : decode cX3_execute 128 = .ok (.iaload, 1) := by decide +kernel
theorem dX3_execute_129 : decode cX3_execute 129 = .ok (.invokevirtual 108, 3) := by decide +kernel
theorem dX3_execute_132 : decode cX3_execute 132 = .ok (.iinc 5 1, 3) := by decide +kernel
theorem dX3_execute_135 : decode cX3_execute 135 = .ok (.goto (-82), 3) := by decide +kernel
theorem dX3_execute_138 : decode cX3_execute 138 = .ok (.return_, 1) := by decide +kernel
set_option maxRecDepth 20000 in
theorem ggX3_clear_X7_cut : GoodIn wsX3_clear wsX7_cut := goodIn_r _ [14, 15, 33, 34, 35] (by decide +kernel) (by decide +kernel)
set_option maxRecDepth 20000 in
theorem gX3_clear_X7_cut : GoodIn wsX3_clear (wsV RX3 111 RX7 yX7_cut wsX7_cut) := goodIn_app (goodIn_of _ (by decide +kernel)) ggX3_clear_X7_cut
theorem dX3_clear_0 : decode cX3_clear 0 = .ok (.aload_n 0, 1) := by decide +kernel
theorem dX3_clear_1 : decode cX3_clear 1 = .ok (.getfield 14, 3) := by decide +kernel
theorem dX3_clear_4 : decode cX3_clear 4 = .ok (.iconst 0, 1) := by decide +kernel
theorem dX3_clear_5 : decode cX3_clear 5 = .ok (.invokevirtual 111, 3) := by decide +kernel
theorem dX3_clear_8 : decode cX3_clear 8 = .ok (.aload_n 0, 1) := by decide +kernel
theorem dX3_clear_9 : decode cX3_clear 9 = .ok (.getfield 20, 3) := by decide +kernel
theorem dX3_clear_12 : decode cX3_clear 12 = .ok (.iconst 0, 1) := by decide +kernel
theorem dX3_clear_13 : decode cX3_clear 13 = .ok (.invokevirtual 111, 3) := by decide +kernel
theorem dX3_clear_16 : decode cX3_clear 16 = .ok (.aload_n 0, 1) := by decide +kernel
theorem dX3_clear_17 : decode cX3_clear 17 = .ok (.getfield 23, 3) := by decide +kernel
theorem dX3_clear_20 : decode cX3_clear 20 = .ok (.iconst 0, 1) := by decide +kernel
theorem dX3_clear_21 : decode cX3_clear 21 = .ok (.invokevirtual 111, 3) := by decide +kernel
theorem dX3_clear_24 : decode cX3_clear 24 = .ok (.aload_n 0, 1) := by decide +kernel
theorem dX3_clear_25 : decode cX3_clear 25 = .ok (.getfield 26, 3) := by decide +kernel
theorem dX3_clear_28 : decode cX3_clear 28 = .ok (.iconst 0, 1) := by decide +kernel
theorem dX3_clear_29 : decode cX3_clear 29 = .ok (.invokevirtual 111, 3) := by decide +kernel
theorem dX3_clear_32 : decode cX3_clear 32 = .ok (.aload_n 0, 1) := by decide +kernel
theorem dX3_clear_33 : decode cX3_clear 33 = .ok (.getfield 29, 3) := by decide +kernel
theorem dX3_clear_36 : decode cX3_clear 36 = .ok (.iconst 0, 1) := by decide +kernel
theorem dX3_clear_37 : decode cX3_clear 37 = .ok (.invokevirtual 111, 3) := by decide +kernel
theorem dX3_clear_40 : decode cX3_clear 40 = .ok (.aload_n 0, 1) := by decide +kernel
theorem dX3_clear_41 : decode cX3_clear 41 = .ok (.iconst (-1), 1) := by decide +kernel
theorem dX3_clear_42 : decode cX3_clear 42 = .ok (.putfield 49, 3) := by decide +kernel
theorem dX3_clear_45 : decode cX3_clear 45 = .ok (.aload_n 0, 1) := by decide +kernel
theorem dX3_clear_46 : decode cX3_clear 46 = .ok (.iconst 0, 1) := by decide +kernel
theorem dX3_clear_47 : decode cX3_clear 47 = .ok (.putfield 52, 3) := by decide +kernel
theorem dX3_clear_50 : decode cX3_clear 50 = .ok (.aload_n 0, 1) := by decide +kernel
theorem dX3_clear_51 : decode cX3_clear 51 = .ok (.iconst 0, 1) := by decide +kernel
theorem dX3_clear_52 : decode cX3_clear 52 = .ok (.putfield 55, 3) := by decide +kernel
theorem dX3_clear_55 : decode cX3_clear 55 = .ok (.aload_n 0, 1) := by decide +kernel
theorem dX3_clear_56 : decode cX3_clear 56 = .ok (.iconst 0, 1) := by decide +kernel
theorem dX3_clear_57 : decode cX3_clear 57 = .ok (.putfield 58, 3) := by decide +kernel
theorem dX3_clear_60 : decode cX3_clear 60 = .ok (.return_, 1) := by decide +kernel
set_option maxRecDepth 20000 in
theorem ggX3_begin_X3_trap : GoodIn wsX3_begin wsX3_trap := goodIn_r _ [10, 3, 11, 12, 13, 14, 15, 16, 17, 18, 19, 20, 21, 22, 23, 24, 25, 26, 27, 28, 29, 30, 31, 32, 33, 51, 52, 53, 54, 55, 56, 57, 58, 59, 60, 61, 62, 63, 64, 65, 66, 67, 68, 69, 70, 71, 72, 73, 74, 75, 76, 77, 78, 79, 80, 81, 82, 83] (by decide +kernel) (by decide +kernel)
set_option maxRecDepth 20000 in
theorem gX3_begin_X3_trap : GoodIn wsX3_begin (wsV RX3 120 RX3 yX3_trap wsX3_trap) := goodIn_app (goodIn_of _ (by decide +kernel)) ggX3_begin_X3_trap
theorem dX3_begin_0 : decode cX3_begin 0 = .ok (.aload_n 0, 1) := by decide +kernel
theorem dX3_begin_1 : decode cX3_begin 1 = .ok (.getfield 74, 3) := by decide +kernel
theorem dX3_begin_4 : decode cX3_begin 4 = .ok (.getfield 114, 3) := by decide +kernel
theorem dX3_begin_7 : decode cX3_begin 7 = .ok (.iload_n 1, 1) := by decide +kernel
theorem dX3_begin_8 : decode cX3_begin 8 = .ok (.iaload, 1) := by decide +kernel
theorem dX3_begin_9 : decode cX3_begin 9 = .ok (.istore_n 3, 1) := by decide +kernel
theorem dX3_begin_10 : decode cX3_begin 10 = .ok (.iconst 0, 1) := by decide +kernel
theorem dX3_begin_11 : decode cX3_begin 11 = .ok (.istore 4, 2) := by decide +kernel
theorem dX3_begin_13 : decode cX3_begin 13 = .ok (.iload 4, 2) := by decide +kernel
theorem dX3_begin_15 : decode cX3_begin 15 = .ok (.bipush 110, 2) := by decide +kernel
theorem dX3_begin_17 : decode cX3_begin 17 = .ok (.if_icmp .ge 57, 3) := by decide +kernel
theorem dX3_begin_20 : decode cX3_begin 20 = .ok (.iload_n 3, 1) := by decide +kernel
theorem dX3_begin_21 : decode cX3_begin 21 = .ok (.iconst (-1), 1) := by decide +kernel
theorem dX3_begin_22 : decode cX3_begin 22 = .ok (.if_icmp .eq 52, 3) := by decide +kernel
theorem dX3_begin_25 : decode cX3_begin 25 = .ok (.aload_n 0, 1) := by decide +kernel
theorem dX3_begin_26 : decode cX3_begin 26 = .ok (.getfield 35, 3) := by decide +kernel
theorem dX3_begin_29 : decode cX3_begin 29 = .ok (.getfield 117, 3) := by decide +kernel
theorem dX3_begin_32 : decode cX3_begin 32 = .ok (.iload_n 2, 1) := by decide +kernel
theorem dX3_begin_33 : decode cX3_begin 33 = .ok (.if_icmp .lt 12, 3) := by decide +kernel
theorem dX3_begin_36 : decode cX3_begin 36 = .ok (.aload_n 0, 1) := by decide +kernel
theorem dX3_begin_37 : decode cX3_begin 37 = .ok (.bipush 6, 2) := by decide +kernel
theorem dX3_begin_39 : decode cX3_begin 39 = .ok (.iload_n 3, 1) := by decide +kernel
theorem dX3_begin_40 : decode cX3_begin 40 = .ok (.invokevirtual 120, 3) := by decide +kernel
theorem dX3_begin_43 : decode cX3_begin 43 = .ok (.iconst 0, 1) := by decide +kernel
theorem dX3_begin_44 : decode cX3_begin 44 = .ok (.ireturn, 1) := by decide +kernel
theorem dX3_begin_45 : decode cX3_begin 45 = .ok (.aload_n 0, 1) := by decide +kernel
theorem dX3_begin_46 : decode cX3_begin 46 = .ok (.getfield 35, 3) := by decide +kernel
theorem dX3_begin_49 : decode cX3_begin 49 = .ok (.dup, 1) := by decide +kernel
theorem dX3_begin_50 : decode cX3_begin 50 = .ok (.getfield 117, 3) := by decide +kernel
theorem dX3_begin_53 : decode cX3_begin 53 = .ok (.iconst 1, 1) := by decide +kernel
theorem dX3_begin_54 : decode cX3_begin 54 = .ok (.iadd, 1) := by decide +kernel
theorem dX3_begin_55 : decode cX3_begin 55 = .ok (.putfield 117, 3) := by decide +kernel
theorem dX3_begin_58 : decode cX3_begin 58 = .ok (.aload_n 0, 1) := by decide +kernel
theorem dX3_begin_59 : decode cX3_begin 59 = .ok (.getfield 74, 3) := by decide +kernel
theorem dX3_begin_62 : decode cX3_begin 62 = .ok (.getfield 123, 3) := by decide +kernel
theorem dX3_begin_65 : decode cX3_begin 65 = .ok (.iload_n 3, 1) := by decide +kernel
theorem dX3_begin_66 : decode cX3_begin 66 = .ok (.iaload, 1) := by decide +kernel
theorem dX3_begin_67 : decode cX3_begin 67 = .ok (.istore_n 3, 1) := by decide +kernel
theorem dX3_begin_68 : decode cX3_begin 68 = .ok (.iinc 4 1, 3) := by decide +kernel
theorem dX3_begin_71 : decode cX3_begin 71 = .ok (.goto (-58), 3) := by decide +kernel
theorem dX3_begin_74 : decode cX3_begin 74 = .ok (.iconst 1, 1) := by decide +kernel
theorem dX3_begin_75 : decode cX3_begin 75 = .ok (.ireturn, 1) := by decide +kernel
theorem dX3_trap_0 : decode cX3_trap 0 = .ok (.aload_n 0, 1) := by decide +kernel
theorem dX3_trap_1 : decode cX3_trap 1 = .ok (.getfield 35, 3) := by decide +kernel
theorem dX3_trap_4 : decode cX3_trap 4 = .ok (.iload_n 1, 1) := by decide +kernel
theorem dX3_trap_5 : decode cX3_trap 5 = .ok (.putfield 126, 3) := by decide +kernel
theorem dX3_trap_8 : decode cX3_trap 8 = .ok (.aload_n 0, 1) := by decide +kernel
theorem dX3_trap_9 : decode cX3_trap 9 = .ok (.getfield 35, 3) := by decide +kernel
theorem dX3_trap_12 : decode cX3_trap 12 = .ok (.iload_n 2, 1) := by decide +kernel
theorem dX3_trap_13 : decode cX3_trap 13 = .ok (.putfield 128, 3) := by decide +kernel
theorem dX3_trap_16 : decode cX3_trap 16 = .ok (.aload_n 0, 1) := by decide +kernel
theorem dX3_trap_17 : decode cX3_trap 17 = .ok (.getfield 35, 3) := by decide +kernel
theorem dX3_trap_20 : decode cX3_trap 20 = .ok (.aload_n 0, 1) := by decide +kernel
theorem dX3_trap_21 : decode cX3_trap 21 = .ok (.getfield 70, 3) := by decide +kernel
theorem dX3_trap_24 : decode cX3_trap 24 = .ok (.getfield 131, 3) := by decide +kernel
theorem dX3_trap_27 : decode cX3_trap 27 = .ok (.iload_n 2, 1) := by decide +kernel
theorem dX3_trap_28 : decode cX3_trap 28 = .ok (.iaload, 1) := by decide +kernel
theorem dX3_trap_29 : decode cX3_trap 29 = .ok (.putfield 136, 3) := by decide +kernel
theorem dX3_trap_32 : decode cX3_trap 32 = .ok (.aload_n 0, 1) := by decide +kernel
theorem dX3_trap_33 : decode cX3_trap 33 = .ok (.iconst 1, 1) := by decide +kernel
theorem dX3_trap_34 : decode cX3_trap 34 = .ok (.putfield 58, 3) := by decide +kernel
theorem dX3_trap_37 : decode cX3_trap 37 = .ok (.return_, 1) := by decide +kernel
set_option maxRecDepth 20000 in
theorem ggX3_perform_X3_push : GoodIn wsX3_perform wsX3_push := goodIn_r _ [12, 13, 14, 15, 16, 17, 18, 19, 20, 21, 22, 23, 24, 25, 26, 27, 28, 29, 30, 31, 32, 33, 34, 35, 36, 37, 38, 39, 40, 41, 42, 43, 44, 45, 46, 47, 48, 220, 221, 222, 223, 224, 225, 226, 227, 228, 229, 230, 231, 232, 233, 234, 235, 236, 254, 255, 256] (by decide +kernel) (by decide +kernel)
set_option maxRecDepth 20000 in
theorem gX3_perform_X3_push : GoodIn wsX3_perform (wsV RX3 142 RX3 yX3_push wsX3_push) := goodIn_app (goodIn_of _ (by decide +kernel)) ggX3_perform_X3_push
set_option maxRecDepth 20000 in
theorem ggX3_perform_X3_cellOf : GoodIn wsX3_perform wsX3_cellOf := goodIn_r _ [52, 53, 1, 2, 3, 54, 55, 56, 11, 57, 58, 59, 60, 61, 17, 62, 21, 20, 45, 46, 47, 48, 19, 220, 221, 222, 223, 224, 225, 226, 227, 228, 229, 230, 231, 232, 233, 234, 235, 236, 237, 238, 239, 240, 241, 242, 243, 244, 245, 246, 247, 248, 249, 250, 251, 252, 253, 254, 255, 256] (by decide +kernel) (by decide +kernel)
set_option maxRecDepth 20000 in
theorem gX3_perform_X3_cellOf : GoodIn wsX3_perform (wsV RX3 145 RX3 yX3_cellOf wsX3_cellOf) := goodIn_app (goodIn_of _ (by decide +kernel)) ggX3_perform_X3_cellOf
set_option maxRecDepth 20000 in
theorem ggX3_perform_X3_get : GoodIn wsX3_perform wsX3_get := goodIn_r _ [66, 67, 68, 1, 7, 69, 70, 71, 58, 59, 60, 61, 17, 62, 21, 20, 45, 46, 47, 48, 19, 8, 9, 10, 11, 12, 13, 14, 15, 16, 18, 22, 23, 24, 25, 26, 27, 28, 29, 30, 31, 32, 33, 34, 35, 36, 37, 38, 39, 40, 41, 42, 43, 44, 72, 73, 74, 75, 76, 77, 4, 5, 78, 79, 80, 81, 220, 221, 222, 223, 224, 225, 226, 227, 228, 229, 230, 231, 232, 233, 234, 235, 236, 257, 258, 259, 260, 261, 262, 263, 264, 265, 266, 267, 268, 269, 270, 271, 272, 273, 274, 275, 237, 238, 239, 240, 241, 242, 243, 244, 245, 246, 247, 248, 249, 250, 251, 252, 253, 254, 255, 256] (by decide +kernel) (by decide +kernel)
set_option maxRecDepth 20000 in
theorem gX3_perform_X3_get : GoodIn wsX3_perform (wsV RX3 149 RX3 yX3_get wsX3_get) := goodIn_app (goodIn_of _ (by decide +kernel)) ggX3_perform_X3_get
set_option maxRecDepth 20000 in
theorem ggX3_perform_X3_pick : GoodIn wsX3_perform wsX3_pick := goodIn_r _ [85, 69, 1, 7, 86, 87, 88, 11, 89, 13, 5, 59, 60, 61, 17, 62, 21, 20, 45, 46, 47, 48, 19, 90, 91, 92, 93, 94, 95, 96, 97, 6, 98, 99, 67, 100, 101, 102, 8, 9, 10, 12, 14, 15, 16, 18, 22, 23, 24, 25, 26, 27, 28, 29, 30, 31, 32, 33, 34, 35, 36, 37, 38, 39, 40, 41, 42, 43, 44, 220, 221, 222, 223, 224, 225, 226, 227, 228, 229, 230, 231, 232, 233, 234, 235, 236, 237, 238, 239, 240, 241, 242, 243, 244, 245, 246, 247, 248, 249, 250, 251, 252, 253, 254, 255, 256, 276, 277, 278, 279, 280, 281, 282, 283, 284, 285, 286, 287, 288, 289, 257, 258, 259, 260, 261, 262, 263, 264, 265, 266, 267, 268, 269, 270, 271, 272, 273, 274, 275] (by decide +kernel) (by decide +kernel)
set_option maxRecDepth 20000 in
theorem gX3_perform_X3_pick : GoodIn wsX3_perform (wsV RX3 152 RX3 yX3_pick wsX3_pick) := goodIn_app (goodIn_of _ (by decide +kernel)) ggX3_perform_X3_pick
set_option maxRecDepth 20000 in
theorem ggX3_perform_X3_go : GoodIn wsX3_perform wsX3_go := goodIn_r _ [106, 1, 7, 77, 107, 2, 108, 109, 67, 110, 4, 76, 5, 70, 111, 71, 3, 94, 95, 96, 11, 97, 6, 98, 99, 100, 101, 102, 54, 55, 56, 57, 58, 53, 59, 60, 61, 17, 62, 21, 20, 45, 46, 47, 48, 19, 90, 91, 92, 93, 72, 73, 74, 75, 14, 15, 16, 18, 22, 23, 24, 25, 26, 27, 28, 29, 30, 31, 32, 33, 34, 35, 36, 37, 38, 39, 40, 41, 42, 43, 44, 112, 113, 114, 115, 116, 117, 118, 119, 120, 121, 122, 123, 124, 125, 69, 126, 127, 128, 129, 130, 131, 132, 133, 134, 135, 136, 137, 138, 13, 139, 140, 220, 221, 222, 223, 224, 225, 226, 227, 228, 229, 230, 231, 232, 233, 234, 235, 236, 237, 238, 239, 240, 241, 242, 243, 244, 245, 246, 247, 248, 249, 250, 251, 252, 253, 290, 291, 292, 293, 294, 295, 296, 257, 258, 259, 260, 261, 262, 263, 264, 265, 266, 267, 268, 269, 270, 271, 272, 273, 274, 275, 254, 255, 256, 276, 277, 278, 279, 280, 281, 282, 283, 284, 285, 286, 287, 288, 289, 297, 298, 299, 300, 301, 302, 303, 304, 305, 306, 307, 308] (by decide +kernel) (by decide +kernel)
set_option maxRecDepth 20000 in
theorem gX3_perform_X3_go : GoodIn wsX3_perform (wsV RX3 156 RX3 yX3_go wsX3_go) := goodIn_app (goodIn_of _ (by decide +kernel)) ggX3_perform_X3_go
set_option maxRecDepth 20000 in
theorem ggX3_perform_X3_goByProc : GoodIn wsX3_perform wsX3_goByProc := goodIn_r _ [144, 1, 7, 69, 119, 108, 138, 77, 107, 70, 71, 59, 60, 61, 17, 62, 21, 20, 45, 46, 47, 48, 19, 145, 146, 147, 148, 149, 150, 94, 95, 96, 11, 97, 6, 98, 99, 67, 100, 101, 102, 151, 152, 153, 154, 155, 156, 157, 72, 73, 74, 75, 76, 58, 4, 5, 14, 15, 16, 18, 22, 23, 24, 25, 26, 27, 28, 29, 30, 31, 32, 33, 34, 35, 36, 37, 38, 39, 40, 41, 42, 43, 44, 112, 113, 114, 115, 116, 117, 111, 118, 120, 121, 122, 123, 124, 125, 53, 126, 127, 128, 129, 130, 131, 132, 133, 134, 135, 136, 137, 13, 139, 140, 90, 91, 92, 93, 220, 221, 222, 223, 224, 225, 226, 227, 228, 229, 230, 231, 232, 233, 234, 235, 236, 237, 238, 239, 240, 241, 242, 243, 244, 245, 246, 247, 248, 249, 250, 251, 252, 253, 297, 298, 299, 300, 301, 302, 303, 304, 305, 306, 307, 308, 254, 255, 256, 276, 277, 278, 279, 280, 281, 282, 283, 284, 285, 286, 287, 288, 289, 257, 258, 259, 260, 261, 262, 263, 264, 265, 266, 267, 268, 269, 270, 271, 272, 273, 274, 275, 290, 291, 292, 293, 294, 295, 296] (by decide +kernel) (by decide +kernel)
set_option maxRecDepth 20000 in
theorem gX3_perform_X3_goByProc : GoodIn wsX3_perform (wsV RX3 159 RX3 yX3_goByProc wsX3_goByProc) := goodIn_app (goodIn_of _ (by decide +kernel)) ggX3_perform_X3_goByProc
set_option maxRecDepth 20000 in
theorem ggX3_perform_X3_refer : GoodIn wsX3_perform wsX3_refer := goodIn_r _ [161, 67, 68, 1, 7, 69, 59, 60, 61, 17, 62, 21, 20, 45, 46, 47, 48, 19, 8, 9, 10, 11, 12, 13, 14, 15, 16, 18, 22, 23, 24, 25, 26, 27, 28, 29, 30, 31, 32, 33, 34, 35, 36, 37, 38, 39, 40, 41, 42, 43, 44, 220, 221, 222, 223, 224, 225, 226, 227, 228, 229, 230, 231, 232, 233, 234, 235, 236, 257, 258, 259, 260, 261, 262, 263, 264, 265, 266, 267, 268, 269, 270, 271, 272, 273, 274, 275, 237, 238, 239, 240, 241, 242, 243, 244, 245, 246, 247, 248, 249, 250, 251, 252, 253, 254, 255, 256] (by decide +kernel) (by decide +kernel)
set_option maxRecDepth 20000 in
theorem gX3_perform_X3_refer : GoodIn wsX3_perform (wsV RX3 162 RX3 yX3_refer wsX3_refer) := goodIn_app (goodIn_of _ (by decide +kernel)) ggX3_perform_X3_refer
set_option maxRecDepth 20000 in
theorem ggX3_perform_X3_later : GoodIn wsX3_perform wsX3_later := goodIn_r _ [165, 70, 58, 1, 2, 8, 9, 10, 11, 12, 13, 14, 15, 16, 17, 18, 19, 20, 21, 22, 23, 24, 25, 26, 27, 28, 29, 30, 31, 32, 33, 34, 35, 36, 37, 38, 39, 40, 41, 42, 43, 44, 45, 46, 47, 48, 166, 167, 168, 169, 53, 119, 126, 59, 60, 61, 62, 145, 146, 147, 148, 149, 150, 220, 221, 222, 223, 224, 225, 226, 227, 228, 229, 230, 231, 232, 233, 234, 235, 236, 237, 238, 239, 240, 241, 242, 243, 244, 245, 246, 247, 248, 249, 250, 251, 252, 253, 254, 255, 256, 297, 298, 299, 300, 301, 302, 303, 304, 305, 306, 307, 308] (by decide +kernel) (by decide +kernel)
set_option maxRecDepth 20000 in
theorem gX3_perform_X3_later : GoodIn wsX3_perform (wsV RX3 165 RX3 yX3_later wsX3_later) := goodIn_app (goodIn_of _ (by decide +kernel)) ggX3_perform_X3_later
set_option maxRecDepth 20000 in
theorem ggX3_perform_X3_goBack : GoodIn wsX3_perform wsX3_goBack := goodIn_r _ [173, 76, 5, 70, 58, 71, 77, 4, 6, 174, 102, 59, 60, 61, 17, 62, 21, 20, 45, 46, 47, 48, 19, 90, 91, 92, 93, 86, 87, 88, 11, 89, 13, 220, 221, 222, 223, 224, 225, 226, 227, 228, 229, 230, 231, 232, 233, 234, 235, 236, 254, 255, 256, 276, 277, 278, 279, 280, 281, 282, 283, 284, 285, 286, 287, 288, 289] (by decide +kernel) (by decide +kernel)
set_option maxRecDepth 20000 in
theorem gX3_perform_X3_goBack : GoodIn wsX3_perform (wsV RX3 168 RX3 yX3_goBack wsX3_goBack) := goodIn_app (goodIn_of _ (by decide +kernel)) ggX3_perform_X3_goBack
set_option maxRecDepth 20000 in
theorem ggX3_perform_X3_copy : GoodIn wsX3_perform wsX3_copy := goodIn_r _ [178, 69, 5, 59, 60, 61, 17, 62, 21, 20, 45, 46, 47, 48, 19, 14, 15, 16, 18, 22, 23, 24, 25, 26, 27, 28, 29, 30, 31, 32, 33, 34, 35, 36, 37, 38, 39, 40, 41, 42, 43, 44, 8, 9, 10, 11, 12, 13, 220, 221, 222, 223, 224, 225, 226, 227, 228, 229, 230, 231, 232, 233, 234, 235, 236, 254, 255, 256] (by decide +kernel) (by decide +kernel)
set_option maxRecDepth 20000 in
theorem gX3_perform_X3_copy : GoodIn wsX3_perform (wsV RX3 171 RX3 yX3_copy wsX3_copy) := goodIn_app (goodIn_of _ (by decide +kernel)) ggX3_perform_X3_copy
set_option maxRecDepth 20000 in
theorem ggX3_perform_X3_pushCell : GoodIn wsX3_perform wsX3_pushCell := goodIn_r _ [81, 69, 59, 60, 61, 17, 62, 21, 20, 45, 46, 47, 48, 19, 8, 9, 10, 11, 12, 13, 14, 15, 16, 18, 22, 23, 24, 25, 26, 27, 28, 29, 30, 31, 32, 33, 34, 35, 36, 37, 38, 39, 40, 41, 42, 43, 44, 220, 221, 222, 223, 224, 225, 226, 227, 228, 229, 230, 231, 232, 233, 234, 235, 236, 254, 255, 256] (by decide +kernel) (by decide +kernel)
set_option maxRecDepth 20000 in
theorem gX3_perform_X3_pushCell : GoodIn wsX3_perform (wsV RX3 174 RX3 yX3_pushCell wsX3_pushCell) := goodIn_app (goodIn_of _ (by decide +kernel)) ggX3_perform_X3_pushCell
set_option maxRecDepth 20000 in
theorem ggX3_perform_X3_frameAt : GoodIn wsX3_perform wsX3_frameAt := goodIn_r _ [57, 58, 53, 59, 60, 61, 17, 62, 21, 20, 45, 46, 47, 48, 19, 220, 221, 222, 223, 224, 225, 226, 227, 228, 229, 230, 231, 232, 233, 234, 235, 236, 254, 255, 256] (by decide +kernel) (by decide +kernel)
set_option maxRecDepth 20000 in
theorem gX3_perform_X3_frameAt : GoodIn wsX3_perform (wsV RX3 180 RX3 yX3_frameAt wsX3_frameAt) := goodIn_app (goodIn_of _ (by decide +kernel)) ggX3_perform_X3_frameAt
set_option maxRecDepth 20000 in
theorem ggX3_perform_X3_put : GoodIn wsX3_perform wsX3_put := goodIn_r _ [182, 67, 68, 1, 7, 69, 13, 5, 59, 60, 61, 17, 62, 21, 20, 45, 46, 47, 48, 19, 41, 42, 43, 44, 86, 87, 88, 11, 89, 90, 91, 92, 93, 220, 221, 222, 223, 224, 225, 226, 227, 228, 229, 230, 231, 232, 233, 234, 235, 236, 257, 258, 259, 260, 261, 262, 263, 264, 265, 266, 267, 268, 269, 270, 271, 272, 273, 274, 275, 237, 238, 239, 240, 241, 242, 243, 244, 245, 246, 247, 248, 249, 250, 251, 252, 253, 254, 255, 256] (by decide +kernel) (by decide +kernel)
set_option maxRecDepth 20000 in
theorem gX3_perform_X3_put : GoodIn wsX3_perform (wsV RX3 183 RX3 yX3_put wsX3_put) := goodIn_app (goodIn_of _ (by decide +kernel)) ggX3_perform_X3_put
set_option maxRecDepth 20000 in
theorem ggX3_perform_X3_stow : GoodIn wsX3_perform wsX3_stow := goodIn_r _ [186, 69, 1, 7, 86, 87, 88, 11, 89, 13, 5, 59, 60, 61, 17, 62, 21, 20, 45, 46, 47, 48, 19, 90, 91, 92, 93, 94, 95, 96, 97, 6, 98, 99, 67, 100, 101, 102, 41, 42, 43, 44, 220, 221, 222, 223, 224, 225, 226, 227, 228, 229, 230, 231, 232, 233, 234, 235, 236, 237, 238, 239, 240, 241, 242, 243, 244, 245, 246, 247, 248, 249, 250, 251, 252, 253, 254, 255, 256, 276, 277, 278, 279, 280, 281, 282, 283, 284, 285, 286, 287, 288, 289, 257, 258, 259, 260, 261, 262, 263, 264, 265, 266, 267, 268, 269, 270, 271, 272, 273, 274, 275] (by decide +kernel) (by decide +kernel)
set_option maxRecDepth 20000 in
theorem gX3_perform_X3_stow : GoodIn wsX3_perform (wsV RX3 186 RX3 yX3_stow wsX3_stow) := goodIn_app (goodIn_of _ (by decide +kernel)) ggX3_perform_X3_stow
set_option maxRecDepth 20000 in
theorem ggX3_perform_X3_pop : GoodIn wsX3_perform wsX3_pop := goodIn_r _ [89, 13, 5, 59, 60, 61, 17, 62, 21, 20, 45, 46, 47, 48, 19, 90, 91, 92, 93, 220, 221, 222, 223, 224, 225, 226, 227, 228, 229, 230, 231, 232, 233, 234, 235, 236, 254, 255, 256] (by decide +kernel) (by decide +kernel)
set_option maxRecDepth 20000 in
theorem gX3_perform_X3_pop : GoodIn wsX3_perform (wsV RX3 189 RX3 yX3_pop wsX3_pop) := goodIn_app (goodIn_of _ (by decide +kernel)) ggX3_perform_X3_pop
set_option maxRecDepth 20000 in
theorem ggX3_perform_X3_skip : GoodIn wsX3_perform wsX3_skip := goodIn_r _ [169, 53, 58, 119, 1, 126, 70, 59, 60, 61, 17, 62, 21, 20, 45, 46, 47, 48, 19, 145, 146, 147, 148, 149, 150, 220, 221, 222, 223, 224, 225, 226, 227, 228, 229, 230, 231, 232, 233, 234, 235, 236, 237, 238, 239, 240, 241, 242, 243, 244, 245, 246, 247, 248, 249, 250, 251, 252, 253, 254, 255, 256, 297, 298, 299, 300, 301, 302, 303, 304, 305, 306, 307, 308] (by decide +kernel) (by decide +kernel)
set_option maxRecDepth 20000 in
theorem gX3_perform_X3_skip : GoodIn wsX3_perform (wsV RX3 193 RX3 yX3_skip wsX3_skip) := goodIn_app (goodIn_of _ (by decide +kernel)) ggX3_perform_X3_skip
set_option maxRecDepth 20000 in
theorem ggX3_perform_X3_open : GoodIn wsX3_perform wsX3_open := goodIn_r _ [190, 1, 7, 4, 58, 2, 76, 5, 13, 191, 192, 14, 15, 16, 17, 18, 19, 20, 21, 22, 23, 24, 25, 26, 27, 28, 29, 30, 31, 32, 33, 34, 35, 36, 37, 38, 39, 40, 41, 42, 43, 44, 45, 46, 47, 48, 220, 221, 222, 223, 224, 225, 226, 227, 228, 229, 230, 231, 232, 233, 234, 235, 236, 237, 238, 239, 240, 241, 242, 243, 244, 245, 246, 247, 248, 249, 250, 251, 252, 253, 254, 255, 256] (by decide +kernel) (by decide +kernel)
set_option maxRecDepth 20000 in
theorem gX3_perform_X3_open : GoodIn wsX3_perform (wsV RX3 197 RX3 yX3_open wsX3_open) := goodIn_app (goodIn_of _ (by decide +kernel)) ggX3_perform_X3_open
set_option maxRecDepth 20000 in
theorem ggX3_perform_X7_cut : GoodIn wsX3_perform wsX7_cut := goodIn_r _ [93, 19, 254, 255, 256] (by decide +kernel) (by decide +kernel)
set_option maxRecDepth 20000 in
theorem gX3_perform_X7_cut : GoodIn wsX3_perform (wsV RX3 111 RX7 yX7_cut wsX7_cut) := goodIn_app (goodIn_of _ (by decide +kernel)) ggX3_perform_X7_cut
set_option maxRecDepth 20000 in
theorem ggX3_perform_X3_leave : GoodIn wsX3_perform wsX3_leave := goodIn_r _ [196, 1, 2, 4, 5, 3, 7, 76, 13, 70, 54, 55, 56, 11, 57, 58, 53, 59, 60, 61, 17, 62, 21, 20, 45, 46, 47, 48, 19, 197, 198, 199, 200, 94, 95, 96, 97, 6, 98, 99, 67, 100, 101, 102, 170, 171, 172, 173, 71, 77, 174, 90, 91, 92, 93, 86, 87, 88, 89, 220, 221, 222, 223, 224, 225, 226, 227, 228, 229, 230, 231, 232, 233, 234, 235, 236, 237, 238, 239, 240, 241, 242, 243, 244, 245, 246, 247, 248, 249, 250, 251, 252, 253, 254, 255, 256, 276, 277, 278, 279, 280, 281, 282, 283, 284, 285, 286, 287, 288, 289, 257, 258, 259, 260, 261, 262, 263, 264, 265, 266, 267, 268, 269, 270, 271, 272, 273, 274, 275] (by decide +kernel) (by decide +kernel)
set_option maxRecDepth 20000 in
theorem gX3_perform_X3_leave : GoodIn wsX3_perform (wsV RX3 203 RX3 yX3_leave wsX3_leave) := goodIn_app (goodIn_of _ (by decide +kernel)) ggX3_perform_X3_leave
set_option maxRecDepth 20000 in
theorem ggX3_perform_X6_print : GoodIn wsX3_perform wsX6_print := goodIn_r _ [205, 206, 207, 208, 209, 210, 211, 276, 277, 278, 279, 280, 281, 282, 283, 284, 285, 286, 287, 288, 289] (by decide +kernel) (by decide +kernel)
set_option maxRecDepth 20000 in
theorem gX3_perform_X6_print : GoodIn wsX3_perform (wsV RX3 209 RX6 yX6_print wsX6_print) := goodIn_app (goodIn_of _ (by decide +kernel)) ggX3_perform_X6_print
set_option maxRecDepth 20000 in
theorem ggX3_perform_X3_reckon : GoodIn wsX3_perform wsX3_reckon := goodIn_r _ [215, 1, 7, 86, 87, 88, 11, 89, 13, 5, 59, 60, 61, 17, 62, 21, 20, 45, 46, 47, 48, 19, 90, 91, 92, 93, 94, 95, 96, 97, 6, 98, 99, 67, 100, 101, 102, 216, 217, 218, 219, 8, 9, 10, 12, 14, 15, 16, 18, 22, 23, 24, 25, 26, 27, 28, 29, 30, 31, 32, 33, 34, 35, 36, 37, 38, 39, 40, 41, 42, 43, 44, 220, 221, 222, 223, 224, 225, 226, 227, 228, 229, 230, 231, 232, 233, 234, 235, 236, 237, 238, 239, 240, 241, 242, 243, 244, 245, 246, 247, 248, 249, 250, 251, 252, 253, 254, 255, 256, 276, 277, 278, 279, 280, 281, 282, 283, 284, 285, 286, 287, 288, 289, 257, 258, 259, 260, 261, 262, 263, 264, 265, 266, 267, 268, 269, 270, 271, 272, 273, 274, 275] (by decide +kernel) (by decide +kernel)
set_option maxRecDepth 20000 in
theorem gX3_perform_X3_reckon : GoodIn wsX3_perform (wsV RX3 212 RX3 yX3_reckon wsX3_reckon) := goodIn_app (goodIn_of _ (by decide +kernel)) ggX3_perform_X3_reckon
theorem dX3_perform_0 : decode cX3_perform 0 = .ok (.aload_n 0, 1) := by decide +kernel
theorem dX3_perform_1 : decode cX3_perform 1 = .ok (.getfield 74, 3) := by decide +kernel
theorem dX3_perform_4 : decode cX3_perform 4 = .ok (.getfield 139, 3) := by decide +kernel
theorem dX3_perform_7 : decode cX3_perform 7 = .ok (.iload_n 1, 1) := by decide +kernel
theorem dX3_perform_8 : decode cX3_perform 8 = .ok (.iaload, 1) := by decide +kernel
theorem dX3_perform_9 : decode cX3_perform 9 = .ok (.istore_n 3, 1) := by decide +kernel
theorem dX3_perform_10 : decode cX3_perform 10 = .ok (.iload_n 2, 1) := by decide +kernel
theorem dX3_perform_11 : decode cX3_perform 11 = .ok (.tableswitch 386 1 27 #[121, 130, 143, 386, 386, 386, 386, 386, 157, 165, 386, 178, 191, 205, 213, 220, 232, 244, 265, 278, 291, 311, 320, 328, 347, 355, 378], 121) := by decide +kernel
theorem dX3_perform_132 : decode cX3_perform 132 = .ok (.aload_n 0, 1) := by decide +kernel
theorem dX3_perform_133 : decode cX3_perform 133 = .ok (.iload_n 3, 1) := by decide +kernel
theorem dX3_perform_134 : decode cX3_perform 134 = .ok (.iconst 0, 1) := by decide +kernel
theorem dX3_perform_135 : decode cX3_perform 135 = .ok (.invokevirtual 142, 3) := by decide +kernel
theorem dX3_perform_138 : decode cX3_perform 138 = .ok (.goto 265, 3) := by decide +kernel
theorem dX3_perform_141 : decode cX3_perform 141 = .ok (.aload_n 0, 1) := by decide +kernel
theorem dX3_perform_142 : decode cX3_perform 142 = .ok (.aload_n 0, 1) := by decide +kernel
theorem dX3_perform_143 : decode cX3_perform 143 = .ok (.iload_n 1, 1) := by decide +kernel
theorem dX3_perform_144 : decode cX3_perform 144 = .ok (.invokevirtual 145, 3) := by decide +kernel
theorem dX3_perform_147 : decode cX3_perform 147 = .ok (.iload_n 1, 1) := by decide +kernel
theorem dX3_perform_148 : decode cX3_perform 148 = .ok (.invokevirtual 149, 3) := by decide +kernel
theorem dX3_perform_151 : decode cX3_perform 151 = .ok (.goto 252, 3) := by decide +kernel
theorem dX3_perform_154 : decode cX3_perform 154 = .ok (.aload_n 0, 1) := by decide +kernel
theorem dX3_perform_155 : decode cX3_perform 155 = .ok (.aload_n 0, 1) := by decide +kernel
theorem dX3_perform_156 : decode cX3_perform 156 = .ok (.iload_n 1, 1) := by decide +kernel
theorem dX3_perform_157 : decode cX3_perform 157 = .ok (.invokevirtual 145, 3) := by decide +kernel
theorem dX3_perform_160 : decode cX3_perform 160 = .ok (.iload_n 1, 1) := by decide +kernel
theorem dX3_perform_161 : decode cX3_perform 161 = .ok (.iconst 0, 1) := by decide +kernel
theorem dX3_perform_162 : decode cX3_perform 162 = .ok (.invokevirtual 152, 3) := by decide +kernel
theorem dX3_perform_165 : decode cX3_perform 165 = .ok (.goto 238, 3) := by decide +kernel
theorem dX3_perform_168 : decode cX3_perform 168 = .ok (.aload_n 0, 1) := by decide +kernel
theorem dX3_perform_169 : decode cX3_perform 169 = .ok (.iload_n 1, 1) := by decide +kernel
theorem dX3_perform_170 : decode cX3_perform 170 = .ok (.invokevirtual 156, 3) := by decide +kernel
theorem dX3_perform_173 : decode cX3_perform 173 = .ok (.goto 230, 3) := by decide +kernel
theorem dX3_perform_176 : decode cX3_perform 176 = .ok (.aload_n 0, 1) := by decide +kernel
theorem dX3_perform_177 : decode cX3_perform 177 = .ok (.aload_n 0, 1) := by decide +kernel
theorem dX3_perform_178 : decode cX3_perform 178 = .ok (.iload_n 1, 1) := by decide +kernel
theorem dX3_perform_179 : decode cX3_perform 179 = .ok (.invokevirtual 145, 3) := by decide +kernel
theorem dX3_perform_182 : decode cX3_perform 182 = .ok (.iload_n 1, 1) := by decide +kernel
theorem dX3_perform_183 : decode cX3_perform 183 = .ok (.invokevirtual 159, 3) := by decide +kernel
theorem dX3_perform_186 : decode cX3_perform 186 = .ok (.goto 217, 3) := by decide +kernel
theorem dX3_perform_189 : decode cX3_perform 189 = .ok (.aload_n 0, 1) := by decide +kernel
theorem dX3_perform_190 : decode cX3_perform 190 = .ok (.aload_n 0, 1) := by decide +kernel
theorem dX3_perform_191 : decode cX3_perform 191 = .ok (.iload_n 1, 1) := by decide +kernel
theorem dX3_perform_192 : decode cX3_perform 192 = .ok (.invokevirtual 145, 3) := by decide +kernel
theorem dX3_perform_195 : decode cX3_perform 195 = .ok (.iload_n 1, 1) := by decide +kernel
theorem dX3_perform_196 : decode cX3_perform 196 = .ok (.invokevirtual 162, 3) := by decide +kernel
theorem dX3_perform_199 : decode cX3_perform 199 = .ok (.goto 204, 3) := by decide +kernel
theorem dX3_perform_202 : decode cX3_perform 202 = .ok (.aload_n 0, 1) := by decide +kernel
theorem dX3_perform_203 : decode cX3_perform 203 = .ok (.aload_n 0, 1) := by decide +kernel
theorem dX3_perform_204 : decode cX3_perform 204 = .ok (.iload_n 1, 1) := by decide +kernel
theorem dX3_perform_205 : decode cX3_perform 205 = .ok (.invokevirtual 145, 3) := by decide +kernel
theorem dX3_perform_208 : decode cX3_perform 208 = .ok (.iload_n 1, 1) := by decide +kernel
theorem dX3_perform_209 : decode cX3_perform 209 = .ok (.iconst 1, 1) := by decide +kernel
theorem dX3_perform_210 : decode cX3_perform 210 = .ok (.invokevirtual 152, 3) := by decide +kernel
theorem dX3_perform_213 : decode cX3_perform 213 = .ok (.goto 190, 3) := by decide +kernel
theorem dX3_perform_216 : decode cX3_perform 216 = .ok (.aload_n 0, 1) := by decide +kernel
theorem dX3_perform_217 : decode cX3_perform 217 = .ok (.iload_n 1, 1) := by decide +kernel
theorem dX3_perform_218 : decode cX3_perform 218 = .ok (.invokevirtual 165, 3) := by decide +kernel
theorem dX3_perform_221 : decode cX3_perform 221 = .ok (.goto 182, 3) := by decide +kernel
theorem dX3_perform_224 : decode cX3_perform 224 = .ok (.aload_n 0, 1) := by decide +kernel
theorem dX3_perform_225 : decode cX3_perform 225 = .ok (.invokevirtual 168, 3) := by decide +kernel
theorem dX3_perform_228 : decode cX3_perform 228 = .ok (.goto 175, 3) := by decide +kernel
theorem dX3_perform_231 : decode cX3_perform 231 = .ok (.aload_n 0, 1) := by decide +kernel
theorem dX3_perform_232 : decode cX3_perform 232 = .ok (.aload_n 0, 1) := by decide +kernel
theorem dX3_perform_233 : decode cX3_perform 233 = .ok (.iload_n 1, 1) := by decide +kernel
theorem dX3_perform_234 : decode cX3_perform 234 = .ok (.invokevirtual 145, 3) := by decide +kernel
theorem dX3_perform_237 : decode cX3_perform 237 = .ok (.invokevirtual 171, 3) := by decide +kernel
theorem dX3_perform_240 : decode cX3_perform 240 = .ok (.goto 163, 3) := by decide +kernel
theorem dX3_perform_243 : decode cX3_perform 243 = .ok (.aload_n 0, 1) := by decide +kernel
theorem dX3_perform_244 : decode cX3_perform 244 = .ok (.aload_n 0, 1) := by decide +kernel
theorem dX3_perform_245 : decode cX3_perform 245 = .ok (.iload_n 1, 1) := by decide +kernel
theorem dX3_perform_246 : decode cX3_perform 246 = .ok (.invokevirtual 145, 3) := by decide +kernel
theorem dX3_perform_249 : decode cX3_perform 249 = .ok (.invokevirtual 174, 3) := by decide +kernel
theorem dX3_perform_252 : decode cX3_perform 252 = .ok (.goto 151, 3) := by decide +kernel
theorem dX3_perform_255 : decode cX3_perform 255 = .ok (.aload_n 0, 1) := by decide +kernel
theorem dX3_perform_256 : decode cX3_perform 256 = .ok (.aload_n 0, 1) := by decide +kernel
theorem dX3_perform_257 : decode cX3_perform 257 = .ok (.getfield 74, 3) := by decide +kernel
theorem dX3_perform_260 : decode cX3_perform 260 = .ok (.getfield 177, 3) := by decide +kernel
theorem dX3_perform_263 : decode cX3_perform 263 = .ok (.iload_n 1, 1) := by decide +kernel
theorem dX3_perform_264 : decode cX3_perform 264 = .ok (.iaload, 1) := by decide +kernel
theorem dX3_perform_265 : decode cX3_perform 265 = .ok (.aload_n 0, 1) := by decide +kernel
theorem dX3_perform_266 : decode cX3_perform 266 = .ok (.iload_n 3, 1) := by decide +kernel
theorem dX3_perform_267 : decode cX3_perform 267 = .ok (.invokevirtual 180, 3) := by decide +kernel
theorem dX3_perform_270 : decode cX3_perform 270 = .ok (.invokevirtual 142, 3) := by decide +kernel
theorem dX3_perform_273 : decode cX3_perform 273 = .ok (.goto 130, 3) := by decide +kernel
theorem dX3_perform_276 : decode cX3_perform 276 = .ok (.aload_n 0, 1) := by decide +kernel
theorem dX3_perform_277 : decode cX3_perform 277 = .ok (.aload_n 0, 1) := by decide +kernel
theorem dX3_perform_278 : decode cX3_perform 278 = .ok (.iload_n 1, 1) := by decide +kernel
theorem dX3_perform_279 : decode cX3_perform 279 = .ok (.invokevirtual 145, 3) := by decide +kernel
theorem dX3_perform_282 : decode cX3_perform 282 = .ok (.iload_n 1, 1) := by decide +kernel
theorem dX3_perform_283 : decode cX3_perform 283 = .ok (.invokevirtual 183, 3) := by decide +kernel
theorem dX3_perform_286 : decode cX3_perform 286 = .ok (.goto 117, 3) := by decide +kernel
theorem dX3_perform_289 : decode cX3_perform 289 = .ok (.aload_n 0, 1) := by decide +kernel
theorem dX3_perform_290 : decode cX3_perform 290 = .ok (.aload_n 0, 1) := by decide +kernel
theorem dX3_perform_291 : decode cX3_perform 291 = .ok (.iload_n 1, 1) := by decide +kernel
theorem dX3_perform_292 : decode cX3_perform 292 = .ok (.invokevirtual 145, 3) := by decide +kernel
theorem dX3_perform_295 : decode cX3_perform 295 = .ok (.iload_n 1, 1) := by decide +kernel
theorem dX3_perform_296 : decode cX3_perform 296 = .ok (.invokevirtual 186, 3) := by decide +kernel
theorem dX3_perform_299 : decode cX3_perform 299 = .ok (.goto 104, 3) := by decide +kernel
theorem dX3_perform_302 : decode cX3_perform 302 = .ok (.aload_n 0, 1) := by decide +kernel
theorem dX3_perform_303 : decode cX3_perform 303 = .ok (.aload_n 0, 1) := by decide +kernel
theorem dX3_perform_304 : decode cX3_perform 304 = .ok (.invokevirtual 189, 3) := by decide +kernel
theorem dX3_perform_307 : decode cX3_perform 307 = .ok (.ifCond .ne 7, 3) := by decide +kernel
theorem dX3_perform_310 : decode cX3_perform 310 = .ok (.iconst 1, 1) := by decide +kernel
theorem dX3_perform_311 : decode cX3_perform 311 = .ok (.goto 4, 3) := by decide +kernel
theorem dX3_perform_314 : decode cX3_perform 314 = .ok (.iconst 0, 1) := by decide +kernel
theorem dX3_perform_315 : decode cX3_perform 315 = .ok (.iload_n 3, 1) := by decide +kernel
theorem dX3_perform_316 : decode cX3_perform 316 = .ok (.invokevirtual 193, 3) := by decide +kernel
theorem dX3_perform_319 : decode cX3_perform 319 = .ok (.goto 84, 3) := by decide +kernel
theorem dX3_perform_322 : decode cX3_perform 322 = .ok (.aload_n 0, 1) := by decide +kernel
theorem dX3_perform_323 : decode cX3_perform 323 = .ok (.iconst 1, 1) := by decide +kernel
theorem dX3_perform_324 : decode cX3_perform 324 = .ok (.iload_n 3, 1) := by decide +kernel
theorem dX3_perform_325 : decode cX3_perform 325 = .ok (.invokevirtual 193, 3) := by decide +kernel
theorem dX3_perform_328 : decode cX3_perform 328 = .ok (.goto 75, 3) := by decide +kernel
theorem dX3_perform_331 : decode cX3_perform 331 = .ok (.aload_n 0, 1) := by decide +kernel
theorem dX3_perform_332 : decode cX3_perform 332 = .ok (.iload_n 1, 1) := by decide +kernel
theorem dX3_perform_333 : decode cX3_perform 333 = .ok (.invokevirtual 197, 3) := by decide +kernel
theorem dX3_perform_336 : decode cX3_perform 336 = .ok (.goto 67, 3) := by decide +kernel
theorem dX3_perform_339 : decode cX3_perform 339 = .ok (.aload_n 0, 1) := by decide +kernel
theorem dX3_perform_340 : decode cX3_perform 340 = .ok (.getfield 29, 3) := by decide +kernel
theorem dX3_perform_343 : decode cX3_perform 343 = .ok (.aload_n 0, 1) := by decide +kernel
theorem dX3_perform_344 : decode cX3_perform 344 = .ok (.getfield 29, 3) := by decide +kernel
theorem dX3_perform_347 : decode cX3_perform 347 = .ok (.getfield 200, 3) := by decide +kernel
theorem dX3_perform_350 : decode cX3_perform 350 = .ok (.iconst 1, 1) := by decide +kernel
theorem dX3_perform_351 : decode cX3_perform 351 = .ok (.isub, 1) := by decide +kernel
theorem dX3_perform_352 : decode cX3_perform 352 = .ok (.invokevirtual 111, 3) := by decide +kernel
theorem dX3_perform_355 : decode cX3_perform 355 = .ok (.goto 48, 3) := by decide +kernel
theorem dX3_perform_358 : decode cX3_perform 358 = .ok (.aload_n 0, 1) := by decide +kernel
theorem dX3_perform_359 : decode cX3_perform 359 = .ok (.iload_n 1, 1) := by decide +kernel
theorem dX3_perform_360 : decode cX3_perform 360 = .ok (.invokevirtual 203, 3) := by decide +kernel
theorem dX3_perform_363 : decode cX3_perform 363 = .ok (.goto 40, 3) := by decide +kernel
theorem dX3_perform_366 : decode cX3_perform 366 = .ok (.aload_n 0, 1) := by decide +kernel
theorem dX3_perform_367 : decode cX3_perform 367 = .ok (.getfield 35, 3) := by decide +kernel
theorem dX3_perform_370 : decode cX3_perform 370 = .ok (.aload_n 0, 1) := by decide +kernel
theorem dX3_perform_371 : decode cX3_perform 371 = .ok (.invokevirtual 189, 3) := by decide +kernel
theorem dX3_perform_374 : decode cX3_perform 374 = .ok (.aload_n 0, 1) := by decide +kernel
theorem dX3_perform_375 : decode cX3_perform 375 = .ok (.getfield 74, 3) := by decide +kernel
theorem dX3_perform_378 : decode cX3_perform 378 = .ok (.getfield 206, 3) := by decide +kernel
theorem dX3_perform_381 : decode cX3_perform 381 = .ok (.iload_n 1, 1) := by decide +kernel
theorem dX3_perform_382 : decode cX3_perform 382 = .ok (.iaload, 1) := by decide +kernel
theorem dX3_perform_383 : decode cX3_perform 383 = .ok (.invokevirtual 209, 3) := by decide +kernel
theorem dX3_perform_386 : decode cX3_perform 386 = .ok (.goto 17, 3) := by decide +kernel
theorem dX3_perform_389 : decode cX3_perform 389 = .ok (.aload_n 0, 1) := by decide +kernel
theorem dX3_perform_390 : decode cX3_perform 390 = .ok (.invokevirtual 189, 3) := by decide +kernel
theorem dX3_perform_393 : decode cX3_perform 393 = .ok (.pop, 1) := by decide +kernel
theorem dX3_perform_394 : decode cX3_perform 394 = .ok (.goto 9, 3) := by decide +kernel
theorem dX3_perform_397 : decode cX3_perform 397 = .ok (.aload_n 0, 1) := by decide +kernel
theorem dX3_perform_398 : decode cX3_perform 398 = .ok (.iload_n 1, 1) := by decide +kernel
theorem dX3_perform_399 : decode cX3_perform 399 = .ok (.iload_n 2, 1) := by decide +kernel
theorem dX3_perform_400 : decode cX3_perform 400 = .ok (.invokevirtual 212, 3) := by decide +kernel
theorem dX3_perform_403 : decode cX3_perform 403 = .ok (.return_, 1) := by decide +kernel
set_option maxRecDepth 20000 in
theorem ggX3_push_X7_add : GoodIn wsX3_push wsX7_add := goodIn_r _ [6, 7, 8, 9, 10, 11, 12, 13, 14, 15, 16, 17, 18, 19, 20, 21, 22, 23, 24, 25, 26, 27, 28, 54, 55, 56] (by decide +kernel) (by decide +kernel)
set_option maxRecDepth 20000 in
theorem gX3_push_X7_add : GoodIn wsX3_push (wsV RX3 215 RX7 yX7_add wsX7_add) := goodIn_app (goodIn_of _ (by decide +kernel)) ggX3_push_X7_add
set_option maxRecDepth 20000 in
theorem ggX3_push_X7_put : GoodIn wsX3_push wsX7_put := goodIn_r _ [32, 9, 8, 33, 34, 35, 5, 36, 7, 54, 55, 56] (by decide +kernel) (by decide +kernel)
set_option maxRecDepth 20000 in
theorem gX3_push_X7_put : GoodIn wsX3_push (wsV RX3 218 RX7 yX7_put wsX7_put) := goodIn_app (goodIn_of _ (by decide +kernel)) ggX3_push_X7_put
theorem dX3_push_0 : decode cX3_push 0 = .ok (.aload_n 0, 1) := by decide +kernel
theorem dX3_push_1 : decode cX3_push 1 = .ok (.getfield 20, 3) := by decide +kernel
theorem dX3_push_4 : decode cX3_push 4 = .ok (.invokevirtual 215, 3) := by decide +kernel
theorem dX3_push_7 : decode cX3_push 7 = .ok (.istore_n 3, 1) := by decide +kernel
theorem dX3_push_8 : decode cX3_push 8 = .ok (.aload_n 0, 1) := by decide +kernel
theorem dX3_push_9 : decode cX3_push 9 = .ok (.getfield 20, 3) := by decide +kernel
theorem dX3_push_12 : decode cX3_push 12 = .ok (.iload_n 3, 1) := by decide +kernel
theorem dX3_push_13 : decode cX3_push 13 = .ok (.iconst 0, 1) := by decide +kernel
theorem dX3_push_14 : decode cX3_push 14 = .ok (.iload_n 1, 1) := by decide +kernel
theorem dX3_push_15 : decode cX3_push 15 = .ok (.invokevirtual 218, 3) := by decide +kernel
theorem dX3_push_18 : decode cX3_push 18 = .ok (.aload_n 0, 1) := by decide +kernel
theorem dX3_push_19 : decode cX3_push 19 = .ok (.getfield 20, 3) := by decide +kernel
theorem dX3_push_22 : decode cX3_push 22 = .ok (.iload_n 3, 1) := by decide +kernel
theorem dX3_push_23 : decode cX3_push 23 = .ok (.iconst 1, 1) := by decide +kernel
theorem dX3_push_24 : decode cX3_push 24 = .ok (.iload_n 2, 1) := by decide +kernel
theorem dX3_push_25 : decode cX3_push 25 = .ok (.invokevirtual 218, 3) := by decide +kernel
theorem dX3_push_28 : decode cX3_push 28 = .ok (.return_, 1) := by decide +kernel
set_option maxRecDepth 20000 in
theorem ggX3_pushCell_X7_at : GoodIn wsX3_pushCell wsX7_at := goodIn_r _ [6, 7, 8, 9, 10, 11, 5, 12, 13, 64, 65, 66] (by decide +kernel) (by decide +kernel)
set_option maxRecDepth 20000 in
theorem gX3_pushCell_X7_at : GoodIn wsX3_pushCell (wsV RX3 221 RX7 yX7_at wsX7_at) := goodIn_app (goodIn_of _ (by decide +kernel)) ggX3_pushCell_X7_at
set_option maxRecDepth 20000 in
theorem ggX3_pushCell_X3_push : GoodIn wsX3_pushCell wsX3_push := goodIn_r _ [18, 19, 20, 21, 22, 5, 23, 13, 8, 7, 24, 25, 26, 27, 28, 29, 30, 31, 32, 33, 34, 35, 36, 37, 38, 39, 40, 41, 42, 43, 44, 45, 46, 9, 10, 11, 12, 47, 48, 49, 50, 51, 52, 53, 54, 55, 56, 57, 58, 59, 60, 61, 62, 63, 64, 65, 66] (by decide +kernel) (by decide +kernel)
set_option maxRecDepth 20000 in
theorem gX3_pushCell_X3_push : GoodIn wsX3_pushCell (wsV RX3 142 RX3 yX3_push wsX3_push) := goodIn_app (goodIn_of _ (by decide +kernel)) ggX3_pushCell_X3_push
theorem dX3_pushCell_0 : decode cX3_pushCell 0 = .ok (.aload_n 0, 1) := by decide +kernel
theorem dX3_pushCell_1 : decode cX3_pushCell 1 = .ok (.aload_n 0, 1) := by decide +kernel
theorem dX3_pushCell_2 : decode cX3_pushCell 2 = .ok (.getfield 14, 3) := by decide +kernel
theorem dX3_pushCell_5 : decode cX3_pushCell 5 = .ok (.iload_n 1, 1) := by decide +kernel
theorem dX3_pushCell_6 : decode cX3_pushCell 6 = .ok (.iconst 0, 1) := by decide +kernel
theorem dX3_pushCell_7 : decode cX3_pushCell 7 = .ok (.invokevirtual 221, 3) := by decide +kernel
theorem dX3_pushCell_10 : decode cX3_pushCell 10 = .ok (.aload_n 0, 1) := by decide +kernel
theorem dX3_pushCell_11 : decode cX3_pushCell 11 = .ok (.getfield 14, 3) := by decide +kernel
theorem dX3_pushCell_14 : decode cX3_pushCell 14 = .ok (.iload_n 1, 1) := by decide +kernel
theorem dX3_pushCell_15 : decode cX3_pushCell 15 = .ok (.iconst 1, 1) := by decide +kernel
theorem dX3_pushCell_16 : decode cX3_pushCell 16 = .ok (.invokevirtual 221, 3) := by decide +kernel
theorem dX3_pushCell_19 : decode cX3_pushCell 19 = .ok (.invokevirtual 142, 3) := by decide +kernel
theorem dX3_pushCell_22 : decode cX3_pushCell 22 = .ok (.return_, 1) := by decide +kernel
set_option maxRecDepth 20000 in
theorem ggX3_pop_X7_at : GoodIn wsX3_pop wsX7_at := goodIn_r _ [7, 8, 9, 10, 11, 12, 6, 13, 14, 36, 37, 38] (by decide +kernel) (by decide +kernel)
set_option maxRecDepth 20000 in
theorem gX3_pop_X7_at : GoodIn wsX3_pop (wsV RX3 221 RX7 yX7_at wsX7_at) := goodIn_app (goodIn_of _ (by decide +kernel)) ggX3_pop_X7_at
set_option maxRecDepth 20000 in
theorem ggX3_pop_X7_cut : GoodIn wsX3_pop wsX7_cut := goodIn_r _ [18, 14, 36, 37, 38] (by decide +kernel) (by decide +kernel)
set_option maxRecDepth 20000 in
theorem gX3_pop_X7_cut : GoodIn wsX3_pop (wsV RX3 111 RX7 yX7_cut wsX7_cut) := goodIn_app (goodIn_of _ (by decide +kernel)) ggX3_pop_X7_cut
theorem dX3_pop_0 : decode cX3_pop 0 = .ok (.aload_n 0, 1) := by decide +kernel
theorem dX3_pop_1 : decode cX3_pop 1 = .ok (.getfield 20, 3) := by decide +kernel
theorem dX3_pop_4 : decode cX3_pop 4 = .ok (.aload_n 0, 1) := by decide +kernel
theorem dX3_pop_5 : decode cX3_pop 5 = .ok (.getfield 20, 3) := by decide +kernel
theorem dX3_pop_8 : decode cX3_pop 8 = .ok (.getfield 200, 3) := by decide +kernel
theorem dX3_pop_11 : decode cX3_pop 11 = .ok (.iconst 1, 1) := by decide +kernel
theorem dX3_pop_12 : decode cX3_pop 12 = .ok (.isub, 1) := by decide +kernel
theorem dX3_pop_13 : decode cX3_pop 13 = .ok (.iconst 0, 1) := by decide +kernel
theorem dX3_pop_14 : decode cX3_pop 14 = .ok (.invokevirtual 221, 3) := by decide +kernel
theorem dX3_pop_17 : decode cX3_pop 17 = .ok (.istore_n 1, 1) := by decide +kernel
theorem dX3_pop_18 : decode cX3_pop 18 = .ok (.aload_n 0, 1) := by decide +kernel
theorem dX3_pop_19 : decode cX3_pop 19 = .ok (.getfield 20, 3) := by decide +kernel
theorem dX3_pop_22 : decode cX3_pop 22 = .ok (.aload_n 0, 1) := by decide +kernel
theorem dX3_pop_23 : decode cX3_pop 23 = .ok (.getfield 20, 3) := by decide +kernel
theorem dX3_pop_26 : decode cX3_pop 26 = .ok (.getfield 200, 3) := by decide +kernel
theorem dX3_pop_29 : decode cX3_pop 29 = .ok (.iconst 1, 1) := by decide +kernel
theorem dX3_pop_30 : decode cX3_pop 30 = .ok (.isub, 1) := by decide +kernel
theorem dX3_pop_31 : decode cX3_pop 31 = .ok (.invokevirtual 111, 3) := by decide +kernel
theorem dX3_pop_34 : decode cX3_pop 34 = .ok (.iload_n 1, 1) := by decide +kernel
theorem dX3_pop_35 : decode cX3_pop 35 = .ok (.ireturn, 1) := by decide +kernel
set_option maxRecDepth 20000 in
theorem ggX3_frameAt_X7_at : GoodIn wsX3_frameAt wsX7_at := goodIn_r _ [7, 8, 9, 10, 11, 12, 6, 13, 14, 32, 33, 34] (by decide +kernel) (by decide +kernel)
set_option maxRecDepth 20000 in
theorem gX3_frameAt_X7_at : GoodIn wsX3_frameAt (wsV RX3 221 RX7 yX7_at wsX7_at) := goodIn_app (goodIn_of _ (by decide +kernel)) ggX3_frameAt_X7_at
theorem dX3_frameAt_0 : decode cX3_frameAt 0 = .ok (.aload_n 0, 1) := by decide +kernel
theorem dX3_frameAt_1 : decode cX3_frameAt 1 = .ok (.getfield 49, 3) := by decide +kernel
theorem dX3_frameAt_4 : decode cX3_frameAt 4 = .ok (.istore_n 2, 1) := by decide +kernel
theorem dX3_frameAt_5 : decode cX3_frameAt 5 = .ok (.iconst 0, 1) := by decide +kernel
theorem dX3_frameAt_6 : decode cX3_frameAt 6 = .ok (.istore_n 3, 1) := by decide +kernel
theorem dX3_frameAt_7 : decode cX3_frameAt 7 = .ok (.iload_n 3, 1) := by decide +kernel
theorem dX3_frameAt_8 : decode cX3_frameAt 8 = .ok (.iload_n 1, 1) := by decide +kernel
theorem dX3_frameAt_9 : decode cX3_frameAt 9 = .ok (.if_icmp .ge 19, 3) := by decide +kernel
theorem dX3_frameAt_12 : decode cX3_frameAt 12 = .ok (.aload_n 0, 1) := by decide +kernel
theorem dX3_frameAt_13 : decode cX3_frameAt 13 = .ok (.getfield 23, 3) := by decide +kernel
theorem dX3_frameAt_16 : decode cX3_frameAt 16 = .ok (.iload_n 2, 1) := by decide +kernel
theorem dX3_frameAt_17 : decode cX3_frameAt 17 = .ok (.iconst 1, 1) := by decide +kernel
theorem dX3_frameAt_18 : decode cX3_frameAt 18 = .ok (.invokevirtual 221, 3) := by decide +kernel
theorem dX3_frameAt_21 : decode cX3_frameAt 21 = .ok (.istore_n 2, 1) := by decide +kernel
theorem dX3_frameAt_22 : decode cX3_frameAt 22 = .ok (.iinc 3 1, 3) := by decide +kernel
theorem dX3_frameAt_25 : decode cX3_frameAt 25 = .ok (.goto (-18), 3) := by decide +kernel
theorem dX3_frameAt_28 : decode cX3_frameAt 28 = .ok (.iload_n 2, 1) := by decide +kernel
theorem dX3_frameAt_29 : decode cX3_frameAt 29 = .ok (.ireturn, 1) := by decide +kernel
set_option maxRecDepth 20000 in
theorem ggX3_cellOf_X3_frameAt : GoodIn wsX3_cellOf wsX3_frameAt := goodIn_r _ [9, 10, 1, 11, 12, 13, 14, 15, 16, 17, 18, 19, 20, 21, 22, 23, 24, 25, 26, 27, 28, 29, 30, 31, 32, 33, 34, 35, 36, 37, 38, 39, 57, 58, 59] (by decide +kernel) (by decide +kernel)
set_option maxRecDepth 20000 in
theorem gX3_cellOf_X3_frameAt : GoodIn wsX3_cellOf (wsV RX3 180 RX3 yX3_frameAt wsX3_frameAt) := goodIn_app (goodIn_of _ (by decide +kernel)) ggX3_cellOf_X3_frameAt
set_option maxRecDepth 20000 in
theorem ggX3_cellOf_X7_at : GoodIn wsX3_cellOf wsX7_at := goodIn_r _ [15, 16, 17, 18, 19, 20, 14, 21, 22, 57, 58, 59] (by decide +kernel) (by decide +kernel)
set_option maxRecDepth 20000 in
theorem gX3_cellOf_X7_at : GoodIn wsX3_cellOf (wsV RX3 221 RX7 yX7_at wsX7_at) := goodIn_app (goodIn_of _ (by decide +kernel)) ggX3_cellOf_X7_at
theorem dX3_cellOf_0 : decode cX3_cellOf 0 = .ok (.aload_n 0, 1) := by decide +kernel
theorem dX3_cellOf_1 : decode cX3_cellOf 1 = .ok (.getfield 23, 3) := by decide +kernel
theorem dX3_cellOf_4 : decode cX3_cellOf 4 = .ok (.aload_n 0, 1) := by decide +kernel
theorem dX3_cellOf_5 : decode cX3_cellOf 5 = .ok (.aload_n 0, 1) := by decide +kernel
theorem dX3_cellOf_6 : decode cX3_cellOf 6 = .ok (.getfield 74, 3) := by decide +kernel
theorem dX3_cellOf_9 : decode cX3_cellOf 9 = .ok (.getfield 139, 3) := by decide +kernel
theorem dX3_cellOf_12 : decode cX3_cellOf 12 = .ok (.iload_n 1, 1) := by decide +kernel
theorem dX3_cellOf_13 : decode cX3_cellOf 13 = .ok (.iaload, 1) := by decide +kernel
theorem dX3_cellOf_14 : decode cX3_cellOf 14 = .ok (.invokevirtual 180, 3) := by decide +kernel
theorem dX3_cellOf_17 : decode cX3_cellOf 17 = .ok (.iconst 2, 1) := by decide +kernel
theorem dX3_cellOf_18 : decode cX3_cellOf 18 = .ok (.invokevirtual 221, 3) := by decide +kernel
theorem dX3_cellOf_21 : decode cX3_cellOf 21 = .ok (.aload_n 0, 1) := by decide +kernel
theorem dX3_cellOf_22 : decode cX3_cellOf 22 = .ok (.getfield 74, 3) := by decide +kernel
theorem dX3_cellOf_25 : decode cX3_cellOf 25 = .ok (.getfield 177, 3) := by decide +kernel
theorem dX3_cellOf_28 : decode cX3_cellOf 28 = .ok (.iload_n 1, 1) := by decide +kernel
theorem dX3_cellOf_29 : decode cX3_cellOf 29 = .ok (.iaload, 1) := by decide +kernel
theorem dX3_cellOf_30 : decode cX3_cellOf 30 = .ok (.iadd, 1) := by decide +kernel
theorem dX3_cellOf_31 : decode cX3_cellOf 31 = .ok (.ireturn, 1) := by decide +kernel
set_option maxRecDepth 20000 in
theorem ggX3_reckon_X3_pop : GoodIn wsX3_reckon wsX3_pop := goodIn_r _ [7, 8, 9, 10, 11, 12, 13, 14, 15, 16, 17, 18, 19, 20, 21, 22, 23, 24, 25, 72, 73, 74, 75, 76, 77, 78, 79, 80, 81, 82, 83, 84, 85, 86, 87, 88, 106, 107, 108] (by decide +kernel) (by decide +kernel)
set_option maxRecDepth 20000 in
theorem gX3_reckon_X3_pop : GoodIn wsX3_reckon (wsV RX3 189 RX3 yX3_pop wsX3_pop) := goodIn_app (goodIn_of _ (by decide +kernel)) ggX3_reckon_X3_pop
set_option maxRecDepth 20000 in
theorem ggX3_reckon_X3_trap : GoodIn wsX3_reckon wsX3_trap := goodIn_r _ [29, 30, 31, 32, 33, 34, 35, 36, 72, 73, 74, 75, 76, 77, 78, 79, 80, 81, 82, 83, 84, 85, 86, 87, 88, 109, 110, 111, 112, 113, 114, 115, 116, 117, 118, 119, 120, 121, 122, 123, 124, 125, 126, 127, 128, 129, 130, 131, 132, 133, 134, 135, 136, 137, 138, 139, 140, 141] (by decide +kernel) (by decide +kernel)
set_option maxRecDepth 20000 in
theorem gX3_reckon_X3_trap : GoodIn wsX3_reckon (wsV RX3 120 RX3 yX3_trap wsX3_trap) := goodIn_app (goodIn_of _ (by decide +kernel)) ggX3_reckon_X3_trap
set_option maxRecDepth 20000 in
theorem ggX3_reckon_X4_reckon : GoodIn wsX3_reckon wsX4_reckon := goodIn_r _ [40] (by decide +kernel) (by decide +kernel)
set_option maxRecDepth 20000 in
theorem gX3_reckon_X4_reckon : GoodIn wsX3_reckon (va_wsS RX3 225 yX4_reckon wsX4_reckon) := goodIn_app (goodIn_of _ (by decide +kernel)) ggX3_reckon_X4_reckon
set_option maxRecDepth 20000 in
theorem ggX3_reckon_X3_push : GoodIn wsX3_reckon wsX3_push := goodIn_r _ [44, 8, 45, 46, 47, 13, 48, 21, 16, 15, 49, 50, 51, 52, 53, 54, 55, 56, 57, 58, 59, 60, 61, 62, 63, 64, 65, 66, 67, 68, 69, 70, 71, 17, 18, 19, 20, 72, 73, 74, 75, 76, 77, 78, 79, 80, 81, 82, 83, 84, 85, 86, 87, 88, 106, 107, 108] (by decide +kernel) (by decide +kernel)
set_option maxRecDepth 20000 in
theorem gX3_reckon_X3_push : GoodIn wsX3_reckon (wsV RX3 142 RX3 yX3_push wsX3_push) := goodIn_app (goodIn_of _ (by decide +kernel)) ggX3_reckon_X3_push
theorem dX3_reckon_0 : decode cX3_reckon 0 = .ok (.aload_n 0, 1) := by decide +kernel
theorem dX3_reckon_1 : decode cX3_reckon 1 = .ok (.invokevirtual 189, 3) := by decide +kernel
theorem dX3_reckon_4 : decode cX3_reckon 4 = .ok (.istore_n 3, 1) := by decide +kernel
theorem dX3_reckon_5 : decode cX3_reckon 5 = .ok (.aload_n 0, 1) := by decide +kernel
theorem dX3_reckon_6 : decode cX3_reckon 6 = .ok (.invokevirtual 189, 3) := by decide +kernel
theorem dX3_reckon_9 : decode cX3_reckon 9 = .ok (.istore 4, 2) := by decide +kernel
theorem dX3_reckon_11 : decode cX3_reckon 11 = .ok (.iload_n 2, 1) := by decide +kernel
theorem dX3_reckon_12 : decode cX3_reckon 12 = .ok (.iconst 1, 1) := by decide +kernel
theorem dX3_reckon_13 : decode cX3_reckon 13 = .ok (.isub, 1) := by decide +kernel
theorem dX3_reckon_14 : decode cX3_reckon 14 = .ok (.bipush 6, 2) := by decide +kernel
theorem dX3_reckon_16 : decode cX3_reckon 16 = .ok (.if_icmp .ne 24, 3) := by decide +kernel
theorem dX3_reckon_19 : decode cX3_reckon 19 = .ok (.iload_n 3, 1) := by decide +kernel
theorem dX3_reckon_20 : decode cX3_reckon 20 = .ok (.ifCond .ne 20, 3) := by decide +kernel
theorem dX3_reckon_23 : decode cX3_reckon 23 = .ok (.aload_n 0, 1) := by decide +kernel
theorem dX3_reckon_24 : decode cX3_reckon 24 = .ok (.iconst 1, 1) := by decide +kernel
theorem dX3_reckon_25 : decode cX3_reckon 25 = .ok (.aload_n 0, 1) := by decide +kernel
theorem dX3_reckon_26 : decode cX3_reckon 26 = .ok (.getfield 74, 3) := by decide +kernel
theorem dX3_reckon_29 : decode cX3_reckon 29 = .ok (.getfield 206, 3) := by decide +kernel
theorem dX3_reckon_32 : decode cX3_reckon 32 = .ok (.iload_n 1, 1) := by decide +kernel
theorem dX3_reckon_33 : decode cX3_reckon 33 = .ok (.iaload, 1) := by decide +kernel
theorem dX3_reckon_34 : decode cX3_reckon 34 = .ok (.invokevirtual 120, 3) := by decide +kernel
theorem dX3_reckon_37 : decode cX3_reckon 37 = .ok (.goto 17, 3) := by decide +kernel
theorem dX3_reckon_40 : decode cX3_reckon 40 = .ok (.aload_n 0, 1) := by decide +kernel
theorem dX3_reckon_41 : decode cX3_reckon 41 = .ok (.iload_n 2, 1) := by decide +kernel
theorem dX3_reckon_42 : decode cX3_reckon 42 = .ok (.iconst 1, 1) := by decide +kernel
theorem dX3_reckon_43 : decode cX3_reckon 43 = .ok (.isub, 1) := by decide +kernel
theorem dX3_reckon_44 : decode cX3_reckon 44 = .ok (.iload 4, 2) := by decide +kernel
theorem dX3_reckon_46 : decode cX3_reckon 46 = .ok (.iload_n 3, 1) := by decide +kernel
theorem dX3_reckon_47 : decode cX3_reckon 47 = .ok (.invokestatic 225, 3) := by decide +kernel
theorem dX3_reckon_50 : decode cX3_reckon 50 = .ok (.iconst 0, 1) := by decide +kernel
theorem dX3_reckon_51 : decode cX3_reckon 51 = .ok (.invokevirtual 142, 3) := by decide +kernel
theorem dX3_reckon_54 : decode cX3_reckon 54 = .ok (.return_, 1) := by decide +kernel
set_option maxRecDepth 20000 in
theorem ggX3_get_X7_at : GoodIn wsX3_get wsX7_at := goodIn_r _ [13, 14, 15, 16, 17, 18, 12, 19, 20, 119, 120, 121] (by decide +kernel) (by decide +kernel)
set_option maxRecDepth 20000 in
theorem gX3_get_X7_at : GoodIn wsX3_get (wsV RX3 221 RX7 yX7_at wsX7_at) := goodIn_app (goodIn_of _ (by decide +kernel)) ggX3_get_X7_at
set_option maxRecDepth 20000 in
theorem ggX3_get_X3_push : GoodIn wsX3_get wsX3_push := goodIn_r _ [25, 26, 27, 28, 29, 12, 30, 20, 15, 14, 31, 32, 33, 34, 35, 36, 37, 38, 39, 40, 41, 42, 43, 44, 45, 46, 47, 48, 49, 50, 51, 52, 53, 16, 17, 18, 19, 66, 67, 68, 69, 70, 71, 72, 73, 74, 75, 76, 77, 78, 79, 80, 81, 82, 119, 120, 121] (by decide +kernel) (by decide +kernel)
set_option maxRecDepth 20000 in
theorem gX3_get_X3_push : GoodIn wsX3_get (wsV RX3 142 RX3 yX3_push wsX3_push) := goodIn_app (goodIn_of _ (by decide +kernel)) ggX3_get_X3_push
set_option maxRecDepth 20000 in
theorem ggX3_get_X3_keepReturn : GoodIn wsX3_get wsX3_keepReturn := goodIn_r _ [57, 58, 8, 59, 60, 61, 27, 28, 29, 12, 30, 20, 15, 14, 31, 32, 33, 34, 35, 36, 37, 38, 39, 40, 41, 42, 43, 44, 45, 46, 47, 48, 49, 50, 51, 52, 53, 16, 17, 18, 19, 66, 67, 68, 69, 70, 71, 72, 73, 74, 75, 76, 77, 78, 79, 80, 81, 82, 119, 120, 121] (by decide +kernel) (by decide +kernel)
set_option maxRecDepth 20000 in
theorem gX3_get_X3_keepReturn : GoodIn wsX3_get (wsV RX3 89 RX3 yX3_keepReturn wsX3_keepReturn) := goodIn_app (goodIn_of _ (by decide +kernel)) ggX3_get_X3_keepReturn
set_option maxRecDepth 20000 in
theorem ggX3_get_X3_pushCell : GoodIn wsX3_get wsX3_pushCell := goodIn_r _ [65, 5, 9, 10, 11, 12, 13, 14, 15, 16, 17, 18, 19, 20, 21, 22, 23, 24, 25, 26, 27, 28, 29, 30, 31, 32, 33, 34, 35, 36, 37, 38, 39, 40, 41, 42, 43, 44, 45, 46, 47, 48, 49, 50, 51, 52, 53, 66, 67, 68, 69, 70, 71, 72, 73, 74, 75, 76, 77, 78, 79, 80, 81, 82, 119, 120, 121] (by decide +kernel) (by decide +kernel)
set_option maxRecDepth 20000 in
theorem gX3_get_X3_pushCell : GoodIn wsX3_get (wsV RX3 174 RX3 yX3_pushCell wsX3_pushCell) := goodIn_app (goodIn_of _ (by decide +kernel)) ggX3_get_X3_pushCell
theorem dX3_get_0 : decode cX3_get 0 = .ok (.aload_n 0, 1) := by decide +kernel
theorem dX3_get_1 : decode cX3_get 1 = .ok (.getfield 70, 3) := by decide +kernel
theorem dX3_get_4 : decode cX3_get 4 = .ok (.getfield 228, 3) := by decide +kernel
theorem dX3_get_7 : decode cX3_get 7 = .ok (.aload_n 0, 1) := by decide +kernel
theorem dX3_get_8 : decode cX3_get 8 = .ok (.getfield 74, 3) := by decide +kernel
theorem dX3_get_11 : decode cX3_get 11 = .ok (.getfield 206, 3) := by decide +kernel
theorem dX3_get_14 : decode cX3_get 14 = .ok (.iload_n 2, 1) := by decide +kernel
theorem dX3_get_15 : decode cX3_get 15 = .ok (.iaload, 1) := by decide +kernel
theorem dX3_get_16 : decode cX3_get 16 = .ok (.iaload, 1) := by decide +kernel
theorem dX3_get_17 : decode cX3_get 17 = .ok (.istore_n 3, 1) := by decide +kernel
theorem dX3_get_18 : decode cX3_get 18 = .ok (.iload_n 3, 1) := by decide +kernel
theorem dX3_get_19 : decode cX3_get 19 = .ok (.iconst 1, 1) := by decide +kernel
theorem dX3_get_20 : decode cX3_get 20 = .ok (.if_icmp .ne 28, 3) := by decide +kernel
theorem dX3_get_23 : decode cX3_get 23 = .ok (.aload_n 0, 1) := by decide +kernel
theorem dX3_get_24 : decode cX3_get 24 = .ok (.aload_n 0, 1) := by decide +kernel
theorem dX3_get_25 : decode cX3_get 25 = .ok (.getfield 14, 3) := by decide +kernel
theorem dX3_get_28 : decode cX3_get 28 = .ok (.aload_n 0, 1) := by decide +kernel
theorem dX3_get_29 : decode cX3_get 29 = .ok (.getfield 14, 3) := by decide +kernel
theorem dX3_get_32 : decode cX3_get 32 = .ok (.iload_n 1, 1) := by decide +kernel
theorem dX3_get_33 : decode cX3_get 33 = .ok (.iconst 0, 1) := by decide +kernel
theorem dX3_get_34 : decode cX3_get 34 = .ok (.invokevirtual 221, 3) := by decide +kernel
theorem dX3_get_37 : decode cX3_get 37 = .ok (.iconst 0, 1) := by decide +kernel
theorem dX3_get_38 : decode cX3_get 38 = .ok (.invokevirtual 221, 3) := by decide +kernel
theorem dX3_get_41 : decode cX3_get 41 = .ok (.iconst 0, 1) := by decide +kernel
theorem dX3_get_42 : decode cX3_get 42 = .ok (.invokevirtual 142, 3) := by decide +kernel
theorem dX3_get_45 : decode cX3_get 45 = .ok (.goto 54, 3) := by decide +kernel
theorem dX3_get_48 : decode cX3_get 48 = .ok (.iload_n 3, 1) := by decide +kernel
theorem dX3_get_49 : decode cX3_get 49 = .ok (.iconst 2, 1) := by decide +kernel
theorem dX3_get_50 : decode cX3_get 50 = .ok (.if_icmp .ne 44, 3) := by decide +kernel
theorem dX3_get_53 : decode cX3_get 53 = .ok (.aload_n 0, 1) := by decide +kernel
theorem dX3_get_54 : decode cX3_get 54 = .ok (.aload_n 0, 1) := by decide +kernel
theorem dX3_get_55 : decode cX3_get 55 = .ok (.getfield 46, 3) := by decide +kernel
theorem dX3_get_58 : decode cX3_get 58 = .ok (.aload_n 0, 1) := by decide +kernel
theorem dX3_get_59 : decode cX3_get 59 = .ok (.getfield 52, 3) := by decide +kernel
theorem dX3_get_62 : decode cX3_get 62 = .ok (.invokevirtual 89, 3) := by decide +kernel
theorem dX3_get_65 : decode cX3_get 65 = .ok (.aload_n 0, 1) := by decide +kernel
theorem dX3_get_66 : decode cX3_get 66 = .ok (.aload_n 0, 1) := by decide +kernel
theorem dX3_get_67 : decode cX3_get 67 = .ok (.getfield 14, 3) := by decide +kernel
theorem dX3_get_70 : decode cX3_get 70 = .ok (.iload_n 1, 1) := by decide +kernel
theorem dX3_get_71 : decode cX3_get 71 = .ok (.iconst 1, 1) := by decide +kernel
theorem dX3_get_72 : decode cX3_get 72 = .ok (.invokevirtual 221, 3) := by decide +kernel
theorem dX3_get_75 : decode cX3_get 75 = .ok (.putfield 49, 3) := by decide +kernel
theorem dX3_get_78 : decode cX3_get 78 = .ok (.aload_n 0, 1) := by decide +kernel
theorem dX3_get_79 : decode cX3_get 79 = .ok (.aload_n 0, 1) := by decide +kernel
theorem dX3_get_80 : decode cX3_get 80 = .ok (.getfield 14, 3) := by decide +kernel
theorem dX3_get_83 : decode cX3_get 83 = .ok (.iload_n 1, 1) := by decide +kernel
theorem dX3_get_84 : decode cX3_get 84 = .ok (.iconst 0, 1) := by decide +kernel
theorem dX3_get_85 : decode cX3_get 85 = .ok (.invokevirtual 221, 3) := by decide +kernel
theorem dX3_get_88 : decode cX3_get 88 = .ok (.putfield 46, 3) := by decide +kernel
theorem dX3_get_91 : decode cX3_get 91 = .ok (.goto 8, 3) := by decide +kernel
theorem dX3_get_94 : decode cX3_get 94 = .ok (.aload_n 0, 1) := by decide +kernel
theorem dX3_get_95 : decode cX3_get 95 = .ok (.iload_n 1, 1) := by decide +kernel
theorem dX3_get_96 : decode cX3_get 96 = .ok (.invokevirtual 174, 3) := by decide +kernel
theorem dX3_get_99 : decode cX3_get 99 = .ok (.return_, 1) := by decide +kernel
set_option maxRecDepth 20000 in
theorem ggX3_refer_X7_at : GoodIn wsX3_refer wsX7_at := goodIn_r _ [10, 11, 12, 13, 14, 15, 9, 16, 17, 104, 105, 106] (by decide +kernel) (by decide +kernel)
set_option maxRecDepth 20000 in
theorem gX3_refer_X7_at : GoodIn wsX3_refer (wsV RX3 221 RX7 yX7_at wsX7_at) := goodIn_app (goodIn_of _ (by decide +kernel)) ggX3_refer_X7_at
set_option maxRecDepth 20000 in
theorem ggX3_refer_X3_push : GoodIn wsX3_refer wsX3_push := goodIn_r _ [22, 23, 24, 25, 26, 9, 27, 17, 12, 11, 28, 29, 30, 31, 32, 33, 34, 35, 36, 37, 38, 39, 40, 41, 42, 43, 44, 45, 46, 47, 48, 49, 50, 13, 14, 15, 16, 51, 52, 53, 54, 55, 56, 57, 58, 59, 60, 61, 62, 63, 64, 65, 66, 67, 104, 105, 106] (by decide +kernel) (by decide +kernel)
set_option maxRecDepth 20000 in
theorem gX3_refer_X3_push : GoodIn wsX3_refer (wsV RX3 142 RX3 yX3_push wsX3_push) := goodIn_app (goodIn_of _ (by decide +kernel)) ggX3_refer_X3_push
theorem dX3_refer_0 : decode cX3_refer 0 = .ok (.aload_n 0, 1) := by decide +kernel
theorem dX3_refer_1 : decode cX3_refer 1 = .ok (.getfield 70, 3) := by decide +kernel
theorem dX3_refer_4 : decode cX3_refer 4 = .ok (.getfield 228, 3) := by decide +kernel
theorem dX3_refer_7 : decode cX3_refer 7 = .ok (.aload_n 0, 1) := by decide +kernel
theorem dX3_refer_8 : decode cX3_refer 8 = .ok (.getfield 74, 3) := by decide +kernel
theorem dX3_refer_11 : decode cX3_refer 11 = .ok (.getfield 206, 3) := by decide +kernel
theorem dX3_refer_14 : decode cX3_refer 14 = .ok (.iload_n 2, 1) := by decide +kernel
theorem dX3_refer_15 : decode cX3_refer 15 = .ok (.iaload, 1) := by decide +kernel
theorem dX3_refer_16 : decode cX3_refer 16 = .ok (.iaload, 1) := by decide +kernel
theorem dX3_refer_17 : decode cX3_refer 17 = .ok (.iconst 1, 1) := by decide +kernel
theorem dX3_refer_18 : decode cX3_refer 18 = .ok (.if_icmp .ne 7, 3) := by decide +kernel
theorem dX3_refer_21 : decode cX3_refer 21 = .ok (.iconst 1, 1) := by decide +kernel
theorem dX3_refer_22 : decode cX3_refer 22 = .ok (.goto 4, 3) := by decide +kernel
theorem dX3_refer_25 : decode cX3_refer 25 = .ok (.iconst 0, 1) := by decide +kernel
theorem dX3_refer_26 : decode cX3_refer 26 = .ok (.istore_n 3, 1) := by decide +kernel
theorem dX3_refer_27 : decode cX3_refer 27 = .ok (.aload_n 0, 1) := by decide +kernel
theorem dX3_refer_28 : decode cX3_refer 28 = .ok (.iload_n 3, 1) := by decide +kernel
theorem dX3_refer_29 : decode cX3_refer 29 = .ok (.ifCond .eq 15, 3) := by decide +kernel
theorem dX3_refer_32 : decode cX3_refer 32 = .ok (.aload_n 0, 1) := by decide +kernel
theorem dX3_refer_33 : decode cX3_refer 33 = .ok (.getfield 14, 3) := by decide +kernel
theorem dX3_refer_36 : decode cX3_refer 36 = .ok (.iload_n 1, 1) := by decide +kernel
theorem dX3_refer_37 : decode cX3_refer 37 = .ok (.iconst 0, 1) := by decide +kernel
theorem dX3_refer_38 : decode cX3_refer 38 = .ok (.invokevirtual 221, 3) := by decide +kernel
theorem dX3_refer_41 : decode cX3_refer 41 = .ok (.goto 4, 3) := by decide +kernel
theorem dX3_refer_44 : decode cX3_refer 44 = .ok (.iload_n 1, 1) := by decide +kernel
theorem dX3_refer_45 : decode cX3_refer 45 = .ok (.iconst 0, 1) := by decide +kernel
theorem dX3_refer_46 : decode cX3_refer 46 = .ok (.invokevirtual 142, 3) := by decide +kernel
theorem dX3_refer_49 : decode cX3_refer 49 = .ok (.return_, 1) := by decide +kernel
set_option maxRecDepth 20000 in
theorem ggX3_pick_X3_pop : GoodIn wsX3_pick wsX3_pop := goodIn_r _ [8, 9, 10, 11, 12, 13, 14, 15, 16, 17, 18, 19, 20, 21, 22, 23, 24, 25, 26, 69, 70, 71, 72, 73, 74, 75, 76, 77, 78, 79, 80, 81, 82, 83, 84, 85, 103, 104, 105] (by decide +kernel) (by decide +kernel)
set_option maxRecDepth 20000 in
theorem gX3_pick_X3_pop : GoodIn wsX3_pick (wsV RX3 189 RX3 yX3_pop wsX3_pop) := goodIn_app (goodIn_of _ (by decide +kernel)) ggX3_pick_X3_pop
set_option maxRecDepth 20000 in
theorem ggX3_pick_X7_at : GoodIn wsX3_pick wsX7_at := goodIn_r _ [15, 16, 17, 18, 19, 20, 14, 21, 22, 103, 104, 105] (by decide +kernel) (by decide +kernel)
set_option maxRecDepth 20000 in
theorem gX3_pick_X7_at : GoodIn wsX3_pick (wsV RX3 221 RX7 yX7_at wsX7_at) := goodIn_app (goodIn_of _ (by decide +kernel)) ggX3_pick_X7_at
set_option maxRecDepth 20000 in
theorem ggX3_pick_X3_trap : GoodIn wsX3_pick wsX3_trap := goodIn_r _ [30, 31, 32, 33, 34, 35, 36, 37, 69, 70, 71, 72, 73, 74, 75, 76, 77, 78, 79, 80, 81, 82, 83, 84, 85, 106, 107, 108, 109, 110, 111, 112, 113, 114, 115, 116, 117, 118, 119, 120, 121, 122, 123, 124, 125, 126, 127, 128, 129, 130, 131, 132, 133, 134, 135, 136, 137, 138] (by decide +kernel) (by decide +kernel)
set_option maxRecDepth 20000 in
theorem gX3_pick_X3_trap : GoodIn wsX3_pick (wsV RX3 120 RX3 yX3_trap wsX3_trap) := goodIn_app (goodIn_of _ (by decide +kernel)) ggX3_pick_X3_trap
set_option maxRecDepth 20000 in
theorem ggX3_pick_X3_push : GoodIn wsX3_pick wsX3_push := goodIn_r _ [41, 9, 42, 43, 44, 14, 45, 22, 17, 16, 46, 47, 48, 49, 50, 51, 52, 53, 54, 55, 56, 57, 58, 59, 60, 61, 62, 63, 64, 65, 66, 67, 68, 18, 19, 20, 21, 69, 70, 71, 72, 73, 74, 75, 76, 77, 78, 79, 80, 81, 82, 83, 84, 85, 103, 104, 105] (by decide +kernel) (by decide +kernel)
set_option maxRecDepth 20000 in
theorem gX3_pick_X3_push : GoodIn wsX3_pick (wsV RX3 142 RX3 yX3_push wsX3_push) := goodIn_app (goodIn_of _ (by decide +kernel)) ggX3_pick_X3_push
theorem dX3_pick_0 : decode cX3_pick 0 = .ok (.aload_n 0, 1) := by decide +kernel
theorem dX3_pick_1 : decode cX3_pick 1 = .ok (.invokevirtual 189, 3) := by decide +kernel
theorem dX3_pick_4 : decode cX3_pick 4 = .ok (.istore 4, 2) := by decide +kernel
theorem dX3_pick_6 : decode cX3_pick 6 = .ok (.aload_n 0, 1) := by decide +kernel
theorem dX3_pick_7 : decode cX3_pick 7 = .ok (.getfield 14, 3) := by decide +kernel
theorem dX3_pick_10 : decode cX3_pick 10 = .ok (.iload_n 1, 1) := by decide +kernel
theorem dX3_pick_11 : decode cX3_pick 11 = .ok (.iconst 0, 1) := by decide +kernel
theorem dX3_pick_12 : decode cX3_pick 12 = .ok (.invokevirtual 221, 3) := by decide +kernel
theorem dX3_pick_15 : decode cX3_pick 15 = .ok (.iload 4, 2) := by decide +kernel
theorem dX3_pick_17 : decode cX3_pick 17 = .ok (.iadd, 1) := by decide +kernel
theorem dX3_pick_18 : decode cX3_pick 18 = .ok (.istore 5, 2) := by decide +kernel
theorem dX3_pick_20 : decode cX3_pick 20 = .ok (.iload 4, 2) := by decide +kernel
theorem dX3_pick_22 : decode cX3_pick 22 = .ok (.ifCond .lt 17, 3) := by decide +kernel
theorem dX3_pick_25 : decode cX3_pick 25 = .ok (.iload 4, 2) := by decide +kernel
theorem dX3_pick_27 : decode cX3_pick 27 = .ok (.aload_n 0, 1) := by decide +kernel
theorem dX3_pick_28 : decode cX3_pick 28 = .ok (.getfield 14, 3) := by decide +kernel
theorem dX3_pick_31 : decode cX3_pick 31 = .ok (.iload_n 1, 1) := by decide +kernel
theorem dX3_pick_32 : decode cX3_pick 32 = .ok (.iconst 1, 1) := by decide +kernel
theorem dX3_pick_33 : decode cX3_pick 33 = .ok (.invokevirtual 221, 3) := by decide +kernel
theorem dX3_pick_36 : decode cX3_pick 36 = .ok (.if_icmp .lt 20, 3) := by decide +kernel
theorem dX3_pick_39 : decode cX3_pick 39 = .ok (.aload_n 0, 1) := by decide +kernel
theorem dX3_pick_40 : decode cX3_pick 40 = .ok (.iconst 2, 1) := by decide +kernel
theorem dX3_pick_41 : decode cX3_pick 41 = .ok (.aload_n 0, 1) := by decide +kernel
theorem dX3_pick_42 : decode cX3_pick 42 = .ok (.getfield 74, 3) := by decide +kernel
theorem dX3_pick_45 : decode cX3_pick 45 = .ok (.getfield 206, 3) := by decide +kernel
theorem dX3_pick_48 : decode cX3_pick 48 = .ok (.iload_n 2, 1) := by decide +kernel
theorem dX3_pick_49 : decode cX3_pick 49 = .ok (.iaload, 1) := by decide +kernel
theorem dX3_pick_50 : decode cX3_pick 50 = .ok (.invokevirtual 120, 3) := by decide +kernel
theorem dX3_pick_53 : decode cX3_pick 53 = .ok (.goto 27, 3) := by decide +kernel
theorem dX3_pick_56 : decode cX3_pick 56 = .ok (.aload_n 0, 1) := by decide +kernel
theorem dX3_pick_57 : decode cX3_pick 57 = .ok (.iload_n 3, 1) := by decide +kernel
theorem dX3_pick_58 : decode cX3_pick 58 = .ok (.ifCond .eq 8, 3) := by decide +kernel
theorem dX3_pick_61 : decode cX3_pick 61 = .ok (.iload 5, 2) := by decide +kernel
theorem dX3_pick_63 : decode cX3_pick 63 = .ok (.goto 13, 3) := by decide +kernel
theorem dX3_pick_66 : decode cX3_pick 66 = .ok (.aload_n 0, 1) := by decide +kernel
theorem dX3_pick_67 : decode cX3_pick 67 = .ok (.getfield 14, 3) := by decide +kernel
theorem dX3_pick_70 : decode cX3_pick 70 = .ok (.iload 5, 2) := by decide +kernel
theorem dX3_pick_72 : decode cX3_pick 72 = .ok (.iconst 0, 1) := by decide +kernel
theorem dX3_pick_73 : decode cX3_pick 73 = .ok (.invokevirtual 221, 3) := by decide +kernel
theorem dX3_pick_76 : decode cX3_pick 76 = .ok (.iconst 0, 1) := by decide +kernel
theorem dX3_pick_77 : decode cX3_pick 77 = .ok (.invokevirtual 142, 3) := by decide +kernel
theorem dX3_pick_80 : decode cX3_pick 80 = .ok (.return_, 1) := by decide +kernel
set_option maxRecDepth 20000 in
theorem ggX3_stow_X3_pop : GoodIn wsX3_stow wsX3_pop := goodIn_r _ [8, 9, 10, 11, 12, 13, 14, 15, 16, 17, 18, 19, 20, 21, 22, 23, 24, 25, 26, 42, 43, 44, 45, 46, 47, 48, 49, 50, 51, 52, 53, 54, 55, 56, 57, 58, 76, 77, 78] (by decide +kernel) (by decide +kernel)
set_option maxRecDepth 20000 in
theorem gX3_stow_X3_pop : GoodIn wsX3_stow (wsV RX3 189 RX3 yX3_pop wsX3_pop) := goodIn_app (goodIn_of _ (by decide +kernel)) ggX3_stow_X3_pop
set_option maxRecDepth 20000 in
theorem ggX3_stow_X7_at : GoodIn wsX3_stow wsX7_at := goodIn_r _ [15, 16, 17, 18, 19, 20, 14, 21, 22, 76, 77, 78] (by decide +kernel) (by decide +kernel)
set_option maxRecDepth 20000 in
theorem gX3_stow_X7_at : GoodIn wsX3_stow (wsV RX3 221 RX7 yX7_at wsX7_at) := goodIn_app (goodIn_of _ (by decide +kernel)) ggX3_stow_X7_at
set_option maxRecDepth 20000 in
theorem ggX3_stow_X3_trap : GoodIn wsX3_stow wsX3_trap := goodIn_r _ [30, 31, 32, 33, 34, 35, 36, 37, 42, 43, 44, 45, 46, 47, 48, 49, 50, 51, 52, 53, 54, 55, 56, 57, 58, 79, 80, 81, 82, 83, 84, 85, 86, 87, 88, 89, 90, 91, 92, 93, 94, 95, 96, 97, 98, 99, 100, 101, 102, 103, 104, 105, 106, 107, 108, 109, 110, 111] (by decide +kernel) (by decide +kernel)
set_option maxRecDepth 20000 in
theorem gX3_stow_X3_trap : GoodIn wsX3_stow (wsV RX3 120 RX3 yX3_trap wsX3_trap) := goodIn_app (goodIn_of _ (by decide +kernel)) ggX3_stow_X3_trap
set_option maxRecDepth 20000 in
theorem ggX3_stow_X7_put : GoodIn wsX3_stow wsX7_put := goodIn_r _ [41, 16, 17, 18, 19, 20, 14, 21, 22, 76, 77, 78] (by decide +kernel) (by decide +kernel)
set_option maxRecDepth 20000 in
theorem gX3_stow_X7_put : GoodIn wsX3_stow (wsV RX3 218 RX7 yX7_put wsX7_put) := goodIn_app (goodIn_of _ (by decide +kernel)) ggX3_stow_X7_put
theorem dX3_stow_0 : decode cX3_stow 0 = .ok (.aload_n 0, 1) := by decide +kernel
theorem dX3_stow_1 : decode cX3_stow 1 = .ok (.invokevirtual 189, 3) := by decide +kernel
theorem dX3_stow_4 : decode cX3_stow 4 = .ok (.istore_n 3, 1) := by decide +kernel
theorem dX3_stow_5 : decode cX3_stow 5 = .ok (.aload_n 0, 1) := by decide +kernel
theorem dX3_stow_6 : decode cX3_stow 6 = .ok (.invokevirtual 189, 3) := by decide +kernel
theorem dX3_stow_9 : decode cX3_stow 9 = .ok (.istore 4, 2) := by decide +kernel
theorem dX3_stow_11 : decode cX3_stow 11 = .ok (.iload 4, 2) := by decide +kernel
theorem dX3_stow_13 : decode cX3_stow 13 = .ok (.ifCond .lt 17, 3) := by decide +kernel
theorem dX3_stow_16 : decode cX3_stow 16 = .ok (.iload 4, 2) := by decide +kernel
theorem dX3_stow_18 : decode cX3_stow 18 = .ok (.aload_n 0, 1) := by decide +kernel
theorem dX3_stow_19 : decode cX3_stow 19 = .ok (.getfield 14, 3) := by decide +kernel
theorem dX3_stow_22 : decode cX3_stow 22 = .ok (.iload_n 1, 1) := by decide +kernel
theorem dX3_stow_23 : decode cX3_stow 23 = .ok (.iconst 1, 1) := by decide +kernel
theorem dX3_stow_24 : decode cX3_stow 24 = .ok (.invokevirtual 221, 3) := by decide +kernel
theorem dX3_stow_27 : decode cX3_stow 27 = .ok (.if_icmp .lt 20, 3) := by decide +kernel
theorem dX3_stow_30 : decode cX3_stow 30 = .ok (.aload_n 0, 1) := by decide +kernel
theorem dX3_stow_31 : decode cX3_stow 31 = .ok (.iconst 2, 1) := by decide +kernel
theorem dX3_stow_32 : decode cX3_stow 32 = .ok (.aload_n 0, 1) := by decide +kernel
theorem dX3_stow_33 : decode cX3_stow 33 = .ok (.getfield 74, 3) := by decide +kernel
theorem dX3_stow_36 : decode cX3_stow 36 = .ok (.getfield 206, 3) := by decide +kernel
theorem dX3_stow_39 : decode cX3_stow 39 = .ok (.iload_n 2, 1) := by decide +kernel
theorem dX3_stow_40 : decode cX3_stow 40 = .ok (.iaload, 1) := by decide +kernel
theorem dX3_stow_41 : decode cX3_stow 41 = .ok (.invokevirtual 120, 3) := by decide +kernel
theorem dX3_stow_44 : decode cX3_stow 44 = .ok (.goto 24, 3) := by decide +kernel
theorem dX3_stow_47 : decode cX3_stow 47 = .ok (.aload_n 0, 1) := by decide +kernel
theorem dX3_stow_48 : decode cX3_stow 48 = .ok (.getfield 14, 3) := by decide +kernel
theorem dX3_stow_51 : decode cX3_stow 51 = .ok (.aload_n 0, 1) := by decide +kernel
theorem dX3_stow_52 : decode cX3_stow 52 = .ok (.getfield 14, 3) := by decide +kernel
theorem dX3_stow_55 : decode cX3_stow 55 = .ok (.iload_n 1, 1) := by decide +kernel
theorem dX3_stow_56 : decode cX3_stow 56 = .ok (.iconst 0, 1) := by decide +kernel
theorem dX3_stow_57 : decode cX3_stow 57 = .ok (.invokevirtual 221, 3) := by decide +kernel
theorem dX3_stow_60 : decode cX3_stow 60 = .ok (.iload 4, 2) := by decide +kernel
theorem dX3_stow_62 : decode cX3_stow 62 = .ok (.iadd, 1) := by decide +kernel
theorem dX3_stow_63 : decode cX3_stow 63 = .ok (.iconst 0, 1) := by decide +kernel
theorem dX3_stow_64 : decode cX3_stow 64 = .ok (.iload_n 3, 1) := by decide +kernel
theorem dX3_stow_65 : decode cX3_stow 65 = .ok (.invokevirtual 218, 3) := by decide +kernel
theorem dX3_stow_68 : decode cX3_stow 68 = .ok (.return_, 1) := by decide +kernel
set_option maxRecDepth 20000 in
theorem ggX3_put_X7_at : GoodIn wsX3_put wsX7_at := goodIn_r _ [12, 13, 14, 15, 16, 17, 11, 18, 19, 86, 87, 88] (by decide +kernel) (by decide +kernel)
set_option maxRecDepth 20000 in
theorem gX3_put_X7_at : GoodIn wsX3_put (wsV RX3 221 RX7 yX7_at wsX7_at) := goodIn_app (goodIn_of _ (by decide +kernel)) ggX3_put_X7_at
set_option maxRecDepth 20000 in
theorem ggX3_put_X7_put : GoodIn wsX3_put wsX7_put := goodIn_r _ [23, 13, 14, 15, 16, 17, 11, 18, 19, 86, 87, 88] (by decide +kernel) (by decide +kernel)
set_option maxRecDepth 20000 in
theorem gX3_put_X7_put : GoodIn wsX3_put (wsV RX3 218 RX7 yX7_put wsX7_put) := goodIn_app (goodIn_of _ (by decide +kernel)) ggX3_put_X7_put
set_option maxRecDepth 20000 in
theorem ggX3_put_X3_pop : GoodIn wsX3_put wsX3_pop := goodIn_r _ [28, 6, 7, 8, 9, 10, 11, 12, 13, 14, 15, 16, 17, 18, 19, 29, 30, 31, 32, 33, 34, 35, 36, 37, 38, 39, 40, 41, 42, 43, 44, 45, 46, 47, 48, 49, 86, 87, 88] (by decide +kernel) (by decide +kernel)
set_option maxRecDepth 20000 in
theorem gX3_put_X3_pop : GoodIn wsX3_put (wsV RX3 189 RX3 yX3_pop wsX3_pop) := goodIn_app (goodIn_of _ (by decide +kernel)) ggX3_put_X3_pop
theorem dX3_put_0 : decode cX3_put 0 = .ok (.aload_n 0, 1) := by decide +kernel
theorem dX3_put_1 : decode cX3_put 1 = .ok (.getfield 70, 3) := by decide +kernel
theorem dX3_put_4 : decode cX3_put 4 = .ok (.getfield 228, 3) := by decide +kernel
theorem dX3_put_7 : decode cX3_put 7 = .ok (.aload_n 0, 1) := by decide +kernel
theorem dX3_put_8 : decode cX3_put 8 = .ok (.getfield 74, 3) := by decide +kernel
theorem dX3_put_11 : decode cX3_put 11 = .ok (.getfield 206, 3) := by decide +kernel
theorem dX3_put_14 : decode cX3_put 14 = .ok (.iload_n 2, 1) := by decide +kernel
theorem dX3_put_15 : decode cX3_put 15 = .ok (.iaload, 1) := by decide +kernel
theorem dX3_put_16 : decode cX3_put 16 = .ok (.iaload, 1) := by decide +kernel
theorem dX3_put_17 : decode cX3_put 17 = .ok (.iconst 1, 1) := by decide +kernel
theorem dX3_put_18 : decode cX3_put 18 = .ok (.if_icmp .ne 7, 3) := by decide +kernel
theorem dX3_put_21 : decode cX3_put 21 = .ok (.iconst 1, 1) := by decide +kernel
theorem dX3_put_22 : decode cX3_put 22 = .ok (.goto 4, 3) := by decide +kernel
theorem dX3_put_25 : decode cX3_put 25 = .ok (.iconst 0, 1) := by decide +kernel
theorem dX3_put_26 : decode cX3_put 26 = .ok (.istore_n 3, 1) := by decide +kernel
theorem dX3_put_27 : decode cX3_put 27 = .ok (.iload_n 3, 1) := by decide +kernel
theorem dX3_put_28 : decode cX3_put 28 = .ok (.ifCond .eq 15, 3) := by decide +kernel
theorem dX3_put_31 : decode cX3_put 31 = .ok (.aload_n 0, 1) := by decide +kernel
theorem dX3_put_32 : decode cX3_put 32 = .ok (.getfield 14, 3) := by decide +kernel
theorem dX3_put_35 : decode cX3_put 35 = .ok (.iload_n 1, 1) := by decide +kernel
theorem dX3_put_36 : decode cX3_put 36 = .ok (.iconst 0, 1) := by decide +kernel
theorem dX3_put_37 : decode cX3_put 37 = .ok (.invokevirtual 221, 3) := by decide +kernel
theorem dX3_put_40 : decode cX3_put 40 = .ok (.goto 4, 3) := by decide +kernel
theorem dX3_put_43 : decode cX3_put 43 = .ok (.iload_n 1, 1) := by decide +kernel
theorem dX3_put_44 : decode cX3_put 44 = .ok (.istore 4, 2) := by decide +kernel
theorem dX3_put_46 : decode cX3_put 46 = .ok (.aload_n 0, 1) := by decide +kernel
theorem dX3_put_47 : decode cX3_put 47 = .ok (.getfield 14, 3) := by decide +kernel
theorem dX3_put_50 : decode cX3_put 50 = .ok (.iload 4, 2) := by decide +kernel
theorem dX3_put_52 : decode cX3_put 52 = .ok (.iconst 1, 1) := by decide +kernel
theorem dX3_put_53 : decode cX3_put 53 = .ok (.aload_n 0, 1) := by decide +kernel
theorem dX3_put_54 : decode cX3_put 54 = .ok (.getfield 20, 3) := by decide +kernel
theorem dX3_put_57 : decode cX3_put 57 = .ok (.aload_n 0, 1) := by decide +kernel
theorem dX3_put_58 : decode cX3_put 58 = .ok (.getfield 20, 3) := by decide +kernel
theorem dX3_put_61 : decode cX3_put 61 = .ok (.getfield 200, 3) := by decide +kernel
theorem dX3_put_64 : decode cX3_put 64 = .ok (.iconst 1, 1) := by decide +kernel
theorem dX3_put_65 : decode cX3_put 65 = .ok (.isub, 1) := by decide +kernel
theorem dX3_put_66 : decode cX3_put 66 = .ok (.iconst 1, 1) := by decide +kernel
theorem dX3_put_67 : decode cX3_put 67 = .ok (.invokevirtual 221, 3) := by decide +kernel
theorem dX3_put_70 : decode cX3_put 70 = .ok (.invokevirtual 218, 3) := by decide +kernel
theorem dX3_put_73 : decode cX3_put 73 = .ok (.aload_n 0, 1) := by decide +kernel
theorem dX3_put_74 : decode cX3_put 74 = .ok (.getfield 14, 3) := by decide +kernel
theorem dX3_put_77 : decode cX3_put 77 = .ok (.iload 4, 2) := by decide +kernel
theorem dX3_put_79 : decode cX3_put 79 = .ok (.iconst 0, 1) := by decide +kernel
theorem dX3_put_80 : decode cX3_put 80 = .ok (.aload_n 0, 1) := by decide +kernel
theorem dX3_put_81 : decode cX3_put 81 = .ok (.invokevirtual 189, 3) := by decide +kernel
theorem dX3_put_84 : decode cX3_put 84 = .ok (.invokevirtual 218, 3) := by decide +kernel
theorem dX3_put_87 : decode cX3_put 87 = .ok (.return_, 1) := by decide +kernel
set_option maxRecDepth 20000 in
theorem ggX3_copy_X7_at : GoodIn wsX3_copy wsX7_at := goodIn_r _ [7, 8, 9, 10, 11, 12, 6, 13, 14, 65, 66, 67] (by decide +kernel) (by decide +kernel)
set_option maxRecDepth 20000 in
theorem gX3_copy_X7_at : GoodIn wsX3_copy (wsV RX3 221 RX7 yX7_at wsX7_at) := goodIn_app (goodIn_of _ (by decide +kernel)) ggX3_copy_X7_at
set_option maxRecDepth 20000 in
theorem ggX3_copy_X7_add : GoodIn wsX3_copy wsX7_add := goodIn_r _ [18, 14, 9, 8, 19, 20, 21, 22, 23, 24, 25, 26, 27, 28, 29, 30, 31, 32, 33, 34, 35, 36, 37, 65, 66, 67] (by decide +kernel) (by decide +kernel)
set_option maxRecDepth 20000 in
theorem gX3_copy_X7_add : GoodIn wsX3_copy (wsV RX3 215 RX7 yX7_add wsX7_add) := goodIn_app (goodIn_of _ (by decide +kernel)) ggX3_copy_X7_add
set_option maxRecDepth 20000 in
theorem ggX3_copy_X7_put : GoodIn wsX3_copy wsX7_put := goodIn_r _ [41, 8, 9, 10, 11, 12, 6, 13, 14, 65, 66, 67] (by decide +kernel) (by decide +kernel)
set_option maxRecDepth 20000 in
theorem gX3_copy_X7_put : GoodIn wsX3_copy (wsV RX3 218 RX7 yX7_put wsX7_put) := goodIn_app (goodIn_of _ (by decide +kernel)) ggX3_copy_X7_put
set_option maxRecDepth 20000 in
theorem ggX3_copy_X3_push : GoodIn wsX3_copy wsX3_push := goodIn_r _ [46, 47, 15, 16, 17, 6, 18, 14, 9, 8, 19, 20, 21, 22, 23, 24, 25, 26, 27, 28, 29, 30, 31, 32, 33, 34, 35, 36, 37, 38, 39, 40, 41, 10, 11, 12, 13, 48, 49, 50, 51, 52, 53, 54, 55, 56, 57, 58, 59, 60, 61, 62, 63, 64, 65, 66, 67] (by decide +kernel) (by decide +kernel)
set_option maxRecDepth 20000 in
theorem gX3_copy_X3_push : GoodIn wsX3_copy (wsV RX3 142 RX3 yX3_push wsX3_push) := goodIn_app (goodIn_of _ (by decide +kernel)) ggX3_copy_X3_push
theorem dX3_copy_0 : decode cX3_copy 0 = .ok (.aload_n 0, 1) := by decide +kernel
theorem dX3_copy_1 : decode cX3_copy 1 = .ok (.getfield 14, 3) := by decide +kernel
theorem dX3_copy_4 : decode cX3_copy 4 = .ok (.iload_n 1, 1) := by decide +kernel
theorem dX3_copy_5 : decode cX3_copy 5 = .ok (.iconst 0, 1) := by decide +kernel
theorem dX3_copy_6 : decode cX3_copy 6 = .ok (.invokevirtual 221, 3) := by decide +kernel
theorem dX3_copy_9 : decode cX3_copy 9 = .ok (.istore_n 2, 1) := by decide +kernel
theorem dX3_copy_10 : decode cX3_copy 10 = .ok (.aload_n 0, 1) := by decide +kernel
theorem dX3_copy_11 : decode cX3_copy 11 = .ok (.getfield 14, 3) := by decide +kernel
theorem dX3_copy_14 : decode cX3_copy 14 = .ok (.iload_n 1, 1) := by decide +kernel
theorem dX3_copy_15 : decode cX3_copy 15 = .ok (.iconst 1, 1) := by decide +kernel
theorem dX3_copy_16 : decode cX3_copy 16 = .ok (.invokevirtual 221, 3) := by decide +kernel
theorem dX3_copy_19 : decode cX3_copy 19 = .ok (.istore_n 3, 1) := by decide +kernel
theorem dX3_copy_20 : decode cX3_copy 20 = .ok (.aload_n 0, 1) := by decide +kernel
theorem dX3_copy_21 : decode cX3_copy 21 = .ok (.getfield 14, 3) := by decide +kernel
theorem dX3_copy_24 : decode cX3_copy 24 = .ok (.getfield 200, 3) := by decide +kernel
theorem dX3_copy_27 : decode cX3_copy 27 = .ok (.istore 4, 2) := by decide +kernel
theorem dX3_copy_29 : decode cX3_copy 29 = .ok (.iconst 0, 1) := by decide +kernel
theorem dX3_copy_30 : decode cX3_copy 30 = .ok (.istore 5, 2) := by decide +kernel
theorem dX3_copy_32 : decode cX3_copy 32 = .ok (.iload 5, 2) := by decide +kernel
theorem dX3_copy_34 : decode cX3_copy 34 = .ok (.iload_n 3, 1) := by decide +kernel
theorem dX3_copy_35 : decode cX3_copy 35 = .ok (.if_icmp .ge 36, 3) := by decide +kernel
theorem dX3_copy_38 : decode cX3_copy 38 = .ok (.aload_n 0, 1) := by decide +kernel
theorem dX3_copy_39 : decode cX3_copy 39 = .ok (.getfield 14, 3) := by decide +kernel
theorem dX3_copy_42 : decode cX3_copy 42 = .ok (.aload_n 0, 1) := by decide +kernel
theorem dX3_copy_43 : decode cX3_copy 43 = .ok (.getfield 14, 3) := by decide +kernel
theorem dX3_copy_46 : decode cX3_copy 46 = .ok (.invokevirtual 215, 3) := by decide +kernel
theorem dX3_copy_49 : decode cX3_copy 49 = .ok (.iconst 0, 1) := by decide +kernel
theorem dX3_copy_50 : decode cX3_copy 50 = .ok (.aload_n 0, 1) := by decide +kernel
theorem dX3_copy_51 : decode cX3_copy 51 = .ok (.getfield 14, 3) := by decide +kernel
theorem dX3_copy_54 : decode cX3_copy 54 = .ok (.iload_n 2, 1) := by decide +kernel
theorem dX3_copy_55 : decode cX3_copy 55 = .ok (.iload 5, 2) := by decide +kernel
theorem dX3_copy_57 : decode cX3_copy 57 = .ok (.iadd, 1) := by decide +kernel
theorem dX3_copy_58 : decode cX3_copy 58 = .ok (.iconst 0, 1) := by decide +kernel
theorem dX3_copy_59 : decode cX3_copy 59 = .ok (.invokevirtual 221, 3) := by decide +kernel
theorem dX3_copy_62 : decode cX3_copy 62 = .ok (.invokevirtual 218, 3) := by decide +kernel
theorem dX3_copy_65 : decode cX3_copy 65 = .ok (.iinc 5 1, 3) := by decide +kernel
theorem dX3_copy_68 : decode cX3_copy 68 = .ok (.goto (-36), 3) := by decide +kernel
theorem dX3_copy_71 : decode cX3_copy 71 = .ok (.aload_n 0, 1) := by decide +kernel
theorem dX3_copy_72 : decode cX3_copy 72 = .ok (.iload 4, 2) := by decide +kernel
theorem dX3_copy_74 : decode cX3_copy 74 = .ok (.iload_n 3, 1) := by decide +kernel
theorem dX3_copy_75 : decode cX3_copy 75 = .ok (.invokevirtual 142, 3) := by decide +kernel
theorem dX3_copy_78 : decode cX3_copy 78 = .ok (.return_, 1) := by decide +kernel
set_option maxRecDepth 20000 in
theorem ggX3_later_X3_push : GoodIn wsX3_later wsX3_push := goodIn_r _ [9, 10, 11, 12, 13, 14, 15, 16, 17, 18, 19, 20, 21, 22, 23, 24, 25, 26, 27, 28, 29, 30, 31, 32, 33, 34, 35, 36, 37, 38, 39, 40, 41, 42, 43, 44, 45, 63, 64, 65, 66, 67, 68, 69, 70, 71, 72, 73, 74, 75, 76, 77, 78, 79, 97, 98, 99] (by decide +kernel) (by decide +kernel)
set_option maxRecDepth 20000 in
theorem gX3_later_X3_push : GoodIn wsX3_later (wsV RX3 142 RX3 yX3_push wsX3_push) := goodIn_app (goodIn_of _ (by decide +kernel)) ggX3_later_X3_push
set_option maxRecDepth 20000 in
theorem ggX3_later_X3_skip : GoodIn wsX3_later wsX3_skip := goodIn_r _ [49, 50, 2, 51, 3, 52, 1, 53, 54, 55, 14, 56, 18, 17, 42, 43, 44, 45, 16, 57, 58, 59, 60, 61, 62, 63, 64, 65, 66, 67, 68, 69, 70, 71, 72, 73, 74, 75, 76, 77, 78, 79, 80, 81, 82, 83, 84, 85, 86, 87, 88, 89, 90, 91, 92, 93, 94, 95, 96, 97, 98, 99, 100, 101, 102, 103, 104, 105, 106, 107, 108, 109, 110, 111] (by decide +kernel) (by decide +kernel)
set_option maxRecDepth 20000 in
theorem gX3_later_X3_skip : GoodIn wsX3_later (wsV RX3 193 RX3 yX3_skip wsX3_skip) := goodIn_app (goodIn_of _ (by decide +kernel)) ggX3_later_X3_skip
theorem dX3_later_0 : decode cX3_later 0 = .ok (.aload_n 0, 1) := by decide +kernel
theorem dX3_later_1 : decode cX3_later 1 = .ok (.aload_n 0, 1) := by decide +kernel
theorem dX3_later_2 : decode cX3_later 2 = .ok (.getfield 46, 3) := by decide +kernel
theorem dX3_later_5 : decode cX3_later 5 = .ok (.aload_n 0, 1) := by decide +kernel
theorem dX3_later_6 : decode cX3_later 6 = .ok (.getfield 49, 3) := by decide +kernel
theorem dX3_later_9 : decode cX3_later 9 = .ok (.invokevirtual 142, 3) := by decide +kernel
theorem dX3_later_12 : decode cX3_later 12 = .ok (.aload_n 0, 1) := by decide +kernel
theorem dX3_later_13 : decode cX3_later 13 = .ok (.iconst 1, 1) := by decide +kernel
theorem dX3_later_14 : decode cX3_later 14 = .ok (.aload_n 0, 1) := by decide +kernel
theorem dX3_later_15 : decode cX3_later 15 = .ok (.getfield 74, 3) := by decide +kernel
theorem dX3_later_18 : decode cX3_later 18 = .ok (.getfield 139, 3) := by decide +kernel
theorem dX3_later_21 : decode cX3_later 21 = .ok (.iload_n 1, 1) := by decide +kernel
theorem dX3_later_22 : decode cX3_later 22 = .ok (.iaload, 1) := by decide +kernel
theorem dX3_later_23 : decode cX3_later 23 = .ok (.invokevirtual 193, 3) := by decide +kernel
theorem dX3_later_26 : decode cX3_later 26 = .ok (.return_, 1) := by decide +kernel
set_option maxRecDepth 20000 in
theorem ggX3_skip_X7_at : GoodIn wsX3_skip wsX7_at := goodIn_r _ [11, 12, 13, 14, 15, 16, 10, 17, 18, 59, 60, 61] (by decide +kernel) (by decide +kernel)
set_option maxRecDepth 20000 in
theorem gX3_skip_X7_at : GoodIn wsX3_skip (wsV RX3 221 RX7 yX7_at wsX7_at) := goodIn_app (goodIn_of _ (by decide +kernel)) ggX3_skip_X7_at
set_option maxRecDepth 20000 in
theorem ggX3_skip_X1_has : GoodIn wsX3_skip wsX1_has := goodIn_r _ [23, 24, 62, 63, 64, 65, 66, 67, 68, 69, 70, 71, 72, 73] (by decide +kernel) (by decide +kernel)
set_option maxRecDepth 20000 in
theorem gX3_skip_X1_has : GoodIn wsX3_skip (wsV RX3 231 RX1 yX1_has wsX1_has) := goodIn_app (goodIn_of _ (by decide +kernel)) ggX3_skip_X1_has
theorem dX3_skip_0 : decode cX3_skip 0 = .ok (.aload_n 0, 1) := by decide +kernel
theorem dX3_skip_1 : decode cX3_skip 1 = .ok (.getfield 23, 3) := by decide +kernel
theorem dX3_skip_4 : decode cX3_skip 4 = .ok (.aload_n 0, 1) := by decide +kernel
theorem dX3_skip_5 : decode cX3_skip 5 = .ok (.getfield 49, 3) := by decide +kernel
theorem dX3_skip_8 : decode cX3_skip 8 = .ok (.iconst 0, 1) := by decide +kernel
theorem dX3_skip_9 : decode cX3_skip 9 = .ok (.invokevirtual 221, 3) := by decide +kernel
theorem dX3_skip_12 : decode cX3_skip 12 = .ok (.istore_n 3, 1) := by decide +kernel
theorem dX3_skip_13 : decode cX3_skip 13 = .ok (.iload_n 1, 1) := by decide +kernel
theorem dX3_skip_14 : decode cX3_skip 14 = .ok (.ifCond .eq 29, 3) := by decide +kernel
theorem dX3_skip_17 : decode cX3_skip 17 = .ok (.aload_n 0, 1) := by decide +kernel
theorem dX3_skip_18 : decode cX3_skip 18 = .ok (.getfield 62, 3) := by decide +kernel
theorem dX3_skip_21 : decode cX3_skip 21 = .ok (.iload_n 3, 1) := by decide +kernel
theorem dX3_skip_22 : decode cX3_skip 22 = .ok (.invokevirtual 231, 3) := by decide +kernel
theorem dX3_skip_25 : decode cX3_skip 25 = .ok (.ifCond .eq 18, 3) := by decide +kernel
theorem dX3_skip_28 : decode cX3_skip 28 = .ok (.aload_n 0, 1) := by decide +kernel
theorem dX3_skip_29 : decode cX3_skip 29 = .ok (.aload_n 0, 1) := by decide +kernel
theorem dX3_skip_30 : decode cX3_skip 30 = .ok (.getfield 74, 3) := by decide +kernel
theorem dX3_skip_33 : decode cX3_skip 33 = .ok (.getfield 237, 3) := by decide +kernel
theorem dX3_skip_36 : decode cX3_skip 36 = .ok (.iload_n 3, 1) := by decide +kernel
theorem dX3_skip_37 : decode cX3_skip 37 = .ok (.iaload, 1) := by decide +kernel
theorem dX3_skip_38 : decode cX3_skip 38 = .ok (.iload_n 2, 1) := by decide +kernel
theorem dX3_skip_39 : decode cX3_skip 39 = .ok (.iadd, 1) := by decide +kernel
theorem dX3_skip_40 : decode cX3_skip 40 = .ok (.putfield 46, 3) := by decide +kernel
theorem dX3_skip_43 : decode cX3_skip 43 = .ok (.return_, 1) := by decide +kernel
set_option maxRecDepth 20000 in
theorem ggX3_open_X7_add : GoodIn wsX3_open wsX7_add := goodIn_r _ [15, 16, 17, 18, 19, 20, 21, 22, 23, 24, 25, 26, 27, 28, 29, 30, 31, 32, 33, 34, 35, 36, 37, 80, 81, 82] (by decide +kernel) (by decide +kernel)
set_option maxRecDepth 20000 in
theorem gX3_open_X7_add : GoodIn wsX3_open (wsV RX3 215 RX7 yX7_add wsX7_add) := goodIn_app (goodIn_of _ (by decide +kernel)) ggX3_open_X7_add
set_option maxRecDepth 20000 in
theorem ggX3_open_X7_put : GoodIn wsX3_open wsX7_put := goodIn_r _ [41, 18, 17, 42, 43, 44, 14, 45, 16, 80, 81, 82] (by decide +kernel) (by decide +kernel)
set_option maxRecDepth 20000 in
theorem gX3_open_X7_put : GoodIn wsX3_open (wsV RX3 218 RX7 yX7_put wsX7_put) := goodIn_app (goodIn_of _ (by decide +kernel)) ggX3_open_X7_put
theorem dX3_open_0 : decode cX3_open 0 = .ok (.aload_n 0, 1) := by decide +kernel
theorem dX3_open_1 : decode cX3_open 1 = .ok (.getfield 74, 3) := by decide +kernel
theorem dX3_open_4 : decode cX3_open 4 = .ok (.getfield 206, 3) := by decide +kernel
theorem dX3_open_7 : decode cX3_open 7 = .ok (.iload_n 1, 1) := by decide +kernel
theorem dX3_open_8 : decode cX3_open 8 = .ok (.iaload, 1) := by decide +kernel
theorem dX3_open_9 : decode cX3_open 9 = .ok (.istore_n 2, 1) := by decide +kernel
theorem dX3_open_10 : decode cX3_open 10 = .ok (.aload_n 0, 1) := by decide +kernel
theorem dX3_open_11 : decode cX3_open 11 = .ok (.getfield 29, 3) := by decide +kernel
theorem dX3_open_14 : decode cX3_open 14 = .ok (.invokevirtual 215, 3) := by decide +kernel
theorem dX3_open_17 : decode cX3_open 17 = .ok (.istore_n 3, 1) := by decide +kernel
theorem dX3_open_18 : decode cX3_open 18 = .ok (.aload_n 0, 1) := by decide +kernel
theorem dX3_open_19 : decode cX3_open 19 = .ok (.getfield 29, 3) := by decide +kernel
theorem dX3_open_22 : decode cX3_open 22 = .ok (.iload_n 3, 1) := by decide +kernel
theorem dX3_open_23 : decode cX3_open 23 = .ok (.iconst 0, 1) := by decide +kernel
theorem dX3_open_24 : decode cX3_open 24 = .ok (.aload_n 0, 1) := by decide +kernel
theorem dX3_open_25 : decode cX3_open 25 = .ok (.getfield 49, 3) := by decide +kernel
theorem dX3_open_28 : decode cX3_open 28 = .ok (.invokevirtual 218, 3) := by decide +kernel
theorem dX3_open_31 : decode cX3_open 31 = .ok (.aload_n 0, 1) := by decide +kernel
theorem dX3_open_32 : decode cX3_open 32 = .ok (.getfield 29, 3) := by decide +kernel
theorem dX3_open_35 : decode cX3_open 35 = .ok (.iload_n 3, 1) := by decide +kernel
theorem dX3_open_36 : decode cX3_open 36 = .ok (.iconst 1, 1) := by decide +kernel
theorem dX3_open_37 : decode cX3_open 37 = .ok (.aload_n 0, 1) := by decide +kernel
theorem dX3_open_38 : decode cX3_open 38 = .ok (.getfield 74, 3) := by decide +kernel
theorem dX3_open_41 : decode cX3_open 41 = .ok (.getfield 139, 3) := by decide +kernel
theorem dX3_open_44 : decode cX3_open 44 = .ok (.iload_n 1, 1) := by decide +kernel
theorem dX3_open_45 : decode cX3_open 45 = .ok (.iaload, 1) := by decide +kernel
theorem dX3_open_46 : decode cX3_open 46 = .ok (.invokevirtual 218, 3) := by decide +kernel
theorem dX3_open_49 : decode cX3_open 49 = .ok (.aload_n 0, 1) := by decide +kernel
theorem dX3_open_50 : decode cX3_open 50 = .ok (.getfield 29, 3) := by decide +kernel
theorem dX3_open_53 : decode cX3_open 53 = .ok (.iload_n 3, 1) := by decide +kernel
theorem dX3_open_54 : decode cX3_open 54 = .ok (.iconst 2, 1) := by decide +kernel
theorem dX3_open_55 : decode cX3_open 55 = .ok (.aload_n 0, 1) := by decide +kernel
theorem dX3_open_56 : decode cX3_open 56 = .ok (.getfield 26, 3) := by decide +kernel
theorem dX3_open_59 : decode cX3_open 59 = .ok (.getfield 200, 3) := by decide +kernel
theorem dX3_open_62 : decode cX3_open 62 = .ok (.invokevirtual 218, 3) := by decide +kernel
theorem dX3_open_65 : decode cX3_open 65 = .ok (.aload_n 0, 1) := by decide +kernel
theorem dX3_open_66 : decode cX3_open 66 = .ok (.getfield 29, 3) := by decide +kernel
theorem dX3_open_69 : decode cX3_open 69 = .ok (.iload_n 3, 1) := by decide +kernel
theorem dX3_open_70 : decode cX3_open 70 = .ok (.iconst 3, 1) := by decide +kernel
theorem dX3_open_71 : decode cX3_open 71 = .ok (.aload_n 0, 1) := by decide +kernel
theorem dX3_open_72 : decode cX3_open 72 = .ok (.getfield 20, 3) := by decide +kernel
theorem dX3_open_75 : decode cX3_open 75 = .ok (.getfield 200, 3) := by decide +kernel
theorem dX3_open_78 : decode cX3_open 78 = .ok (.invokevirtual 218, 3) := by decide +kernel
theorem dX3_open_81 : decode cX3_open 81 = .ok (.aload_n 0, 1) := by decide +kernel
theorem dX3_open_82 : decode cX3_open 82 = .ok (.getfield 29, 3) := by decide +kernel
theorem dX3_open_85 : decode cX3_open 85 = .ok (.iload_n 3, 1) := by decide +kernel
theorem dX3_open_86 : decode cX3_open 86 = .ok (.iconst 4, 1) := by decide +kernel
theorem dX3_open_87 : decode cX3_open 87 = .ok (.aload_n 0, 1) := by decide +kernel
theorem dX3_open_88 : decode cX3_open 88 = .ok (.getfield 74, 3) := by decide +kernel
theorem dX3_open_91 : decode cX3_open 91 = .ok (.getfield 240, 3) := by decide +kernel
theorem dX3_open_94 : decode cX3_open 94 = .ok (.iload_n 2, 1) := by decide +kernel
theorem dX3_open_95 : decode cX3_open 95 = .ok (.iaload, 1) := by decide +kernel
theorem dX3_open_96 : decode cX3_open 96 = .ok (.aload_n 0, 1) := by decide +kernel
theorem dX3_open_97 : decode cX3_open 97 = .ok (.getfield 74, 3) := by decide +kernel
theorem dX3_open_100 : decode cX3_open 100 = .ok (.getfield 242, 3) := by decide +kernel
theorem dX3_open_103 : decode cX3_open 103 = .ok (.iload_n 2, 1) := by decide +kernel
theorem dX3_open_104 : decode cX3_open 104 = .ok (.iaload, 1) := by decide +kernel
theorem dX3_open_105 : decode cX3_open 105 = .ok (.iadd, 1) := by decide +kernel
theorem dX3_open_106 : decode cX3_open 106 = .ok (.iconst 1, 1) := by decide +kernel
theorem dX3_open_107 : decode cX3_open 107 = .ok (.isub, 1) := by decide +kernel
theorem dX3_open_108 : decode cX3_open 108 = .ok (.invokevirtual 218, 3) := by decide +kernel
theorem dX3_open_111 : decode cX3_open 111 = .ok (.return_, 1) := by decide +kernel
set_option maxRecDepth 20000 in
theorem ggX3_leave_X3_frameAt : GoodIn wsX3_leave wsX3_frameAt := goodIn_r _ [14, 15, 16, 17, 18, 19, 20, 21, 22, 23, 24, 25, 26, 27, 28, 59, 60, 61, 62, 63, 64, 65, 66, 67, 68, 69, 70, 71, 72, 73, 74, 75, 93, 94, 95] (by decide +kernel) (by decide +kernel)
set_option maxRecDepth 20000 in
theorem gX3_leave_X3_frameAt : GoodIn wsX3_leave (wsV RX3 180 RX3 yX3_frameAt wsX3_frameAt) := goodIn_app (goodIn_of _ (by decide +kernel)) ggX3_leave_X3_frameAt
set_option maxRecDepth 20000 in
theorem ggX3_leave_X3_isLoopOf : GoodIn wsX3_leave wsX3_isLoopOf := goodIn_r _ [32, 3, 17, 18, 19, 20, 21, 22, 23, 24, 25, 26, 27, 28, 59, 60, 61, 62, 63, 64, 65, 66, 67, 68, 69, 70, 71, 72, 73, 74, 75, 93, 94, 95] (by decide +kernel) (by decide +kernel)
set_option maxRecDepth 20000 in
theorem gX3_leave_X3_isLoopOf : GoodIn wsX3_leave (wsV RX3 245 RX3 yX3_isLoopOf wsX3_isLoopOf) := goodIn_app (goodIn_of _ (by decide +kernel)) ggX3_leave_X3_isLoopOf
set_option maxRecDepth 20000 in
theorem ggX3_leave_X3_trap : GoodIn wsX3_leave wsX3_trap := goodIn_r _ [36, 37, 38, 39, 40, 41, 42, 43, 59, 60, 61, 62, 63, 64, 65, 66, 67, 68, 69, 70, 71, 72, 73, 74, 75, 96, 97, 98, 99, 100, 101, 102, 103, 104, 105, 106, 107, 108, 109, 110, 111, 112, 113, 114, 115, 116, 117, 118, 119, 120, 121, 122, 123, 124, 125, 126, 127, 128] (by decide +kernel) (by decide +kernel)
set_option maxRecDepth 20000 in
theorem gX3_leave_X3_trap : GoodIn wsX3_leave (wsV RX3 120 RX3 yX3_trap wsX3_trap) := goodIn_app (goodIn_of _ (by decide +kernel)) ggX3_leave_X3_trap
set_option maxRecDepth 20000 in
theorem ggX3_leave_X7_at : GoodIn wsX3_leave wsX7_at := goodIn_r _ [21, 22, 23, 24, 25, 26, 20, 27, 28, 93, 94, 95] (by decide +kernel) (by decide +kernel)
set_option maxRecDepth 20000 in
theorem gX3_leave_X7_at : GoodIn wsX3_leave (wsV RX3 221 RX7 yX7_at wsX7_at) := goodIn_app (goodIn_of _ (by decide +kernel)) ggX3_leave_X7_at
set_option maxRecDepth 20000 in
theorem ggX3_leave_X3_goBack : GoodIn wsX3_leave wsX3_goBack := goodIn_r _ [47, 7, 4, 9, 15, 48, 49, 3, 37, 50, 43, 17, 18, 19, 20, 21, 22, 23, 24, 25, 26, 27, 28, 51, 52, 53, 54, 55, 56, 57, 13, 58, 8, 59, 60, 61, 62, 63, 64, 65, 66, 67, 68, 69, 70, 71, 72, 73, 74, 75, 93, 94, 95, 96, 97, 98, 99, 100, 101, 102, 103, 104, 105, 106, 107, 108, 109] (by decide +kernel) (by decide +kernel)
set_option maxRecDepth 20000 in
theorem gX3_leave_X3_goBack : GoodIn wsX3_leave (wsV RX3 168 RX3 yX3_goBack wsX3_goBack) := goodIn_app (goodIn_of _ (by decide +kernel)) ggX3_leave_X3_goBack
set_option maxRecDepth 20000 in
theorem ggX3_leave_X7_cut : GoodIn wsX3_leave wsX7_cut := goodIn_r _ [54, 28, 93, 94, 95] (by decide +kernel) (by decide +kernel)
set_option maxRecDepth 20000 in
theorem gX3_leave_X7_cut : GoodIn wsX3_leave (wsV RX3 111 RX7 yX7_cut wsX7_cut) := goodIn_app (goodIn_of _ (by decide +kernel)) ggX3_leave_X7_cut
theorem dX3_leave_0 : decode cX3_leave 0 = .ok (.aload_n 0, 1) := by decide +kernel
theorem dX3_leave_1 : decode cX3_leave 1 = .ok (.aload_n 0, 1) := by decide +kernel
theorem dX3_leave_2 : decode cX3_leave 2 = .ok (.getfield 74, 3) := by decide +kernel
theorem dX3_leave_5 : decode cX3_leave 5 = .ok (.getfield 139, 3) := by decide +kernel
theorem dX3_leave_8 : decode cX3_leave 8 = .ok (.iload_n 1, 1) := by decide +kernel
theorem dX3_leave_9 : decode cX3_leave 9 = .ok (.iaload, 1) := by decide +kernel
theorem dX3_leave_10 : decode cX3_leave 10 = .ok (.invokevirtual 180, 3) := by decide +kernel
theorem dX3_leave_13 : decode cX3_leave 13 = .ok (.istore_n 2, 1) := by decide +kernel
theorem dX3_leave_14 : decode cX3_leave 14 = .ok (.aload_n 0, 1) := by decide +kernel
theorem dX3_leave_15 : decode cX3_leave 15 = .ok (.getfield 29, 3) := by decide +kernel
theorem dX3_leave_18 : decode cX3_leave 18 = .ok (.getfield 200, 3) := by decide +kernel
theorem dX3_leave_21 : decode cX3_leave 21 = .ok (.iconst 1, 1) := by decide +kernel
theorem dX3_leave_22 : decode cX3_leave 22 = .ok (.isub, 1) := by decide +kernel
theorem dX3_leave_23 : decode cX3_leave 23 = .ok (.istore_n 3, 1) := by decide +kernel
theorem dX3_leave_24 : decode cX3_leave 24 = .ok (.iload_n 3, 1) := by decide +kernel
theorem dX3_leave_25 : decode cX3_leave 25 = .ok (.ifCond .lt 27, 3) := by decide +kernel
theorem dX3_leave_28 : decode cX3_leave 28 = .ok (.aload_n 0, 1) := by decide +kernel
theorem dX3_leave_29 : decode cX3_leave 29 = .ok (.iload_n 3, 1) := by decide +kernel
theorem dX3_leave_30 : decode cX3_leave 30 = .ok (.iload_n 2, 1) := by decide +kernel
theorem dX3_leave_31 : decode cX3_leave 31 = .ok (.aload_n 0, 1) := by decide +kernel
theorem dX3_leave_32 : decode cX3_leave 32 = .ok (.getfield 74, 3) := by decide +kernel
theorem dX3_leave_35 : decode cX3_leave 35 = .ok (.getfield 177, 3) := by decide +kernel
theorem dX3_leave_38 : decode cX3_leave 38 = .ok (.iload_n 1, 1) := by decide +kernel
theorem dX3_leave_39 : decode cX3_leave 39 = .ok (.iaload, 1) := by decide +kernel
theorem dX3_leave_40 : decode cX3_leave 40 = .ok (.invokevirtual 245, 3) := by decide +kernel
theorem dX3_leave_43 : decode cX3_leave 43 = .ok (.ifCond .ne 9, 3) := by decide +kernel
theorem dX3_leave_46 : decode cX3_leave 46 = .ok (.iinc 3 (-1), 3) := by decide +kernel
theorem dX3_leave_49 : decode cX3_leave 49 = .ok (.goto (-25), 3) := by decide +kernel
theorem dX3_leave_52 : decode cX3_leave 52 = .ok (.iload_n 3, 1) := by decide +kernel
theorem dX3_leave_53 : decode cX3_leave 53 = .ok (.ifCond .ge 18, 3) := by decide +kernel
theorem dX3_leave_56 : decode cX3_leave 56 = .ok (.aload_n 0, 1) := by decide +kernel
theorem dX3_leave_57 : decode cX3_leave 57 = .ok (.iconst 5, 1) := by decide +kernel
theorem dX3_leave_58 : decode cX3_leave 58 = .ok (.aload_n 0, 1) := by decide +kernel
theorem dX3_leave_59 : decode cX3_leave 59 = .ok (.getfield 74, 3) := by decide +kernel
theorem dX3_leave_62 : decode cX3_leave 62 = .ok (.getfield 206, 3) := by decide +kernel
theorem dX3_leave_65 : decode cX3_leave 65 = .ok (.iload_n 1, 1) := by decide +kernel
theorem dX3_leave_66 : decode cX3_leave 66 = .ok (.iaload, 1) := by decide +kernel
theorem dX3_leave_67 : decode cX3_leave 67 = .ok (.invokevirtual 120, 3) := by decide +kernel
theorem dX3_leave_70 : decode cX3_leave 70 = .ok (.return_, 1) := by decide +kernel
theorem dX3_leave_71 : decode cX3_leave 71 = .ok (.aload_n 0, 1) := by decide +kernel
theorem dX3_leave_72 : decode cX3_leave 72 = .ok (.getfield 29, 3) := by decide +kernel
theorem dX3_leave_75 : decode cX3_leave 75 = .ok (.iload_n 3, 1) := by decide +kernel
theorem dX3_leave_76 : decode cX3_leave 76 = .ok (.iconst 2, 1) := by decide +kernel
theorem dX3_leave_77 : decode cX3_leave 77 = .ok (.invokevirtual 221, 3) := by decide +kernel
theorem dX3_leave_80 : decode cX3_leave 80 = .ok (.istore 4, 2) := by decide +kernel
theorem dX3_leave_82 : decode cX3_leave 82 = .ok (.aload_n 0, 1) := by decide +kernel
theorem dX3_leave_83 : decode cX3_leave 83 = .ok (.getfield 26, 3) := by decide +kernel
theorem dX3_leave_86 : decode cX3_leave 86 = .ok (.getfield 200, 3) := by decide +kernel
theorem dX3_leave_89 : decode cX3_leave 89 = .ok (.istore 5, 2) := by decide +kernel
theorem dX3_leave_91 : decode cX3_leave 91 = .ok (.iload 5, 2) := by decide +kernel
theorem dX3_leave_93 : decode cX3_leave 93 = .ok (.iload 4, 2) := by decide +kernel
theorem dX3_leave_95 : decode cX3_leave 95 = .ok (.if_icmp .le 13, 3) := by decide +kernel
theorem dX3_leave_98 : decode cX3_leave 98 = .ok (.aload_n 0, 1) := by decide +kernel
theorem dX3_leave_99 : decode cX3_leave 99 = .ok (.invokevirtual 168, 3) := by decide +kernel
theorem dX3_leave_102 : decode cX3_leave 102 = .ok (.iinc 5 (-1), 3) := by decide +kernel
theorem dX3_leave_105 : decode cX3_leave 105 = .ok (.goto (-14), 3) := by decide +kernel
theorem dX3_leave_108 : decode cX3_leave 108 = .ok (.aload_n 0, 1) := by decide +kernel
theorem dX3_leave_109 : decode cX3_leave 109 = .ok (.getfield 20, 3) := by decide +kernel
theorem dX3_leave_112 : decode cX3_leave 112 = .ok (.aload_n 0, 1) := by decide +kernel
theorem dX3_leave_113 : decode cX3_leave 113 = .ok (.getfield 29, 3) := by decide +kernel
theorem dX3_leave_116 : decode cX3_leave 116 = .ok (.iload_n 3, 1) := by decide +kernel
theorem dX3_leave_117 : decode cX3_leave 117 = .ok (.iconst 3, 1) := by decide +kernel
theorem dX3_leave_118 : decode cX3_leave 118 = .ok (.invokevirtual 221, 3) := by decide +kernel
theorem dX3_leave_121 : decode cX3_leave 121 = .ok (.invokevirtual 111, 3) := by decide +kernel
theorem dX3_leave_124 : decode cX3_leave 124 = .ok (.aload_n 0, 1) := by decide +kernel
theorem dX3_leave_125 : decode cX3_leave 125 = .ok (.getfield 29, 3) := by decide +kernel
theorem dX3_leave_128 : decode cX3_leave 128 = .ok (.iload_n 3, 1) := by decide +kernel
theorem dX3_leave_129 : decode cX3_leave 129 = .ok (.iconst 1, 1) := by decide +kernel
theorem dX3_leave_130 : decode cX3_leave 130 = .ok (.iadd, 1) := by decide +kernel
theorem dX3_leave_131 : decode cX3_leave 131 = .ok (.invokevirtual 111, 3) := by decide +kernel
theorem dX3_leave_134 : decode cX3_leave 134 = .ok (.aload_n 0, 1) := by decide +kernel
theorem dX3_leave_135 : decode cX3_leave 135 = .ok (.aload_n 0, 1) := by decide +kernel
theorem dX3_leave_136 : decode cX3_leave 136 = .ok (.getfield 29, 3) := by decide +kernel
theorem dX3_leave_139 : decode cX3_leave 139 = .ok (.iload_n 3, 1) := by decide +kernel
theorem dX3_leave_140 : decode cX3_leave 140 = .ok (.iconst 4, 1) := by decide +kernel
theorem dX3_leave_141 : decode cX3_leave 141 = .ok (.invokevirtual 221, 3) := by decide +kernel
theorem dX3_leave_144 : decode cX3_leave 144 = .ok (.putfield 46, 3) := by decide +kernel
theorem dX3_leave_147 : decode cX3_leave 147 = .ok (.return_, 1) := by decide +kernel
set_option maxRecDepth 20000 in
theorem ggX3_isLoopOf_X7_at : GoodIn wsX3_isLoopOf wsX7_at := goodIn_r _ [6, 7, 8, 9, 10, 11, 5, 12, 13, 31, 32, 33] (by decide +kernel) (by decide +kernel)
set_option maxRecDepth 20000 in
theorem gX3_isLoopOf_X7_at : GoodIn wsX3_isLoopOf (wsV RX3 221 RX7 yX7_at wsX7_at) := goodIn_app (goodIn_of _ (by decide +kernel)) ggX3_isLoopOf_X7_at
theorem dX3_isLoopOf_0 : decode cX3_isLoopOf 0 = .ok (.aload_n 0, 1) := by decide +kernel
theorem dX3_isLoopOf_1 : decode cX3_isLoopOf 1 = .ok (.getfield 29, 3) := by decide +kernel
theorem dX3_isLoopOf_4 : decode cX3_isLoopOf 4 = .ok (.iload_n 1, 1) := by decide +kernel
theorem dX3_isLoopOf_5 : decode cX3_isLoopOf 5 = .ok (.iconst 0, 1) := by decide +kernel
theorem dX3_isLoopOf_6 : decode cX3_isLoopOf 6 = .ok (.invokevirtual 221, 3) := by decide +kernel
theorem dX3_isLoopOf_9 : decode cX3_isLoopOf 9 = .ok (.iload_n 2, 1) := by decide +kernel
theorem dX3_isLoopOf_10 : decode cX3_isLoopOf 10 = .ok (.if_icmp .ne 20, 3) := by decide +kernel
theorem dX3_isLoopOf_13 : decode cX3_isLoopOf 13 = .ok (.aload_n 0, 1) := by decide +kernel
theorem dX3_isLoopOf_14 : decode cX3_isLoopOf 14 = .ok (.getfield 29, 3) := by decide +kernel
theorem dX3_isLoopOf_17 : decode cX3_isLoopOf 17 = .ok (.iload_n 1, 1) := by decide +kernel
theorem dX3_isLoopOf_18 : decode cX3_isLoopOf 18 = .ok (.iconst 1, 1) := by decide +kernel
theorem dX3_isLoopOf_19 : decode cX3_isLoopOf 19 = .ok (.invokevirtual 221, 3) := by decide +kernel
theorem dX3_isLoopOf_22 : decode cX3_isLoopOf 22 = .ok (.iload_n 3, 1) := by decide +kernel
theorem dX3_isLoopOf_23 : decode cX3_isLoopOf 23 = .ok (.if_icmp .ne 7, 3) := by decide +kernel
theorem dX3_isLoopOf_26 : decode cX3_isLoopOf 26 = .ok (.iconst 1, 1) := by decide +kernel
theorem dX3_isLoopOf_27 : decode cX3_isLoopOf 27 = .ok (.goto 4, 3) := by decide +kernel
theorem dX3_isLoopOf_30 : decode cX3_isLoopOf 30 = .ok (.iconst 0, 1) := by decide +kernel
theorem dX3_isLoopOf_31 : decode cX3_isLoopOf 31 = .ok (.ireturn, 1) := by decide +kernel
set_option maxRecDepth 20000 in
theorem ggX3_go_X3_trap : GoodIn wsX3_go wsX3_trap := goodIn_r _ [21, 22, 23, 24, 8, 25, 26, 27, 112, 113, 114, 115, 116, 117, 118, 119, 120, 121, 122, 123, 124, 125, 126, 127, 128, 175, 176, 177, 178, 179, 180, 181, 182, 183, 184, 185, 186, 187, 188, 153, 154, 155, 156, 157, 158, 159, 160, 161, 162, 163, 164, 165, 166, 167, 168, 169, 170, 171] (by decide +kernel) (by decide +kernel)
set_option maxRecDepth 20000 in
theorem gX3_go_X3_trap : GoodIn wsX3_go (wsV RX3 120 RX3 yX3_trap wsX3_trap) := goodIn_app (goodIn_of _ (by decide +kernel)) ggX3_go_X3_trap
set_option maxRecDepth 20000 in
theorem ggX3_go_X3_frameAt : GoodIn wsX3_go wsX3_frameAt := goodIn_r _ [31, 32, 33, 34, 35, 36, 37, 38, 39, 40, 41, 42, 43, 44, 45, 112, 113, 114, 115, 116, 117, 118, 119, 120, 121, 122, 123, 124, 125, 126, 127, 128, 172, 173, 174] (by decide +kernel) (by decide +kernel)
set_option maxRecDepth 20000 in
theorem gX3_go_X3_frameAt : GoodIn wsX3_go (wsV RX3 180 RX3 yX3_frameAt wsX3_frameAt) := goodIn_app (goodIn_of _ (by decide +kernel)) ggX3_go_X3_frameAt
set_option maxRecDepth 20000 in
theorem ggX3_go_X7_at : GoodIn wsX3_go wsX7_at := goodIn_r _ [38, 39, 40, 41, 42, 43, 37, 44, 45, 172, 173, 174] (by decide +kernel) (by decide +kernel)
set_option maxRecDepth 20000 in
theorem gX3_go_X7_at : GoodIn wsX3_go (wsV RX3 221 RX7 yX7_at wsX7_at) := goodIn_app (goodIn_of _ (by decide +kernel)) ggX3_go_X7_at
set_option maxRecDepth 20000 in
theorem ggX3_go_X7_cut : GoodIn wsX3_go wsX7_cut := goodIn_r _ [49, 45, 172, 173, 174] (by decide +kernel) (by decide +kernel)
set_option maxRecDepth 20000 in
theorem gX3_go_X7_cut : GoodIn wsX3_go (wsV RX3 111 RX7 yX7_cut wsX7_cut) := goodIn_app (goodIn_of _ (by decide +kernel)) ggX3_go_X7_cut
set_option maxRecDepth 20000 in
theorem ggX3_go_X3_keepReturn : GoodIn wsX3_go wsX3_keepReturn := goodIn_r _ [53, 11, 32, 3, 10, 12, 54, 55, 56, 37, 57, 45, 40, 39, 58, 59, 60, 61, 62, 63, 64, 65, 66, 67, 68, 69, 70, 71, 72, 73, 74, 75, 76, 77, 78, 79, 80, 41, 42, 43, 44, 112, 113, 114, 115, 116, 117, 118, 119, 120, 121, 122, 123, 124, 125, 126, 127, 128, 172, 173, 174] (by decide +kernel) (by decide +kernel)
set_option maxRecDepth 20000 in
theorem gX3_go_X3_keepReturn : GoodIn wsX3_go (wsV RX3 89 RX3 yX3_keepReturn wsX3_keepReturn) := goodIn_app (goodIn_of _ (by decide +kernel)) ggX3_go_X3_keepReturn
set_option maxRecDepth 20000 in
theorem ggX3_go_X3_call : GoodIn wsX3_go wsX3_call := goodIn_r _ [84, 3, 11, 12, 15, 22, 85, 86, 14, 8, 87, 88, 89, 90, 91, 92, 71, 93, 94, 33, 32, 95, 1, 96, 13, 34, 35, 36, 37, 38, 39, 40, 41, 42, 43, 44, 45, 97, 98, 99, 100, 101, 102, 103, 54, 55, 56, 57, 58, 59, 60, 61, 62, 63, 64, 65, 66, 67, 68, 69, 70, 72, 73, 74, 75, 76, 77, 78, 79, 80, 104, 105, 106, 20, 107, 108, 109, 110, 111, 46, 47, 48, 49, 112, 113, 114, 115, 116, 117, 118, 119, 120, 121, 122, 123, 124, 125, 126, 127, 128, 172, 173, 174, 175, 176, 177, 178, 179, 180, 181, 182, 183, 184, 185, 186, 187, 188, 153, 154, 155, 156, 157, 158, 159, 160, 161, 162, 163, 164, 165, 166, 167, 168, 169, 170, 171, 189, 190, 191, 192, 193, 194, 195, 196, 197, 198, 199, 200, 129, 130, 131, 132, 133, 134, 135, 136, 137, 138, 139, 140, 141, 142, 143, 144, 145] (by decide +kernel) (by decide +kernel)
set_option maxRecDepth 20000 in
theorem gX3_go_X3_call : GoodIn wsX3_go (wsV RX3 93 RX3 yX3_call wsX3_call) := goodIn_app (goodIn_of _ (by decide +kernel)) ggX3_go_X3_call
theorem dX3_go_0 : decode cX3_go 0 = .ok (.aload_n 0, 1) := by decide +kernel
theorem dX3_go_1 : decode cX3_go 1 = .ok (.getfield 74, 3) := by decide +kernel
theorem dX3_go_4 : decode cX3_go 4 = .ok (.getfield 206, 3) := by decide +kernel
theorem dX3_go_7 : decode cX3_go 7 = .ok (.iload_n 1, 1) := by decide +kernel
theorem dX3_go_8 : decode cX3_go 8 = .ok (.iaload, 1) := by decide +kernel
theorem dX3_go_9 : decode cX3_go 9 = .ok (.istore_n 2, 1) := by decide +kernel
theorem dX3_go_10 : decode cX3_go 10 = .ok (.aload_n 0, 1) := by decide +kernel
theorem dX3_go_11 : decode cX3_go 11 = .ok (.getfield 55, 3) := by decide +kernel
theorem dX3_go_14 : decode cX3_go 14 = .ok (.aload_n 0, 1) := by decide +kernel
theorem dX3_go_15 : decode cX3_go 15 = .ok (.getfield 43, 3) := by decide +kernel
theorem dX3_go_18 : decode cX3_go 18 = .ok (.if_icmp .lt 11, 3) := by decide +kernel
theorem dX3_go_21 : decode cX3_go 21 = .ok (.aload_n 0, 1) := by decide +kernel
theorem dX3_go_22 : decode cX3_go 22 = .ok (.bipush 7, 2) := by decide +kernel
theorem dX3_go_24 : decode cX3_go 24 = .ok (.iload_n 2, 1) := by decide +kernel
theorem dX3_go_25 : decode cX3_go 25 = .ok (.invokevirtual 120, 3) := by decide +kernel
theorem dX3_go_28 : decode cX3_go 28 = .ok (.return_, 1) := by decide +kernel
theorem dX3_go_29 : decode cX3_go 29 = .ok (.aload_n 0, 1) := by decide +kernel
theorem dX3_go_30 : decode cX3_go 30 = .ok (.aload_n 0, 1) := by decide +kernel
theorem dX3_go_31 : decode cX3_go 31 = .ok (.getfield 74, 3) := by decide +kernel
theorem dX3_go_34 : decode cX3_go 34 = .ok (.getfield 139, 3) := by decide +kernel
theorem dX3_go_37 : decode cX3_go 37 = .ok (.iload_n 1, 1) := by decide +kernel
theorem dX3_go_38 : decode cX3_go 38 = .ok (.iaload, 1) := by decide +kernel
theorem dX3_go_39 : decode cX3_go 39 = .ok (.invokevirtual 180, 3) := by decide +kernel
theorem dX3_go_42 : decode cX3_go 42 = .ok (.istore_n 3, 1) := by decide +kernel
theorem dX3_go_43 : decode cX3_go 43 = .ok (.aload_n 0, 1) := by decide +kernel
theorem dX3_go_44 : decode cX3_go 44 = .ok (.getfield 66, 3) := by decide +kernel
theorem dX3_go_47 : decode cX3_go 47 = .ok (.getfield 249, 3) := by decide +kernel
theorem dX3_go_50 : decode cX3_go 50 = .ok (.iload_n 2, 1) := by decide +kernel
theorem dX3_go_51 : decode cX3_go 51 = .ok (.iaload, 1) := by decide +kernel
theorem dX3_go_52 : decode cX3_go 52 = .ok (.iconst (-1), 1) := by decide +kernel
theorem dX3_go_53 : decode cX3_go 53 = .ok (.if_icmp .eq 80, 3) := by decide +kernel
theorem dX3_go_56 : decode cX3_go 56 = .ok (.aload_n 0, 1) := by decide +kernel
theorem dX3_go_57 : decode cX3_go 57 = .ok (.getfield 70, 3) := by decide +kernel
theorem dX3_go_60 : decode cX3_go 60 = .ok (.getfield 254, 3) := by decide +kernel
theorem dX3_go_63 : decode cX3_go 63 = .ok (.aload_n 0, 1) := by decide +kernel
theorem dX3_go_64 : decode cX3_go 64 = .ok (.getfield 66, 3) := by decide +kernel
theorem dX3_go_67 : decode cX3_go 67 = .ok (.getfield 249, 3) := by decide +kernel
theorem dX3_go_70 : decode cX3_go 70 = .ok (.iload_n 2, 1) := by decide +kernel
theorem dX3_go_71 : decode cX3_go 71 = .ok (.iaload, 1) := by decide +kernel
theorem dX3_go_72 : decode cX3_go 72 = .ok (.baload, 1) := by decide +kernel
theorem dX3_go_73 : decode cX3_go 73 = .ok (.ifCond .eq 60, 3) := by decide +kernel
theorem dX3_go_76 : decode cX3_go 76 = .ok (.aload_n 0, 1) := by decide +kernel
theorem dX3_go_77 : decode cX3_go 77 = .ok (.getfield 29, 3) := by decide +kernel
theorem dX3_go_80 : decode cX3_go 80 = .ok (.aload_n 0, 1) := by decide +kernel
theorem dX3_go_81 : decode cX3_go 81 = .ok (.getfield 26, 3) := by decide +kernel
theorem dX3_go_84 : decode cX3_go 84 = .ok (.aload_n 0, 1) := by decide +kernel
theorem dX3_go_85 : decode cX3_go 85 = .ok (.getfield 26, 3) := by decide +kernel
theorem dX3_go_88 : decode cX3_go 88 = .ok (.getfield 200, 3) := by decide +kernel
theorem dX3_go_91 : decode cX3_go 91 = .ok (.iconst 1, 1) := by decide +kernel
theorem dX3_go_92 : decode cX3_go 92 = .ok (.isub, 1) := by decide +kernel
theorem dX3_go_93 : decode cX3_go 93 = .ok (.iconst 4, 1) := by decide +kernel
theorem dX3_go_94 : decode cX3_go 94 = .ok (.invokevirtual 221, 3) := by decide +kernel
theorem dX3_go_97 : decode cX3_go 97 = .ok (.invokevirtual 111, 3) := by decide +kernel
theorem dX3_go_100 : decode cX3_go 100 = .ok (.aload_n 0, 1) := by decide +kernel
theorem dX3_go_101 : decode cX3_go 101 = .ok (.aload_n 0, 1) := by decide +kernel
theorem dX3_go_102 : decode cX3_go 102 = .ok (.getfield 46, 3) := by decide +kernel
theorem dX3_go_105 : decode cX3_go 105 = .ok (.aload_n 0, 1) := by decide +kernel
theorem dX3_go_106 : decode cX3_go 106 = .ok (.getfield 39, 3) := by decide +kernel
theorem dX3_go_109 : decode cX3_go 109 = .ok (.iconst 2, 1) := by decide +kernel
theorem dX3_go_110 : decode cX3_go 110 = .ok (.iand, 1) := by decide +kernel
theorem dX3_go_111 : decode cX3_go 111 = .ok (.ifCond .eq 12, 3) := by decide +kernel
theorem dX3_go_114 : decode cX3_go 114 = .ok (.aload_n 0, 1) := by decide +kernel
theorem dX3_go_115 : decode cX3_go 115 = .ok (.getfield 52, 3) := by decide +kernel
theorem dX3_go_118 : decode cX3_go 118 = .ok (.iconst 1, 1) := by decide +kernel
theorem dX3_go_119 : decode cX3_go 119 = .ok (.isub, 1) := by decide +kernel
theorem dX3_go_120 : decode cX3_go 120 = .ok (.goto 7, 3) := by decide +kernel
theorem dX3_go_123 : decode cX3_go 123 = .ok (.aload_n 0, 1) := by decide +kernel
theorem dX3_go_124 : decode cX3_go 124 = .ok (.getfield 52, 3) := by decide +kernel
theorem dX3_go_127 : decode cX3_go 127 = .ok (.invokevirtual 89, 3) := by decide +kernel
theorem dX3_go_130 : decode cX3_go 130 = .ok (.goto 15, 3) := by decide +kernel
theorem dX3_go_133 : decode cX3_go 133 = .ok (.aload_n 0, 1) := by decide +kernel
theorem dX3_go_134 : decode cX3_go 134 = .ok (.aload_n 0, 1) := by decide +kernel
theorem dX3_go_135 : decode cX3_go 135 = .ok (.getfield 46, 3) := by decide +kernel
theorem dX3_go_138 : decode cX3_go 138 = .ok (.aload_n 0, 1) := by decide +kernel
theorem dX3_go_139 : decode cX3_go 139 = .ok (.getfield 52, 3) := by decide +kernel
theorem dX3_go_142 : decode cX3_go 142 = .ok (.invokevirtual 89, 3) := by decide +kernel
theorem dX3_go_145 : decode cX3_go 145 = .ok (.aload_n 0, 1) := by decide +kernel
theorem dX3_go_146 : decode cX3_go 146 = .ok (.aload_n 0, 1) := by decide +kernel
theorem dX3_go_147 : decode cX3_go 147 = .ok (.getfield 74, 3) := by decide +kernel
theorem dX3_go_150 : decode cX3_go 150 = .ok (.getfield 177, 3) := by decide +kernel
theorem dX3_go_153 : decode cX3_go 153 = .ok (.iload_n 1, 1) := by decide +kernel
theorem dX3_go_154 : decode cX3_go 154 = .ok (.iaload, 1) := by decide +kernel
theorem dX3_go_155 : decode cX3_go 155 = .ok (.iload_n 3, 1) := by decide +kernel
theorem dX3_go_156 : decode cX3_go 156 = .ok (.invokevirtual 93, 3) := by decide +kernel
theorem dX3_go_159 : decode cX3_go 159 = .ok (.return_, 1) := by decide +kernel
set_option maxRecDepth 20000 in
theorem ggX3_goByProc_X7_at : GoodIn wsX3_goByProc wsX7_at := goodIn_r _ [15, 16, 17, 18, 19, 20, 14, 21, 22, 163, 164, 165] (by decide +kernel) (by decide +kernel)
set_option maxRecDepth 20000 in
theorem gX3_goByProc_X7_at : GoodIn wsX3_goByProc (wsV RX3 221 RX7 yX7_at wsX7_at) := goodIn_app (goodIn_of _ (by decide +kernel)) ggX3_goByProc_X7_at
set_option maxRecDepth 20000 in
theorem ggX3_goByProc_X1_has : GoodIn wsX3_goByProc wsX1_has := goodIn_r _ [27, 28, 151, 152, 153, 154, 155, 156, 157, 158, 159, 160, 161, 162] (by decide +kernel) (by decide +kernel)
set_option maxRecDepth 20000 in
theorem gX3_goByProc_X1_has : GoodIn wsX3_goByProc (wsV RX3 231 RX1 yX1_has wsX1_has) := goodIn_app (goodIn_of _ (by decide +kernel)) ggX3_goByProc_X1_has
set_option maxRecDepth 20000 in
theorem ggX3_goByProc_X3_trap : GoodIn wsX3_goByProc wsX3_trap := goodIn_r _ [33, 34, 35, 36, 37, 38, 39, 40, 117, 118, 119, 120, 121, 122, 123, 124, 125, 126, 127, 128, 129, 130, 131, 132, 133, 166, 167, 168, 169, 170, 171, 172, 173, 174, 175, 176, 177, 178, 179, 180, 181, 182, 183, 184, 185, 186, 187, 188, 189, 190, 191, 192, 193, 194, 195, 196, 197, 198] (by decide +kernel) (by decide +kernel)
set_option maxRecDepth 20000 in
theorem gX3_goByProc_X3_trap : GoodIn wsX3_goByProc (wsV RX3 120 RX3 yX3_trap wsX3_trap) := goodIn_app (goodIn_of _ (by decide +kernel)) ggX3_goByProc_X3_trap
set_option maxRecDepth 20000 in
theorem ggX3_goByProc_X5_argumentsOf : GoodIn wsX3_goByProc wsX5_argumentsOf := goodIn_r _ [45, 46, 47, 199, 200, 201, 202, 203, 204, 205] (by decide +kernel) (by decide +kernel)
set_option maxRecDepth 20000 in
theorem gX3_goByProc_X5_argumentsOf : GoodIn wsX3_goByProc (wsV RX3 258 RX5 yX5_argumentsOf wsX5_argumentsOf) := goodIn_app (goodIn_of _ (by decide +kernel)) ggX3_goByProc_X5_argumentsOf
set_option maxRecDepth 20000 in
theorem ggX3_goByProc_X3_keepReturn : GoodIn wsX3_goByProc wsX3_keepReturn := goodIn_r _ [51, 52, 53, 7, 54, 55, 56, 57, 58, 14, 59, 22, 17, 16, 60, 61, 62, 63, 64, 65, 66, 67, 68, 69, 70, 71, 72, 73, 74, 75, 76, 77, 78, 79, 80, 81, 82, 18, 19, 20, 21, 117, 118, 119, 120, 121, 122, 123, 124, 125, 126, 127, 128, 129, 130, 131, 132, 133, 163, 164, 165] (by decide +kernel) (by decide +kernel)
set_option maxRecDepth 20000 in
theorem gX3_goByProc_X3_keepReturn : GoodIn wsX3_goByProc (wsV RX3 89 RX3 yX3_keepReturn wsX3_keepReturn) := goodIn_app (goodIn_of _ (by decide +kernel)) ggX3_goByProc_X3_keepReturn
set_option maxRecDepth 20000 in
theorem ggX3_goByProc_X3_call : GoodIn wsX3_goByProc wsX3_call := goodIn_r _ [86, 7, 52, 55, 10, 34, 87, 88, 89, 37, 90, 4, 91, 92, 93, 94, 73, 95, 96, 97, 53, 3, 1, 98, 9, 11, 12, 13, 14, 15, 16, 17, 18, 19, 20, 21, 22, 99, 100, 101, 102, 103, 104, 105, 56, 57, 58, 59, 60, 61, 62, 63, 64, 65, 66, 67, 68, 69, 70, 71, 72, 74, 75, 76, 77, 78, 79, 80, 81, 82, 106, 107, 108, 32, 109, 6, 110, 111, 112, 113, 114, 115, 116, 117, 118, 119, 120, 121, 122, 123, 124, 125, 126, 127, 128, 129, 130, 131, 132, 133, 163, 164, 165, 166, 167, 168, 169, 170, 171, 172, 173, 174, 175, 176, 177, 178, 179, 180, 181, 182, 183, 184, 185, 186, 187, 188, 189, 190, 191, 192, 193, 194, 195, 196, 197, 198, 151, 152, 153, 154, 155, 156, 157, 158, 159, 160, 161, 162, 134, 135, 136, 137, 138, 139, 140, 141, 142, 143, 144, 145, 146, 147, 148, 149, 150] (by decide +kernel) (by decide +kernel)
set_option maxRecDepth 20000 in
theorem gX3_goByProc_X3_call : GoodIn wsX3_goByProc (wsV RX3 93 RX3 yX3_call wsX3_call) := goodIn_app (goodIn_of _ (by decide +kernel)) ggX3_goByProc_X3_call
theorem dX3_goByProc_0 : decode cX3_goByProc 0 = .ok (.aload_n 0, 1) := by decide +kernel
theorem dX3_goByProc_1 : decode cX3_goByProc 1 = .ok (.getfield 74, 3) := by decide +kernel
theorem dX3_goByProc_4 : decode cX3_goByProc 4 = .ok (.getfield 206, 3) := by decide +kernel
theorem dX3_goByProc_7 : decode cX3_goByProc 7 = .ok (.iload_n 2, 1) := by decide +kernel
theorem dX3_goByProc_8 : decode cX3_goByProc 8 = .ok (.iaload, 1) := by decide +kernel
theorem dX3_goByProc_9 : decode cX3_goByProc 9 = .ok (.istore_n 3, 1) := by decide +kernel
theorem dX3_goByProc_10 : decode cX3_goByProc 10 = .ok (.aload_n 0, 1) := by decide +kernel
theorem dX3_goByProc_11 : decode cX3_goByProc 11 = .ok (.getfield 14, 3) := by decide +kernel
theorem dX3_goByProc_14 : decode cX3_goByProc 14 = .ok (.iload_n 1, 1) := by decide +kernel
theorem dX3_goByProc_15 : decode cX3_goByProc 15 = .ok (.iconst 0, 1) := by decide +kernel
theorem dX3_goByProc_16 : decode cX3_goByProc 16 = .ok (.invokevirtual 221, 3) := by decide +kernel
theorem dX3_goByProc_19 : decode cX3_goByProc 19 = .ok (.istore 4, 2) := by decide +kernel
theorem dX3_goByProc_21 : decode cX3_goByProc 21 = .ok (.iload 4, 2) := by decide +kernel
theorem dX3_goByProc_23 : decode cX3_goByProc 23 = .ok (.iconst (-1), 1) := by decide +kernel
theorem dX3_goByProc_24 : decode cX3_goByProc 24 = .ok (.if_icmp .eq 15, 3) := by decide +kernel
theorem dX3_goByProc_27 : decode cX3_goByProc 27 = .ok (.aload_n 0, 1) := by decide +kernel
theorem dX3_goByProc_28 : decode cX3_goByProc 28 = .ok (.getfield 62, 3) := by decide +kernel
theorem dX3_goByProc_31 : decode cX3_goByProc 31 = .ok (.iload 4, 2) := by decide +kernel
theorem dX3_goByProc_33 : decode cX3_goByProc 33 = .ok (.invokevirtual 231, 3) := by decide +kernel
theorem dX3_goByProc_36 : decode cX3_goByProc 36 = .ok (.ifCond .ne 12, 3) := by decide +kernel
theorem dX3_goByProc_39 : decode cX3_goByProc 39 = .ok (.aload_n 0, 1) := by decide +kernel
theorem dX3_goByProc_40 : decode cX3_goByProc 40 = .ok (.iconst 3, 1) := by decide +kernel
theorem dX3_goByProc_41 : decode cX3_goByProc 41 = .ok (.iload_n 3, 1) := by decide +kernel
theorem dX3_goByProc_42 : decode cX3_goByProc 42 = .ok (.invokevirtual 120, 3) := by decide +kernel
theorem dX3_goByProc_45 : decode cX3_goByProc 45 = .ok (.goto 81, 3) := by decide +kernel
theorem dX3_goByProc_48 : decode cX3_goByProc 48 = .ok (.aload_n 0, 1) := by decide +kernel
theorem dX3_goByProc_49 : decode cX3_goByProc 49 = .ok (.getfield 66, 3) := by decide +kernel
theorem dX3_goByProc_52 : decode cX3_goByProc 52 = .ok (.iload_n 3, 1) := by decide +kernel
theorem dX3_goByProc_53 : decode cX3_goByProc 53 = .ok (.invokevirtual 258, 3) := by decide +kernel
theorem dX3_goByProc_56 : decode cX3_goByProc 56 = .ok (.aload_n 0, 1) := by decide +kernel
theorem dX3_goByProc_57 : decode cX3_goByProc 57 = .ok (.getfield 62, 3) := by decide +kernel
theorem dX3_goByProc_60 : decode cX3_goByProc 60 = .ok (.getfield 261, 3) := by decide +kernel
theorem dX3_goByProc_63 : decode cX3_goByProc 63 = .ok (.iload 4, 2) := by decide +kernel
theorem dX3_goByProc_65 : decode cX3_goByProc 65 = .ok (.iaload, 1) := by decide +kernel
theorem dX3_goByProc_66 : decode cX3_goByProc 66 = .ok (.if_icmp .eq 12, 3) := by decide +kernel
theorem dX3_goByProc_69 : decode cX3_goByProc 69 = .ok (.aload_n 0, 1) := by decide +kernel
theorem dX3_goByProc_70 : decode cX3_goByProc 70 = .ok (.iconst 4, 1) := by decide +kernel
theorem dX3_goByProc_71 : decode cX3_goByProc 71 = .ok (.iload_n 3, 1) := by decide +kernel
theorem dX3_goByProc_72 : decode cX3_goByProc 72 = .ok (.invokevirtual 120, 3) := by decide +kernel
theorem dX3_goByProc_75 : decode cX3_goByProc 75 = .ok (.goto 51, 3) := by decide +kernel
theorem dX3_goByProc_78 : decode cX3_goByProc 78 = .ok (.aload_n 0, 1) := by decide +kernel
theorem dX3_goByProc_79 : decode cX3_goByProc 79 = .ok (.getfield 55, 3) := by decide +kernel
theorem dX3_goByProc_82 : decode cX3_goByProc 82 = .ok (.aload_n 0, 1) := by decide +kernel
theorem dX3_goByProc_83 : decode cX3_goByProc 83 = .ok (.getfield 43, 3) := by decide +kernel
theorem dX3_goByProc_86 : decode cX3_goByProc 86 = .ok (.if_icmp .lt 13, 3) := by decide +kernel
theorem dX3_goByProc_89 : decode cX3_goByProc 89 = .ok (.aload_n 0, 1) := by decide +kernel
theorem dX3_goByProc_90 : decode cX3_goByProc 90 = .ok (.bipush 7, 2) := by decide +kernel
theorem dX3_goByProc_92 : decode cX3_goByProc 92 = .ok (.iload_n 3, 1) := by decide +kernel
theorem dX3_goByProc_93 : decode cX3_goByProc 93 = .ok (.invokevirtual 120, 3) := by decide +kernel
theorem dX3_goByProc_96 : decode cX3_goByProc 96 = .ok (.goto 30, 3) := by decide +kernel
theorem dX3_goByProc_99 : decode cX3_goByProc 99 = .ok (.aload_n 0, 1) := by decide +kernel
theorem dX3_goByProc_100 : decode cX3_goByProc 100 = .ok (.aload_n 0, 1) := by decide +kernel
theorem dX3_goByProc_101 : decode cX3_goByProc 101 = .ok (.getfield 46, 3) := by decide +kernel
theorem dX3_goByProc_104 : decode cX3_goByProc 104 = .ok (.aload_n 0, 1) := by decide +kernel
theorem dX3_goByProc_105 : decode cX3_goByProc 105 = .ok (.getfield 52, 3) := by decide +kernel
theorem dX3_goByProc_108 : decode cX3_goByProc 108 = .ok (.invokevirtual 89, 3) := by decide +kernel
theorem dX3_goByProc_111 : decode cX3_goByProc 111 = .ok (.aload_n 0, 1) := by decide +kernel
theorem dX3_goByProc_112 : decode cX3_goByProc 112 = .ok (.iload 4, 2) := by decide +kernel
theorem dX3_goByProc_114 : decode cX3_goByProc 114 = .ok (.aload_n 0, 1) := by decide +kernel
theorem dX3_goByProc_115 : decode cX3_goByProc 115 = .ok (.getfield 14, 3) := by decide +kernel
theorem dX3_goByProc_118 : decode cX3_goByProc 118 = .ok (.iload_n 1, 1) := by decide +kernel
theorem dX3_goByProc_119 : decode cX3_goByProc 119 = .ok (.iconst 1, 1) := by decide +kernel
theorem dX3_goByProc_120 : decode cX3_goByProc 120 = .ok (.invokevirtual 221, 3) := by decide +kernel
theorem dX3_goByProc_123 : decode cX3_goByProc 123 = .ok (.invokevirtual 93, 3) := by decide +kernel
theorem dX3_goByProc_126 : decode cX3_goByProc 126 = .ok (.return_, 1) := by decide +kernel
set_option maxRecDepth 20000 in
theorem ggX3_keepReturn_X7_add : GoodIn wsX3_keepReturn wsX7_add := goodIn_r _ [10, 11, 12, 13, 14, 15, 16, 17, 18, 19, 20, 21, 22, 23, 24, 25, 26, 27, 28, 29, 30, 31, 32, 58, 59, 60] (by decide +kernel) (by decide +kernel)
set_option maxRecDepth 20000 in
theorem gX3_keepReturn_X7_add : GoodIn wsX3_keepReturn (wsV RX3 215 RX7 yX7_add wsX7_add) := goodIn_app (goodIn_of _ (by decide +kernel)) ggX3_keepReturn_X7_add
set_option maxRecDepth 20000 in
theorem ggX3_keepReturn_X7_put : GoodIn wsX3_keepReturn wsX7_put := goodIn_r _ [36, 13, 12, 37, 38, 39, 9, 40, 11, 58, 59, 60] (by decide +kernel) (by decide +kernel)
set_option maxRecDepth 20000 in
theorem gX3_keepReturn_X7_put : GoodIn wsX3_keepReturn (wsV RX3 218 RX7 yX7_put wsX7_put) := goodIn_app (goodIn_of _ (by decide +kernel)) ggX3_keepReturn_X7_put
theorem dX3_keepReturn_0 : decode cX3_keepReturn 0 = .ok (.aload_n 0, 1) := by decide +kernel
theorem dX3_keepReturn_1 : decode cX3_keepReturn 1 = .ok (.getfield 26, 3) := by decide +kernel
theorem dX3_keepReturn_4 : decode cX3_keepReturn 4 = .ok (.invokevirtual 215, 3) := by decide +kernel
theorem dX3_keepReturn_7 : decode cX3_keepReturn 7 = .ok (.istore_n 3, 1) := by decide +kernel
theorem dX3_keepReturn_8 : decode cX3_keepReturn 8 = .ok (.aload_n 0, 1) := by decide +kernel
theorem dX3_keepReturn_9 : decode cX3_keepReturn 9 = .ok (.getfield 26, 3) := by decide +kernel
theorem dX3_keepReturn_12 : decode cX3_keepReturn 12 = .ok (.iload_n 3, 1) := by decide +kernel
theorem dX3_keepReturn_13 : decode cX3_keepReturn 13 = .ok (.iconst 0, 1) := by decide +kernel
theorem dX3_keepReturn_14 : decode cX3_keepReturn 14 = .ok (.iload_n 1, 1) := by decide +kernel
theorem dX3_keepReturn_15 : decode cX3_keepReturn 15 = .ok (.invokevirtual 218, 3) := by decide +kernel
theorem dX3_keepReturn_18 : decode cX3_keepReturn 18 = .ok (.aload_n 0, 1) := by decide +kernel
theorem dX3_keepReturn_19 : decode cX3_keepReturn 19 = .ok (.getfield 26, 3) := by decide +kernel
theorem dX3_keepReturn_22 : decode cX3_keepReturn 22 = .ok (.iload_n 3, 1) := by decide +kernel
theorem dX3_keepReturn_23 : decode cX3_keepReturn 23 = .ok (.iconst 1, 1) := by decide +kernel
theorem dX3_keepReturn_24 : decode cX3_keepReturn 24 = .ok (.aload_n 0, 1) := by decide +kernel
theorem dX3_keepReturn_25 : decode cX3_keepReturn 25 = .ok (.getfield 49, 3) := by decide +kernel
theorem dX3_keepReturn_28 : decode cX3_keepReturn 28 = .ok (.invokevirtual 218, 3) := by decide +kernel
theorem dX3_keepReturn_31 : decode cX3_keepReturn 31 = .ok (.aload_n 0, 1) := by decide +kernel
theorem dX3_keepReturn_32 : decode cX3_keepReturn 32 = .ok (.getfield 26, 3) := by decide +kernel
theorem dX3_keepReturn_35 : decode cX3_keepReturn 35 = .ok (.iload_n 3, 1) := by decide +kernel
theorem dX3_keepReturn_36 : decode cX3_keepReturn 36 = .ok (.iconst 2, 1) := by decide +kernel
theorem dX3_keepReturn_37 : decode cX3_keepReturn 37 = .ok (.iload_n 2, 1) := by decide +kernel
theorem dX3_keepReturn_38 : decode cX3_keepReturn 38 = .ok (.invokevirtual 218, 3) := by decide +kernel
theorem dX3_keepReturn_41 : decode cX3_keepReturn 41 = .ok (.aload_n 0, 1) := by decide +kernel
theorem dX3_keepReturn_42 : decode cX3_keepReturn 42 = .ok (.getfield 26, 3) := by decide +kernel
theorem dX3_keepReturn_45 : decode cX3_keepReturn 45 = .ok (.iload_n 3, 1) := by decide +kernel
theorem dX3_keepReturn_46 : decode cX3_keepReturn 46 = .ok (.iconst 3, 1) := by decide +kernel
theorem dX3_keepReturn_47 : decode cX3_keepReturn 47 = .ok (.aload_n 0, 1) := by decide +kernel
theorem dX3_keepReturn_48 : decode cX3_keepReturn 48 = .ok (.getfield 55, 3) := by decide +kernel
theorem dX3_keepReturn_51 : decode cX3_keepReturn 51 = .ok (.invokevirtual 218, 3) := by decide +kernel
theorem dX3_keepReturn_54 : decode cX3_keepReturn 54 = .ok (.aload_n 0, 1) := by decide +kernel
theorem dX3_keepReturn_55 : decode cX3_keepReturn 55 = .ok (.getfield 26, 3) := by decide +kernel
theorem dX3_keepReturn_58 : decode cX3_keepReturn 58 = .ok (.iload_n 3, 1) := by decide +kernel
theorem dX3_keepReturn_59 : decode cX3_keepReturn 59 = .ok (.iconst 4, 1) := by decide +kernel
theorem dX3_keepReturn_60 : decode cX3_keepReturn 60 = .ok (.aload_n 0, 1) := by decide +kernel
theorem dX3_keepReturn_61 : decode cX3_keepReturn 61 = .ok (.getfield 29, 3) := by decide +kernel
theorem dX3_keepReturn_64 : decode cX3_keepReturn 64 = .ok (.getfield 200, 3) := by decide +kernel
theorem dX3_keepReturn_67 : decode cX3_keepReturn 67 = .ok (.invokevirtual 218, 3) := by decide +kernel
theorem dX3_keepReturn_70 : decode cX3_keepReturn 70 = .ok (.return_, 1) := by decide +kernel
set_option maxRecDepth 20000 in
theorem ggX3_goBack_X7_at : GoodIn wsX3_goBack wsX7_at := goodIn_r _ [15, 16, 17, 18, 19, 20, 14, 21, 22, 50, 51, 52] (by decide +kernel) (by decide +kernel)
set_option maxRecDepth 20000 in
theorem gX3_goBack_X7_at : GoodIn wsX3_goBack (wsV RX3 221 RX7 yX7_at wsX7_at) := goodIn_app (goodIn_of _ (by decide +kernel)) ggX3_goBack_X7_at
set_option maxRecDepth 20000 in
theorem ggX3_goBack_X7_cut : GoodIn wsX3_goBack wsX7_cut := goodIn_r _ [26, 22, 50, 51, 52] (by decide +kernel) (by decide +kernel)
set_option maxRecDepth 20000 in
theorem gX3_goBack_X7_cut : GoodIn wsX3_goBack (wsV RX3 111 RX7 yX7_cut wsX7_cut) := goodIn_app (goodIn_of _ (by decide +kernel)) ggX3_goBack_X7_cut
set_option maxRecDepth 20000 in
theorem ggX3_goBack_X3_pop : GoodIn wsX3_goBack wsX3_pop := goodIn_r _ [31, 32, 2, 11, 12, 13, 14, 15, 16, 17, 18, 19, 20, 21, 22, 23, 24, 25, 26, 33, 34, 35, 36, 37, 38, 39, 40, 41, 42, 43, 44, 45, 46, 47, 48, 49, 50, 51, 52] (by decide +kernel) (by decide +kernel)
set_option maxRecDepth 20000 in
theorem gX3_goBack_X3_pop : GoodIn wsX3_goBack (wsV RX3 189 RX3 yX3_pop wsX3_pop) := goodIn_app (goodIn_of _ (by decide +kernel)) ggX3_goBack_X3_pop
theorem dX3_goBack_0 : decode cX3_goBack 0 = .ok (.aload_n 0, 1) := by decide +kernel
theorem dX3_goBack_1 : decode cX3_goBack 1 = .ok (.getfield 26, 3) := by decide +kernel
theorem dX3_goBack_4 : decode cX3_goBack 4 = .ok (.getfield 200, 3) := by decide +kernel
theorem dX3_goBack_7 : decode cX3_goBack 7 = .ok (.iconst 1, 1) := by decide +kernel
theorem dX3_goBack_8 : decode cX3_goBack 8 = .ok (.isub, 1) := by decide +kernel
theorem dX3_goBack_9 : decode cX3_goBack 9 = .ok (.istore_n 1, 1) := by decide +kernel
theorem dX3_goBack_10 : decode cX3_goBack 10 = .ok (.aload_n 0, 1) := by decide +kernel
theorem dX3_goBack_11 : decode cX3_goBack 11 = .ok (.aload_n 0, 1) := by decide +kernel
theorem dX3_goBack_12 : decode cX3_goBack 12 = .ok (.getfield 26, 3) := by decide +kernel
theorem dX3_goBack_15 : decode cX3_goBack 15 = .ok (.iload_n 1, 1) := by decide +kernel
theorem dX3_goBack_16 : decode cX3_goBack 16 = .ok (.iconst 0, 1) := by decide +kernel
theorem dX3_goBack_17 : decode cX3_goBack 17 = .ok (.invokevirtual 221, 3) := by decide +kernel
theorem dX3_goBack_20 : decode cX3_goBack 20 = .ok (.putfield 46, 3) := by decide +kernel
theorem dX3_goBack_23 : decode cX3_goBack 23 = .ok (.aload_n 0, 1) := by decide +kernel
theorem dX3_goBack_24 : decode cX3_goBack 24 = .ok (.aload_n 0, 1) := by decide +kernel
theorem dX3_goBack_25 : decode cX3_goBack 25 = .ok (.getfield 26, 3) := by decide +kernel
theorem dX3_goBack_28 : decode cX3_goBack 28 = .ok (.iload_n 1, 1) := by decide +kernel
theorem dX3_goBack_29 : decode cX3_goBack 29 = .ok (.iconst 1, 1) := by decide +kernel
theorem dX3_goBack_30 : decode cX3_goBack 30 = .ok (.invokevirtual 221, 3) := by decide +kernel
theorem dX3_goBack_33 : decode cX3_goBack 33 = .ok (.putfield 49, 3) := by decide +kernel
theorem dX3_goBack_36 : decode cX3_goBack 36 = .ok (.aload_n 0, 1) := by decide +kernel
theorem dX3_goBack_37 : decode cX3_goBack 37 = .ok (.aload_n 0, 1) := by decide +kernel
theorem dX3_goBack_38 : decode cX3_goBack 38 = .ok (.getfield 26, 3) := by decide +kernel
theorem dX3_goBack_41 : decode cX3_goBack 41 = .ok (.iload_n 1, 1) := by decide +kernel
theorem dX3_goBack_42 : decode cX3_goBack 42 = .ok (.iconst 2, 1) := by decide +kernel
theorem dX3_goBack_43 : decode cX3_goBack 43 = .ok (.invokevirtual 221, 3) := by decide +kernel
theorem dX3_goBack_46 : decode cX3_goBack 46 = .ok (.putfield 52, 3) := by decide +kernel
theorem dX3_goBack_49 : decode cX3_goBack 49 = .ok (.aload_n 0, 1) := by decide +kernel
theorem dX3_goBack_50 : decode cX3_goBack 50 = .ok (.aload_n 0, 1) := by decide +kernel
theorem dX3_goBack_51 : decode cX3_goBack 51 = .ok (.getfield 26, 3) := by decide +kernel
theorem dX3_goBack_54 : decode cX3_goBack 54 = .ok (.iload_n 1, 1) := by decide +kernel
theorem dX3_goBack_55 : decode cX3_goBack 55 = .ok (.iconst 3, 1) := by decide +kernel
theorem dX3_goBack_56 : decode cX3_goBack 56 = .ok (.invokevirtual 221, 3) := by decide +kernel
theorem dX3_goBack_59 : decode cX3_goBack 59 = .ok (.putfield 55, 3) := by decide +kernel
theorem dX3_goBack_62 : decode cX3_goBack 62 = .ok (.aload_n 0, 1) := by decide +kernel
theorem dX3_goBack_63 : decode cX3_goBack 63 = .ok (.getfield 29, 3) := by decide +kernel
theorem dX3_goBack_66 : decode cX3_goBack 66 = .ok (.aload_n 0, 1) := by decide +kernel
theorem dX3_goBack_67 : decode cX3_goBack 67 = .ok (.getfield 26, 3) := by decide +kernel
theorem dX3_goBack_70 : decode cX3_goBack 70 = .ok (.iload_n 1, 1) := by decide +kernel
theorem dX3_goBack_71 : decode cX3_goBack 71 = .ok (.iconst 4, 1) := by decide +kernel
theorem dX3_goBack_72 : decode cX3_goBack 72 = .ok (.invokevirtual 221, 3) := by decide +kernel
theorem dX3_goBack_75 : decode cX3_goBack 75 = .ok (.invokevirtual 111, 3) := by decide +kernel
theorem dX3_goBack_78 : decode cX3_goBack 78 = .ok (.aload_n 0, 1) := by decide +kernel
theorem dX3_goBack_79 : decode cX3_goBack 79 = .ok (.getfield 26, 3) := by decide +kernel
theorem dX3_goBack_82 : decode cX3_goBack 82 = .ok (.iload_n 1, 1) := by decide +kernel
theorem dX3_goBack_83 : decode cX3_goBack 83 = .ok (.invokevirtual 111, 3) := by decide +kernel
theorem dX3_goBack_86 : decode cX3_goBack 86 = .ok (.iload_n 1, 1) := by decide +kernel
theorem dX3_goBack_87 : decode cX3_goBack 87 = .ok (.ifCond .ne 19, 3) := by decide +kernel
theorem dX3_goBack_90 : decode cX3_goBack 90 = .ok (.aload_n 0, 1) := by decide +kernel
theorem dX3_goBack_91 : decode cX3_goBack 91 = .ok (.getfield 35, 3) := by decide +kernel
theorem dX3_goBack_94 : decode cX3_goBack 94 = .ok (.aload_n 0, 1) := by decide +kernel
theorem dX3_goBack_95 : decode cX3_goBack 95 = .ok (.invokevirtual 189, 3) := by decide +kernel
theorem dX3_goBack_98 : decode cX3_goBack 98 = .ok (.putfield 264, 3) := by decide +kernel
theorem dX3_goBack_101 : decode cX3_goBack 101 = .ok (.aload_n 0, 1) := by decide +kernel
theorem dX3_goBack_102 : decode cX3_goBack 102 = .ok (.iconst 1, 1) := by decide +kernel
theorem dX3_goBack_103 : decode cX3_goBack 103 = .ok (.putfield 58, 3) := by decide +kernel
theorem dX3_goBack_106 : decode cX3_goBack 106 = .ok (.return_, 1) := by decide +kernel
set_option maxRecDepth 20000 in
theorem ggX3_call_X7_at : GoodIn wsX3_call wsX7_at := goodIn_r _ [29, 30, 31, 32, 33, 34, 28, 35, 36, 100, 101, 102] (by decide +kernel) (by decide +kernel)
set_option maxRecDepth 20000 in
theorem gX3_call_X7_at : GoodIn wsX3_call (wsV RX3 221 RX7 yX7_at wsX7_at) := goodIn_app (goodIn_of _ (by decide +kernel)) ggX3_call_X7_at
set_option maxRecDepth 20000 in
theorem ggX3_call_J6_bitCount_0f7a4 : GoodIn wsX3_call wsJ6_bitCount_0f7a4 := goodIn_r _ [40, 41, 42, 43] (by decide +kernel) (by decide +kernel)
set_option maxRecDepth 20000 in
theorem gX3_call_J6_bitCount_0f7a4 : GoodIn wsX3_call (va_wsS RX3 276 yJ6_bitCount_0f7a4 wsJ6_bitCount_0f7a4) := goodIn_app (goodIn_of _ (by decide +kernel)) ggX3_call_J6_bitCount_0f7a4
set_option maxRecDepth 20000 in
theorem ggX3_call_X7_add : GoodIn wsX3_call wsX7_add := goodIn_r _ [47, 36, 31, 30, 48, 49, 50, 51, 52, 53, 54, 55, 56, 57, 58, 59, 60, 16, 61, 62, 63, 64, 65, 100, 101, 102] (by decide +kernel) (by decide +kernel)
set_option maxRecDepth 20000 in
theorem gX3_call_X7_add : GoodIn wsX3_call (wsV RX3 215 RX7 yX7_add wsX7_add) := goodIn_app (goodIn_of _ (by decide +kernel)) ggX3_call_X7_add
set_option maxRecDepth 20000 in
theorem ggX3_call_X7_put : GoodIn wsX3_call wsX7_put := goodIn_r _ [69, 30, 31, 32, 33, 34, 28, 35, 36, 100, 101, 102] (by decide +kernel) (by decide +kernel)
set_option maxRecDepth 20000 in
theorem gX3_call_X7_put : GoodIn wsX3_call (wsV RX3 218 RX7 yX7_put wsX7_put) := goodIn_app (goodIn_of _ (by decide +kernel)) ggX3_call_X7_put
set_option maxRecDepth 20000 in
theorem ggX3_call_X3_layPlaces : GoodIn wsX3_call wsX3_layPlaces := goodIn_r _ [74, 21, 3, 11, 12, 75, 76, 77, 78, 44, 45, 46, 28, 47, 36, 31, 30, 48, 49, 50, 51, 52, 53, 54, 55, 56, 57, 58, 59, 60, 16, 61, 62, 63, 64, 65, 25, 26, 27, 29, 32, 33, 34, 35, 66, 67, 68, 69, 79, 80, 81, 82, 83, 84, 85, 86, 87, 88, 89, 90, 91, 92, 93, 94, 95, 96, 97, 98, 99, 100, 101, 102, 136, 137, 138, 139, 140, 141, 142, 143, 144, 145, 146, 147] (by decide +kernel) (by decide +kernel)
set_option maxRecDepth 20000 in
theorem gX3_call_X3_layPlaces : GoodIn wsX3_call (wsV RX3 295 RX3 yX3_layPlaces wsX3_layPlaces) := goodIn_app (goodIn_of _ (by decide +kernel)) ggX3_call_X3_layPlaces
theorem dX3_call_0 : decode cX3_call 0 = .ok (.aload_n 0, 1) := by decide +kernel
theorem dX3_call_1 : decode cX3_call 1 = .ok (.dup, 1) := by decide +kernel
theorem dX3_call_2 : decode cX3_call 2 = .ok (.getfield 55, 3) := by decide +kernel
theorem dX3_call_5 : decode cX3_call 5 = .ok (.iconst 1, 1) := by decide +kernel
theorem dX3_call_6 : decode cX3_call 6 = .ok (.iadd, 1) := by decide +kernel
theorem dX3_call_7 : decode cX3_call 7 = .ok (.putfield 55, 3) := by decide +kernel
theorem dX3_call_10 : decode cX3_call 10 = .ok (.aload_n 0, 1) := by decide +kernel
theorem dX3_call_11 : decode cX3_call 11 = .ok (.aload_n 0, 1) := by decide +kernel
theorem dX3_call_12 : decode cX3_call 12 = .ok (.getfield 26, 3) := by decide +kernel
theorem dX3_call_15 : decode cX3_call 15 = .ok (.aload_n 0, 1) := by decide +kernel
theorem dX3_call_16 : decode cX3_call 16 = .ok (.getfield 26, 3) := by decide +kernel
theorem dX3_call_19 : decode cX3_call 19 = .ok (.getfield 200, 3) := by decide +kernel
theorem dX3_call_22 : decode cX3_call 22 = .ok (.iconst 1, 1) := by decide +kernel
theorem dX3_call_23 : decode cX3_call 23 = .ok (.isub, 1) := by decide +kernel
theorem dX3_call_24 : decode cX3_call 24 = .ok (.iconst 2, 1) := by decide +kernel
theorem dX3_call_25 : decode cX3_call 25 = .ok (.invokevirtual 221, 3) := by decide +kernel
theorem dX3_call_28 : decode cX3_call 28 = .ok (.iconst 1, 1) := by decide +kernel
theorem dX3_call_29 : decode cX3_call 29 = .ok (.iadd, 1) := by decide +kernel
theorem dX3_call_30 : decode cX3_call 30 = .ok (.putfield 52, 3) := by decide +kernel
theorem dX3_call_33 : decode cX3_call 33 = .ok (.aload_n 0, 1) := by decide +kernel
theorem dX3_call_34 : decode cX3_call 34 = .ok (.getfield 35, 3) := by decide +kernel
theorem dX3_call_37 : decode cX3_call 37 = .ok (.dup, 1) := by decide +kernel
theorem dX3_call_38 : decode cX3_call 38 = .ok (.getfield 267, 3) := by decide +kernel
theorem dX3_call_41 : decode cX3_call 41 = .ok (.iconst 1, 1) := by decide +kernel
theorem dX3_call_42 : decode cX3_call 42 = .ok (.iadd, 1) := by decide +kernel
theorem dX3_call_43 : decode cX3_call 43 = .ok (.putfield 267, 3) := by decide +kernel
theorem dX3_call_46 : decode cX3_call 46 = .ok (.aload_n 0, 1) := by decide +kernel
theorem dX3_call_47 : decode cX3_call 47 = .ok (.getfield 35, 3) := by decide +kernel
theorem dX3_call_50 : decode cX3_call 50 = .ok (.dup, 1) := by decide +kernel
theorem dX3_call_51 : decode cX3_call 51 = .ok (.getfield 270, 3) := by decide +kernel
theorem dX3_call_54 : decode cX3_call 54 = .ok (.aload_n 0, 1) := by decide +kernel
theorem dX3_call_55 : decode cX3_call 55 = .ok (.getfield 39, 3) := by decide +kernel
theorem dX3_call_58 : decode cX3_call 58 = .ok (.iconst 4, 1) := by decide +kernel
theorem dX3_call_59 : decode cX3_call 59 = .ok (.iand, 1) := by decide +kernel
theorem dX3_call_60 : decode cX3_call 60 = .ok (.ifCond .eq 18, 3) := by decide +kernel
theorem dX3_call_63 : decode cX3_call 63 = .ok (.aload_n 0, 1) := by decide +kernel
theorem dX3_call_64 : decode cX3_call 64 = .ok (.getfield 70, 3) := by decide +kernel
theorem dX3_call_67 : decode cX3_call 67 = .ok (.getfield 273, 3) := by decide +kernel
theorem dX3_call_70 : decode cX3_call 70 = .ok (.iload_n 1, 1) := by decide +kernel
theorem dX3_call_71 : decode cX3_call 71 = .ok (.iaload, 1) := by decide +kernel
theorem dX3_call_72 : decode cX3_call 72 = .ok (.invokestatic 276, 3) := by decide +kernel
theorem dX3_call_75 : decode cX3_call 75 = .ok (.goto 12, 3) := by decide +kernel
theorem dX3_call_78 : decode cX3_call 78 = .ok (.aload_n 0, 1) := by decide +kernel
theorem dX3_call_79 : decode cX3_call 79 = .ok (.getfield 62, 3) := by decide +kernel
theorem dX3_call_82 : decode cX3_call 82 = .ok (.getfield 281, 3) := by decide +kernel
theorem dX3_call_85 : decode cX3_call 85 = .ok (.iload_n 1, 1) := by decide +kernel
theorem dX3_call_86 : decode cX3_call 86 = .ok (.iaload, 1) := by decide +kernel
theorem dX3_call_87 : decode cX3_call 87 = .ok (.iadd, 1) := by decide +kernel
theorem dX3_call_88 : decode cX3_call 88 = .ok (.putfield 270, 3) := by decide +kernel
theorem dX3_call_91 : decode cX3_call 91 = .ok (.aload_n 0, 1) := by decide +kernel
theorem dX3_call_92 : decode cX3_call 92 = .ok (.getfield 35, 3) := by decide +kernel
theorem dX3_call_95 : decode cX3_call 95 = .ok (.aload_n 0, 1) := by decide +kernel
theorem dX3_call_96 : decode cX3_call 96 = .ok (.getfield 35, 3) := by decide +kernel
theorem dX3_call_99 : decode cX3_call 99 = .ok (.getfield 284, 3) := by decide +kernel
theorem dX3_call_102 : decode cX3_call 102 = .ok (.aload_n 0, 1) := by decide +kernel
theorem dX3_call_103 : decode cX3_call 103 = .ok (.getfield 52, 3) := by decide +kernel
theorem dX3_call_106 : decode cX3_call 106 = .ok (.invokestatic 287, 3) := by decide +kernel
theorem dX3_call_109 : decode cX3_call 109 = .ok (.putfield 284, 3) := by decide +kernel
theorem dX3_call_112 : decode cX3_call 112 = .ok (.aload_n 0, 1) := by decide +kernel
theorem dX3_call_113 : decode cX3_call 113 = .ok (.getfield 35, 3) := by decide +kernel
theorem dX3_call_116 : decode cX3_call 116 = .ok (.aload_n 0, 1) := by decide +kernel
theorem dX3_call_117 : decode cX3_call 117 = .ok (.getfield 35, 3) := by decide +kernel
theorem dX3_call_120 : decode cX3_call 120 = .ok (.getfield 292, 3) := by decide +kernel
theorem dX3_call_123 : decode cX3_call 123 = .ok (.aload_n 0, 1) := by decide +kernel
theorem dX3_call_124 : decode cX3_call 124 = .ok (.getfield 55, 3) := by decide +kernel
theorem dX3_call_127 : decode cX3_call 127 = .ok (.invokestatic 287, 3) := by decide +kernel
theorem dX3_call_130 : decode cX3_call 130 = .ok (.putfield 292, 3) := by decide +kernel
theorem dX3_call_133 : decode cX3_call 133 = .ok (.aload_n 0, 1) := by decide +kernel
theorem dX3_call_134 : decode cX3_call 134 = .ok (.aload_n 0, 1) := by decide +kernel
theorem dX3_call_135 : decode cX3_call 135 = .ok (.getfield 23, 3) := by decide +kernel
theorem dX3_call_138 : decode cX3_call 138 = .ok (.invokevirtual 215, 3) := by decide +kernel
theorem dX3_call_141 : decode cX3_call 141 = .ok (.putfield 49, 3) := by decide +kernel
theorem dX3_call_144 : decode cX3_call 144 = .ok (.aload_n 0, 1) := by decide +kernel
theorem dX3_call_145 : decode cX3_call 145 = .ok (.getfield 23, 3) := by decide +kernel
theorem dX3_call_148 : decode cX3_call 148 = .ok (.aload_n 0, 1) := by decide +kernel
theorem dX3_call_149 : decode cX3_call 149 = .ok (.getfield 49, 3) := by decide +kernel
theorem dX3_call_152 : decode cX3_call 152 = .ok (.iconst 0, 1) := by decide +kernel
theorem dX3_call_153 : decode cX3_call 153 = .ok (.iload_n 1, 1) := by decide +kernel
theorem dX3_call_154 : decode cX3_call 154 = .ok (.invokevirtual 218, 3) := by decide +kernel
theorem dX3_call_157 : decode cX3_call 157 = .ok (.aload_n 0, 1) := by decide +kernel
theorem dX3_call_158 : decode cX3_call 158 = .ok (.getfield 23, 3) := by decide +kernel
theorem dX3_call_161 : decode cX3_call 161 = .ok (.aload_n 0, 1) := by decide +kernel
theorem dX3_call_162 : decode cX3_call 162 = .ok (.getfield 49, 3) := by decide +kernel
theorem dX3_call_165 : decode cX3_call 165 = .ok (.iconst 1, 1) := by decide +kernel
theorem dX3_call_166 : decode cX3_call 166 = .ok (.iload_n 2, 1) := by decide +kernel
theorem dX3_call_167 : decode cX3_call 167 = .ok (.invokevirtual 218, 3) := by decide +kernel
theorem dX3_call_170 : decode cX3_call 170 = .ok (.aload_n 0, 1) := by decide +kernel
theorem dX3_call_171 : decode cX3_call 171 = .ok (.getfield 23, 3) := by decide +kernel
theorem dX3_call_174 : decode cX3_call 174 = .ok (.aload_n 0, 1) := by decide +kernel
theorem dX3_call_175 : decode cX3_call 175 = .ok (.getfield 49, 3) := by decide +kernel
theorem dX3_call_178 : decode cX3_call 178 = .ok (.iconst 2, 1) := by decide +kernel
theorem dX3_call_179 : decode cX3_call 179 = .ok (.aload_n 0, 1) := by decide +kernel
theorem dX3_call_180 : decode cX3_call 180 = .ok (.getfield 14, 3) := by decide +kernel
theorem dX3_call_183 : decode cX3_call 183 = .ok (.getfield 200, 3) := by decide +kernel
theorem dX3_call_186 : decode cX3_call 186 = .ok (.invokevirtual 218, 3) := by decide +kernel
theorem dX3_call_189 : decode cX3_call 189 = .ok (.aload_n 0, 1) := by decide +kernel
theorem dX3_call_190 : decode cX3_call 190 = .ok (.iload_n 1, 1) := by decide +kernel
theorem dX3_call_191 : decode cX3_call 191 = .ok (.invokevirtual 295, 3) := by decide +kernel
theorem dX3_call_194 : decode cX3_call 194 = .ok (.aload_n 0, 1) := by decide +kernel
theorem dX3_call_195 : decode cX3_call 195 = .ok (.aload_n 0, 1) := by decide +kernel
theorem dX3_call_196 : decode cX3_call 196 = .ok (.getfield 74, 3) := by decide +kernel
