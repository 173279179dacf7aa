set_option maxRecDepth 100000 in
theorem gL_X4_init : GoodIn lw_tbl wsX4_init := goodIn_r _ [29, 30, 31, 32, 33, 34, 19, 112, 47, 48, 20, 113, 60, 61, 22, 114, 83, 84, 23, 115, 36, 37, 38, 46, 39, 40, 49, 50, 51, 52, 56, 53, 54, 21, 55, 63, 64, 65, 82, 66, 67, 68, 69, 70, 86, 87, 88, 89, 90, 91, 92, 93, 94, 111, 95, 41, 43, 116, 118, 120, 122, 57, 71, 73, 75, 77, 79, 96, 98, 100, 102, 104, 106, 108] rfl (by decide +kernel)
set_option maxRecDepth 100000 in
theorem gL_X5_init : GoodIn lw_tbl wsX5_init := goodIn_r _ [386, 387, 31, 32, 82, 388, 390, 111, 391, 392, 393, 394, 395, 396, 397, 398, 399, 402, 403, 404, 405, 407, 409, 411, 413, 415, 417, 419, 421, 423, 425, 427, 429, 431, 433, 435, 437] rfl (by decide +kernel)
set_option maxRecDepth 100000 in
theorem gL_X4_number : GoodIn lw_tbl (wsV RL 13 RX4 yX4_number wsX4_number) := goodIn_r _ [125, 126, 127, 18, 128, 112, 129, 130, 18, 131, 132, 133, 134, 19, 135, 40, 39, 116, 118, 120, 122, 41, 43] rfl (by decide +kernel)
set_option maxRecDepth 100000 in
theorem gL_X5_number : GoodIn lw_tbl (wsV RL 17 RX5 yX5_number wsX5_number) := goodIn_r _ [440, 441, 442, 24, 443, 389, 390, 391, 444, 445, 24, 446, 447, 448, 449, 405, 407, 409, 411, 413, 415, 417, 419, 421, 423, 425, 427, 429, 431, 433, 435, 437] rfl (by decide +kernel)
set_option maxRecDepth 100000 in
theorem gL_X4_over : GoodIn lw_tbl (wsV RL 18 RX4 yX4_over wsX4_over) := goodIn_r _ [136, 137, 138, 18, 139, 112, 114, 140, 141, 142, 19, 143, 39, 144, 145, 146, 147, 40, 148, 149, 150, 151, 152, 153, 154, 22, 155, 66, 156, 158, 0, 159, 70, 160, 162, 1, 163, 67, 68, 69, 116, 118, 120, 122, 41, 43, 71, 73, 75, 77, 79] rfl (by decide +kernel)
set_option maxRecDepth 100000 in
theorem gL_X5_over : GoodIn lw_tbl (wsV RL 22 RX5 yX5_over wsX5_over) := goodIn_r _ [450, 451, 452, 24, 453, 391, 454, 456, 9, 24, 457, 389, 447, 448, 449, 405, 407, 409, 411, 413, 415, 417, 419, 421, 423, 425, 427, 429, 431, 433, 435, 437] rfl (by decide +kernel)
set_option maxRecDepth 100000 in
theorem gL_X4_ask : GoodIn lw_tbl (wsV RL 23 RX4 yX4_ask wsX4_ask) := goodIn_r _ [164, 165, 166, 18, 167, 115, 113, 129, 130, 18, 131, 168, 169, 170, 171, 172, 173, 174, 175, 176, 177, 178, 179, 23, 180, 181, 182, 183, 184, 90, 89, 185, 186, 187, 20, 188, 56, 189, 190, 191, 192, 193, 194, 195, 196, 198, 2, 199, 200, 201, 202, 203, 205, 206, 207, 209, 210, 211, 212, 213, 214, 215, 93, 216, 218, 3, 219, 91, 92, 95, 221, 222, 223, 224, 225, 227, 4, 228, 229, 231, 5, 232, 112, 233, 234, 235, 236, 237, 238, 239, 240, 241, 140, 141, 142, 19, 143, 39, 144, 145, 146, 147, 40, 242, 243, 244, 245, 246, 247, 248, 249, 250, 251, 252, 253, 254, 255, 256, 257, 94, 258, 260, 6, 261, 116, 118, 120, 122, 96, 98, 100, 102, 104, 106, 108, 57, 41, 43] rfl (by decide +kernel)
set_option maxRecDepth 100000 in
theorem gL_X5_ask : GoodIn lw_tbl (wsV RL 27 RX5 yX5_ask wsX5_ask) := goodIn_r _ [458, 459, 460, 24, 461, 393, 392, 400, 394, 395, 396, 397, 444, 445, 24, 446, 447, 448, 449, 462, 464, 10, 465, 399, 466, 468, 11, 469, 388, 470, 472, 12, 473, 474, 476, 13, 477, 478, 480, 14, 481, 391, 398, 390, 482, 484, 15, 485, 405, 407, 409, 411, 413, 415, 417, 419, 421, 423, 425, 427, 429, 431, 433, 435, 437] rfl (by decide +kernel)
set_option maxRecDepth 100000 in
theorem gL_X4_lock : GoodIn lw_tbl (wsV RL 28 RX4 yX4_lock wsX4_lock) := goodIn_r _ [262, 263, 264, 18, 265, 112, 115, 114, 140, 141, 142, 19, 143, 39, 144, 145, 146, 147, 40, 266, 267, 18, 268, 177, 178, 179, 23, 180, 181, 182, 183, 184, 90, 89, 269, 270, 271, 22, 272, 70, 68, 67, 69, 273, 274, 275, 276, 66, 277, 278, 279, 280, 160, 162, 1, 163, 116, 118, 120, 122, 41, 43, 96, 98, 100, 102, 104, 106, 108, 71, 73, 75, 77, 79] rfl (by decide +kernel)
set_option maxRecDepth 100000 in
theorem gL_X5_lock : GoodIn lw_tbl (wsV RL 32 RX5 yX5_lock wsX5_lock) := goodIn_r _ [486, 487, 488, 24, 489, 393, 390, 401, 402, 403, 404, 454, 456, 9, 24, 457, 389, 391, 447, 448, 449, 490, 492, 16, 493, 405, 407, 409, 411, 413, 415, 417, 419, 421, 423, 425, 427, 429, 431, 433, 435, 437] rfl (by decide +kernel)
set_option maxRecDepth 100000 in
theorem gL_X4_await : GoodIn lw_tbl (wsV RL 33 RX4 yX4_await wsX4_await) := goodIn_r _ [281, 282, 283, 18, 284, 112, 115, 129, 130, 18, 131, 285, 145, 146, 19, 147, 40, 177, 178, 179, 23, 180, 181, 182, 183, 184, 90, 89, 140, 141, 142, 143, 39, 144, 225, 227, 4, 228, 209, 210, 211, 229, 231, 5, 232, 233, 234, 235, 236, 237, 91, 238, 239, 240, 241, 242, 243, 244, 245, 95, 246, 247, 248, 249, 92, 250, 251, 252, 253, 93, 196, 198, 2, 199, 113, 200, 201, 202, 20, 203, 56, 205, 206, 207, 189, 190, 191, 212, 213, 214, 215, 216, 218, 3, 219, 286, 287, 288, 289, 258, 260, 6, 261, 116, 118, 120, 122, 41, 43, 96, 98, 100, 102, 104, 106, 108, 57] rfl (by decide +kernel)
set_option maxRecDepth 100000 in
theorem gL_X5_await : GoodIn lw_tbl (wsV RL 37 RX5 yX5_await wsX5_await) := goodIn_r _ [502, 503, 504, 24, 505, 389, 393, 391, 390, 398, 444, 445, 24, 446, 447, 448, 449, 474, 476, 13, 477, 478, 480, 14, 481, 397, 394, 395, 399, 462, 464, 10, 465, 466, 468, 11, 469, 388, 470, 472, 12, 473, 392, 482, 484, 15, 485, 400, 405, 407, 409, 411, 413, 415, 417, 419, 421, 423, 425, 427, 429, 431, 433, 435, 437] rfl (by decide +kernel)
set_option maxRecDepth 100000 in
theorem gL_X4_next : GoodIn lw_tbl (wsV RL 38 RX4 yX4_next wsX4_next) := goodIn_r _ [290, 291, 292, 18, 293, 115, 192, 193, 194, 23, 195, 90, 294, 295, 296, 297, 89, 229, 231, 5, 18, 232, 112, 233, 182, 183, 184, 234, 235, 236, 237, 91, 238, 239, 240, 241, 140, 141, 142, 19, 143, 39, 144, 145, 146, 147, 40, 242, 243, 244, 245, 95, 246, 247, 248, 249, 92, 250, 251, 252, 253, 93, 196, 198, 2, 199, 113, 200, 201, 202, 20, 203, 56, 205, 206, 207, 209, 210, 211, 189, 190, 191, 212, 213, 214, 215, 216, 218, 3, 219, 298, 300, 7, 301, 302, 303, 304, 305, 306, 307, 308, 309, 94, 221, 222, 223, 224, 116, 118, 120, 122, 96, 98, 100, 102, 104, 106, 108, 41, 43, 57] rfl (by decide +kernel)
set_option maxRecDepth 100000 in
theorem gL_X5_next : GoodIn lw_tbl (wsV RL 42 RX5 yX5_next wsX5_next) := goodIn_r _ [510, 511, 512, 24, 513, 393, 397, 392, 394, 395, 396, 514, 507, 508, 24, 509, 399, 478, 480, 14, 481, 391, 398, 390, 462, 464, 10, 465, 466, 468, 11, 469, 388, 470, 472, 12, 473, 405, 407, 409, 411, 413, 415, 417, 419, 421, 423, 425, 427, 429, 431, 433, 435, 437] rfl (by decide +kernel)
set_option maxRecDepth 100000 in
theorem gL_X4_cancel : GoodIn lw_tbl (wsV RL 43 RX4 yX4_cancel wsX4_cancel) := goodIn_r _ [310, 311, 312, 18, 313, 115, 177, 178, 179, 23, 180, 181, 182, 183, 184, 90, 89, 302, 303, 304, 305, 116, 118, 120, 122, 96, 98, 100, 102, 104, 106, 108] rfl (by decide +kernel)
set_option maxRecDepth 100000 in
theorem gL_X5_cancel : GoodIn lw_tbl (wsV RL 46 RX5 yX5_cancel wsX5_cancel) := goodIn_r _ [515, 516, 517, 24, 518, 393, 444, 445, 24, 446, 447, 448, 449, 405, 407, 409, 411, 413, 415, 417, 419, 421, 423, 425, 427, 429, 431, 433, 435, 437] rfl (by decide +kernel)
set_option maxRecDepth 100000 in
theorem gL_X4_end : GoodIn lw_tbl (wsV RL 47 RX4 yX4_end wsX4_end) := goodIn_r _ [314, 315, 316, 18, 317, 113, 129, 130, 18, 131, 168, 169, 170, 318, 319, 320, 20, 321, 322, 324, 8, 325, 56, 189, 190, 191, 116, 118, 120, 122, 57] rfl (by decide +kernel)
set_option maxRecDepth 100000 in
theorem gL_X5_end : GoodIn lw_tbl (wsV RL 51 RX5 yX5_end wsX5_end) := goodIn_r _ [519, 520, 521, 24, 522, 392, 444, 445, 24, 446, 447, 448, 449, 405, 407, 409, 411, 413, 415, 417, 419, 421, 423, 425, 427, 429, 431, 433, 435, 437] rfl (by decide +kernel)
set_option maxRecDepth 100000 in
theorem gL_X4_release : GoodIn lw_tbl (wsV RL 52 RX4 yX4_release wsX4_release) := goodIn_r _ [326, 327, 328, 18, 329, 113, 115, 129, 130, 18, 131, 168, 169, 170, 330, 331, 332, 20, 333, 322, 324, 8, 325, 56, 189, 190, 191, 334, 335, 336, 23, 337, 94, 116, 118, 120, 122, 57, 96, 98, 100, 102, 104, 106, 108] rfl (by decide +kernel)
set_option maxRecDepth 100000 in
theorem gL_X5_release : GoodIn lw_tbl (wsV RL 55 RX5 yX5_release wsX5_release) := goodIn_r _ [523, 524, 525, 24, 526, 392, 396, 444, 445, 24, 446, 447, 448, 449, 405, 407, 409, 411, 413, 415, 417, 419, 421, 423, 425, 427, 429, 431, 433, 435, 437] rfl (by decide +kernel)
set_option maxRecDepth 100000 in
theorem gL_X4_drop : GoodIn lw_tbl (wsV RL 56 RX4 yX4_drop wsX4_drop) := goodIn_r _ [338, 339, 340, 18, 341, 113, 115, 171, 172, 18, 173, 342, 343, 344, 20, 345, 56, 189, 190, 191, 346, 347, 348, 23, 349, 90, 89, 95, 216, 218, 3, 219, 91, 92, 116, 118, 120, 122, 57, 96, 98, 100, 102, 104, 106, 108] rfl (by decide +kernel)
set_option maxRecDepth 100000 in
theorem gL_X5_drop : GoodIn lw_tbl (wsV RL 59 RX5 yX5_drop wsX5_drop) := goodIn_r _ [527, 528, 529, 24, 530, 392, 397, 393, 394, 447, 448, 24, 449, 405, 407, 409, 411, 413, 415, 417, 419, 421, 423, 425, 427, 429, 431, 433, 435, 437] rfl (by decide +kernel)
set_option maxRecDepth 100000 in
theorem gL_X4_clear : GoodIn lw_tbl (wsV RL 60 RX4 yX4_clear wsX4_clear) := goodIn_r _ [350, 351, 352, 18, 353, 114, 266, 267, 18, 268, 354, 355, 356, 22, 357, 68, 156, 158, 0, 159, 70, 160, 162, 1, 163, 66, 67, 69, 116, 118, 120, 122, 71, 73, 75, 77, 79] rfl (by decide +kernel)
set_option maxRecDepth 100000 in
theorem gL_X5_clear : GoodIn lw_tbl (wsV RL 63 RX5 yX5_clear wsX5_clear) := goodIn_r _ [494, 495, 496, 24, 497, 401, 402, 403, 404, 447, 448, 24, 449, 405, 407, 409, 411, 413, 415, 417, 419, 421, 423, 425, 427, 429, 431, 433, 435, 437] rfl (by decide +kernel)
set_option maxRecDepth 100000 in
theorem gL_X4_holds : GoodIn lw_tbl (wsV RL 64 RX4 yX4_holds wsX4_holds) := goodIn_r _ [358, 359, 360, 18, 361, 113, 129, 130, 18, 131, 171, 172, 173, 174, 175, 176, 185, 186, 187, 20, 188, 56, 189, 190, 191, 116, 118, 120, 122, 57] rfl (by decide +kernel)
set_option maxRecDepth 100000 in
theorem gL_X5_holds : GoodIn lw_tbl (wsV RL 67 RX5 yX5_holds wsX5_holds) := goodIn_r _ [531, 532, 533, 24, 534, 392, 444, 445, 24, 446, 447, 448, 449, 405, 407, 409, 411, 413, 415, 417, 419, 421, 423, 425, 427, 429, 431, 433, 435, 437] rfl (by decide +kernel)
set_option maxRecDepth 100000 in
theorem gL_X4_locker : GoodIn lw_tbl (wsV RL 68 RX4 yX4_locker wsX4_locker) := goodIn_r _ [362, 363, 364, 18, 365, 114, 366, 367, 368, 22, 369, 70, 68, 69, 66, 116, 118, 120, 122, 71, 73, 75, 77, 79] rfl (by decide +kernel)
set_option maxRecDepth 100000 in
theorem gL_X5_locker : GoodIn lw_tbl (wsV RL 71 RX5 yX5_locker wsX5_locker) := goodIn_r _ [498, 499, 500, 24, 501, 401, 402, 391, 403, 404, 405, 407, 409, 411, 413, 415, 417, 419, 421, 423, 425, 427, 429, 431, 433, 435, 437] rfl (by decide +kernel)
set_option maxRecDepth 100000 in
theorem gL_X4_on : GoodIn lw_tbl (wsV RL 72 RX4 yX4_on wsX4_on) := goodIn_r _ [370, 371, 372, 18, 373, 229, 231, 5, 18, 232, 115, 112, 233, 182, 183, 23, 184, 90, 89, 234, 235, 236, 237, 91, 238, 239, 240, 241, 140, 141, 142, 19, 143, 39, 144, 145, 146, 147, 40, 242, 243, 244, 245, 95, 246, 247, 248, 249, 92, 250, 251, 252, 253, 93, 196, 198, 2, 199, 113, 200, 201, 202, 20, 203, 56, 205, 206, 207, 209, 210, 211, 189, 190, 191, 212, 213, 214, 215, 216, 218, 3, 219, 116, 118, 120, 122, 96, 98, 100, 102, 104, 106, 108, 41, 43, 57] rfl (by decide +kernel)
set_option maxRecDepth 100000 in
theorem gL_X5_on : GoodIn lw_tbl (wsV RL 75 RX5 yX5_on wsX5_on) := goodIn_r _ [535, 536, 537, 24, 538, 444, 445, 24, 446, 447, 448, 449, 478, 480, 14, 481, 393, 391, 398, 390, 397, 394, 395, 399, 462, 464, 10, 465, 466, 468, 11, 469, 388, 470, 472, 12, 473, 392, 405, 407, 409, 411, 413, 415, 417, 419, 421, 423, 425, 427, 429, 431, 433, 435, 437] rfl (by decide +kernel)
set_option maxRecDepth 100000 in
theorem gL_X4_waiting : GoodIn lw_tbl (wsV RL 76 RX4 yX4_waiting wsX4_waiting) := goodIn_r _ [374, 375, 376, 18, 377, 115, 294, 295, 296, 23, 297, 90, 89, 116, 118, 120, 122, 96, 98, 100, 102, 104, 106, 108] rfl (by decide +kernel)
set_option maxRecDepth 100000 in
theorem gL_X5_waiting : GoodIn lw_tbl (wsV RL 79 RX5 yX5_waiting wsX5_waiting) := goodIn_r _ [506, 507, 508, 24, 509, 393, 399, 405, 407, 409, 411, 413, 415, 417, 419, 421, 423, 425, 427, 429, 431, 433, 435, 437] rfl (by decide +kernel)
set_option maxRecDepth 100000 in
theorem gL_X4_wish : GoodIn lw_tbl (wsV RL 80 RX4 yX4_wish wsX4_wish) := goodIn_r _ [378, 379, 380, 18, 381, 115, 129, 130, 18, 131, 177, 178, 179, 23, 180, 181, 182, 183, 184, 90, 89, 234, 235, 236, 237, 91, 238, 239, 240, 241, 246, 247, 248, 249, 92, 250, 251, 252, 253, 93, 242, 243, 244, 245, 95, 116, 118, 120, 122, 96, 98, 100, 102, 104, 106, 108] rfl (by decide +kernel)
set_option maxRecDepth 100000 in
theorem gL_X5_wish : GoodIn lw_tbl (wsV RL 83 RX5 yX5_wish wsX5_wish) := goodIn_r _ [539, 540, 541, 24, 542, 393, 398, 394, 395, 397, 444, 445, 24, 446, 447, 448, 449, 405, 407, 409, 411, 413, 415, 417, 419, 421, 423, 425, 427, 429, 431, 433, 435, 437] rfl (by decide +kernel)
set_option maxRecDepth 100000 in
theorem gI_0 : GoodIn lw_tbl wsX00 := goodIn_r _ [57] rfl (by decide +kernel)
set_option maxRecDepth 100000 in
theorem gI_1 : GoodIn lw_tbl wsX10 := goodIn_r _ [41, 43] rfl (by decide +kernel)
set_option maxRecDepth 100000 in
theorem gI_2 : GoodIn lw_tbl wsX20 := goodIn_r _ [96, 98, 100, 102, 104, 106, 108] rfl (by decide +kernel)
set_option maxRecDepth 100000 in
theorem gI_3 : GoodIn lw_tbl wsX30 := goodIn_r _ [71, 73, 75, 77, 79] rfl (by decide +kernel)
set_option maxRecDepth 100000 in
theorem gI_4 : GoodIn lw_tbl wsX40 := goodIn_r _ [116, 118, 120, 122] rfl (by decide +kernel)
set_option maxRecDepth 100000 in
theorem gI_5 : GoodIn lw_tbl wsX50 := goodIn_r _ [405, 407, 409, 411, 413, 415, 417, 419, 421, 423, 425, 427, 429, 431, 433, 435, 437] rfl (by decide +kernel)
