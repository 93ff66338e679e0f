set_option maxRecDepth 20000 in
theorem gL_law_X3_init : GoodIn lw_tbl (wsX3_init) := goodIn_r _ [25, 26, 27, 28, 29, 134, 31, 16, 111, 135, 79, 80, 17, 136, 112, 113, 18, 137, 138, 33, 34, 35, 82, 83, 84, 85, 86, 115, 116, 117, 118, 120, 145, 147, 149, 151, 153, 155, 157, 159, 161, 163, 165, 54, 56, 58, 60, 62, 64, 66, 68, 70, 72, 74, 76, 96, 98, 100, 102, 104, 106, 108, 125, 127, 129, 131] rfl (by decide +kernel)
set_option maxRecDepth 20000 in
theorem gL_law_X4_init : GoodIn lw_tbl (wsX4_init) := goodIn_r _ [397, 398, 27, 28, 111, 403, 404, 493, 405, 406, 407, 408, 409, 410, 494, 411, 412, 413, 414, 415, 419, 420, 422, 423, 424, 428, 429, 430, 432, 434, 436, 438, 440, 442, 444, 446, 448, 450, 452, 454, 456, 458, 460, 462, 464, 466, 468, 470, 472, 474, 476, 478, 480, 482, 484, 486, 488, 490] rfl (by decide +kernel)
set_option maxRecDepth 20000 in
theorem gL_law_X3_weight : GoodIn lw_tbl (wsV RL 13 RX3 yX3_weight wsX3_weight) := goodIn_r _ [168, 169, 170, 15, 171, 140, 134, 37, 172, 173, 15, 174, 145, 147, 149, 151, 153, 155, 157, 159, 161, 163, 165, 54, 56, 58, 60, 62, 64, 66, 68, 70, 72, 74, 76] rfl (by decide +kernel)
set_option maxRecDepth 20000 in
theorem gL_law_X4_weight : GoodIn lw_tbl (wsV RL 17 RX4 yX4_weight wsX4_weight) := goodIn_r _ [495, 496, 497, 19, 498, 506, 399, 404, 499, 500, 19, 501, 502, 503, 504, 505, 430, 432, 434, 436, 438, 440, 442, 444, 446, 448, 450, 452, 454, 456, 458, 460, 462, 464, 466, 468, 470, 472, 474, 476, 478, 480, 482, 484, 486, 488, 490] rfl (by decide +kernel)
set_option maxRecDepth 20000 in
theorem gL_law_X3_deposit : GoodIn lw_tbl (wsV RL 20 RX3 yX3_deposit wsX3_deposit) := goodIn_r _ [175, 176, 177, 15, 178, 179, 134, 39, 180, 140, 181, 172, 173, 15, 174, 145, 147, 149, 151, 153, 155, 157, 159, 161, 163, 165, 54, 56, 58, 60, 62, 64, 66, 68, 70, 72, 74, 76] rfl (by decide +kernel)
set_option maxRecDepth 20000 in
theorem gL_law_X4_deposit : GoodIn lw_tbl (wsV RL 24 RX4 yX4_deposit wsX4_deposit) := goodIn_r _ [507, 508, 509, 19, 510, 511, 512, 405, 513, 399, 514, 499, 500, 19, 501, 502, 503, 504, 505, 430, 432, 434, 436, 438, 440, 442, 444, 446, 448, 450, 452, 454, 456, 458, 460, 462, 464, 466, 468, 470, 472, 474, 476, 478, 480, 482, 484, 486, 488, 490] rfl (by decide +kernel)
set_option maxRecDepth 20000 in
theorem gL_law_X3_term : GoodIn lw_tbl (wsV RL 25 RX3 yX3_term wsX3_term) := goodIn_r _ [182, 183, 184, 15, 185, 186, 188, 140, 135, 145, 147, 149, 151, 153, 155, 157, 159, 161, 163, 165] rfl (by decide +kernel)
set_option maxRecDepth 20000 in
theorem gL_law_X4_term : GoodIn lw_tbl (wsV RL 28 RX4 yX4_term wsX4_term) := goodIn_r _ [515, 516, 517, 19, 518, 519, 520, 521, 399, 403, 503, 504, 19, 505, 430, 432, 434, 436, 438, 440, 442, 444, 446, 448, 450, 452, 454, 456, 458, 460, 462, 464, 466, 468, 470, 472, 474, 476, 478, 480, 482, 484, 486, 488, 490] rfl (by decide +kernel)
set_option maxRecDepth 20000 in
theorem gL_law_X3_begin : GoodIn lw_tbl (wsV RL 29 RX3 yX3_begin wsX3_begin) := goodIn_r _ [190, 191, 192, 15, 193, 140, 141, 134, 47, 194, 195, 196, 16, 197, 45, 36, 38, 46, 145, 147, 149, 151, 153, 155, 157, 159, 161, 163, 165, 54, 56, 58, 60, 62, 64, 66, 68, 70, 72, 74, 76] rfl (by decide +kernel)
set_option maxRecDepth 20000 in
theorem gL_law_X4_begin : GoodIn lw_tbl (wsV RL 33 RX4 yX4_begin wsX4_begin) := goodIn_r _ [522, 523, 524, 19, 525, 399, 400, 410, 411, 404, 405, 412, 413, 430, 432, 434, 436, 438, 440, 442, 444, 446, 448, 450, 452, 454, 456, 458, 460, 462, 464, 466, 468, 470, 472, 474, 476, 478, 480, 482, 484, 486, 488, 490] rfl (by decide +kernel)
set_option maxRecDepth 20000 in
theorem gL_law_X3_commit : GoodIn lw_tbl (wsV RL 34 RX3 yX3_commit wsX3_commit) := goodIn_r _ [198, 199, 200, 15, 201, 134, 140, 47, 49, 52, 172, 173, 15, 174, 202, 204, 0, 205, 145, 147, 149, 151, 153, 155, 157, 159, 161, 163, 165, 54, 56, 58, 60, 62, 64, 66, 68, 70, 72, 74, 76] rfl (by decide +kernel)
set_option maxRecDepth 20000 in
theorem gL_law_X4_commit : GoodIn lw_tbl (wsV RL 38 RX4 yX4_commit wsX4_commit) := goodIn_r _ [526, 527, 528, 19, 529, 399, 411, 412, 414, 499, 500, 19, 501, 502, 503, 504, 505, 530, 532, 8, 533, 413, 430, 432, 434, 436, 438, 440, 442, 444, 446, 448, 450, 452, 454, 456, 458, 460, 462, 464, 466, 468, 470, 472, 474, 476, 478, 480, 482, 484, 486, 488, 490] rfl (by decide +kernel)
set_option maxRecDepth 20000 in
theorem gL_law_X3_opening : GoodIn lw_tbl (wsV RL 39 RX3 yX3_opening wsX3_opening) := goodIn_r _ [206, 207, 208, 15, 209, 140, 202, 204, 0, 15, 205, 134, 49, 145, 147, 149, 151, 153, 155, 157, 159, 161, 163, 165, 54, 56, 58, 60, 62, 64, 66, 68, 70, 72, 74, 76] rfl (by decide +kernel)
set_option maxRecDepth 20000 in
theorem gL_law_X4_opening : GoodIn lw_tbl (wsV RL 42 RX4 yX4_opening wsX4_opening) := goodIn_r _ [534, 535, 536, 19, 537, 399, 530, 532, 8, 19, 533, 413, 412, 430, 432, 434, 436, 438, 440, 442, 444, 446, 448, 450, 452, 454, 456, 458, 460, 462, 464, 466, 468, 470, 472, 474, 476, 478, 480, 482, 484, 486, 488, 490] rfl (by decide +kernel)
set_option maxRecDepth 20000 in
theorem gL_law_X3_open : GoodIn lw_tbl (wsV RL 43 RX3 yX3_open wsX3_open) := goodIn_r _ [210, 211, 212, 15, 213, 134, 140, 52, 51, 53, 172, 173, 15, 174, 214, 215, 216, 16, 217, 48, 50, 218, 219, 220, 226, 221, 222, 223, 224, 225, 227, 229, 1, 230, 145, 147, 149, 151, 153, 155, 157, 159, 161, 163, 165, 54, 56, 58, 60, 62, 64, 66, 68, 70, 72, 74, 76] rfl (by decide +kernel)
set_option maxRecDepth 20000 in
theorem gL_law_X4_open : GoodIn lw_tbl (wsV RL 46 RX4 yX4_open wsX4_open) := goodIn_r _ [538, 539, 540, 19, 541, 399, 412, 413, 414, 415, 499, 500, 19, 501, 502, 503, 504, 505, 542, 543, 544, 550, 545, 546, 547, 548, 549, 530, 532, 8, 533, 430, 432, 434, 436, 438, 440, 442, 444, 446, 448, 450, 452, 454, 456, 458, 460, 462, 464, 466, 468, 470, 472, 474, 476, 478, 480, 482, 484, 486, 488, 490] rfl (by decide +kernel)
set_option maxRecDepth 20000 in
theorem gL_law_X3_draw : GoodIn lw_tbl (wsV RL 47 RX3 yX3_draw wsX3_draw) := goodIn_r _ [231, 232, 233, 15, 234, 140, 143, 137, 136, 91, 89, 95, 235, 236, 15, 237, 238, 240, 2, 241, 141, 226, 134, 51, 52, 53, 221, 222, 223, 224, 225, 242, 244, 3, 245, 135, 47, 37, 41, 246, 247, 248, 17, 249, 88, 90, 93, 92, 214, 215, 216, 16, 217, 48, 50, 250, 251, 252, 253, 85, 86, 254, 256, 4, 257, 144, 258, 259, 260, 261, 38, 262, 263, 264, 265, 266, 45, 267, 268, 20, 269, 270, 271, 272, 18, 273, 121, 123, 274, 276, 5, 277, 142, 278, 279, 280, 281, 46, 282, 283, 284, 285, 94, 286, 287, 288, 289, 290, 291, 292, 293, 298, 299, 294, 295, 296, 297, 301, 302, 303, 304, 305, 306, 307, 308, 309, 310, 311, 312, 118, 120, 313, 315, 6, 316, 87, 145, 147, 149, 151, 153, 155, 157, 159, 161, 163, 165, 96, 98, 100, 102, 104, 106, 108, 54, 56, 58, 60, 62, 64, 66, 68, 70, 72, 74, 76, 125, 127, 129, 131] rfl (by decide +kernel)
set_option maxRecDepth 20000 in
theorem gL_law_X4_draw : GoodIn lw_tbl (wsV RL 51 RX4 yX4_draw wsX4_draw) := goodIn_r _ [551, 552, 553, 19, 554, 555, 399, 425, 401, 427, 418, 412, 413, 405, 403, 520, 402, 410, 400, 417, 416, 419, 428, 420, 429, 406, 424, 503, 504, 19, 505, 556, 558, 9, 559, 550, 423, 411, 415, 404, 545, 546, 547, 548, 549, 542, 543, 544, 560, 562, 10, 563, 426, 564, 566, 11, 567, 568, 570, 12, 571, 572, 573, 574, 575, 577, 13, 578, 430, 432, 434, 436, 438, 440, 442, 444, 446, 448, 450, 452, 454, 456, 458, 460, 462, 464, 466, 468, 470, 472, 474, 476, 478, 480, 482, 484, 486, 488, 490] rfl (by decide +kernel)
set_option maxRecDepth 20000 in
theorem gL_law_X3_turn : GoodIn lw_tbl (wsV RL 52 RX3 yX3_turn wsX3_turn) := goodIn_r _ [317, 318, 319, 15, 320, 140, 137, 142, 134, 135, 141, 122, 321, 322, 323, 18, 324, 118, 325, 326, 327, 328, 121, 172, 173, 15, 174, 329, 330, 331, 16, 332, 42, 44, 333, 334, 335, 336, 43, 337, 264, 265, 266, 45, 267, 268, 20, 269, 274, 276, 5, 277, 278, 279, 280, 281, 46, 48, 50, 145, 147, 149, 151, 153, 155, 157, 159, 161, 163, 165, 125, 127, 129, 131, 54, 56, 58, 60, 62, 64, 66, 68, 70, 72, 74, 76] rfl (by decide +kernel)
set_option maxRecDepth 20000 in
theorem gL_law_X4_turn : GoodIn lw_tbl (wsV RL 56 RX4 yX4_turn wsX4_turn) := goodIn_r _ [579, 580, 581, 19, 582, 399, 419, 417, 407, 409, 408, 403, 400, 410, 416, 430, 432, 434, 436, 438, 440, 442, 444, 446, 448, 450, 452, 454, 456, 458, 460, 462, 464, 466, 468, 470, 472, 474, 476, 478, 480, 482, 484, 486, 488, 490] rfl (by decide +kernel)
set_option maxRecDepth 20000 in
theorem gL_law_X3_leader : GoodIn lw_tbl (wsV RL 57 RX3 yX3_leader wsX3_leader) := goodIn_r _ [338, 339, 340, 15, 341, 137, 321, 322, 323, 18, 324, 118, 325, 326, 327, 328, 121, 145, 147, 149, 151, 153, 155, 157, 159, 161, 163, 165, 125, 127, 129, 131] rfl (by decide +kernel)
set_option maxRecDepth 20000 in
theorem gL_law_X4_leader : GoodIn lw_tbl (wsV RL 60 RX4 yX4_leader wsX4_leader) := goodIn_r _ [583, 584, 585, 19, 586, 416, 419, 430, 432, 434, 436, 438, 440, 442, 444, 446, 448, 450, 452, 454, 456, 458, 460, 462, 464, 466, 468, 470, 472, 474, 476, 478, 480, 482, 484, 486, 488, 490] rfl (by decide +kernel)
set_option maxRecDepth 20000 in
theorem gL_law_X3_drawn : GoodIn lw_tbl (wsV RL 61 RX3 yX3_drawn wsX3_drawn) := goodIn_r _ [342, 343, 344, 15, 345, 137, 346, 347, 348, 18, 349, 120, 325, 326, 327, 328, 121, 145, 147, 149, 151, 153, 155, 157, 159, 161, 163, 165, 125, 127, 129, 131] rfl (by decide +kernel)
set_option maxRecDepth 20000 in
theorem gL_law_X4_drawn : GoodIn lw_tbl (wsV RL 64 RX4 yX4_drawn wsX4_drawn) := goodIn_r _ [587, 588, 589, 19, 590, 416, 420, 430, 432, 434, 436, 438, 440, 442, 444, 446, 448, 450, 452, 454, 456, 458, 460, 462, 464, 466, 468, 470, 472, 474, 476, 478, 480, 482, 484, 486, 488, 490] rfl (by decide +kernel)
set_option maxRecDepth 20000 in
theorem gL_law_X3_claim : GoodIn lw_tbl (wsV RL 65 RX3 yX3_claim wsX3_claim) := goodIn_r _ [350, 351, 352, 15, 353, 139, 138, 172, 173, 15, 174, 145, 147, 149, 151, 153, 155, 157, 159, 161, 163, 165] rfl (by decide +kernel)
set_option maxRecDepth 20000 in
theorem gL_law_X4_claim : GoodIn lw_tbl (wsV RL 68 RX4 yX4_claim wsX4_claim) := goodIn_r _ [591, 592, 593, 19, 594, 421, 422, 499, 500, 19, 501, 502, 503, 504, 505, 430, 432, 434, 436, 438, 440, 442, 444, 446, 448, 450, 452, 454, 456, 458, 460, 462, 464, 466, 468, 470, 472, 474, 476, 478, 480, 482, 484, 486, 488, 490] rfl (by decide +kernel)
set_option maxRecDepth 20000 in
theorem gL_law_X3_check : GoodIn lw_tbl (wsV RL 69 RX3 yX3_check wsX3_check) := goodIn_r _ [354, 355, 356, 15, 357, 139, 358, 360, 7, 15, 361, 137, 122, 362, 363, 20, 364, 138, 119, 145, 147, 149, 151, 153, 155, 157, 159, 161, 163, 165, 125, 127, 129, 131] rfl (by decide +kernel)
set_option maxRecDepth 20000 in
theorem gL_law_X4_check : GoodIn lw_tbl (wsV RL 72 RX4 yX4_check wsX4_check) := goodIn_r _ [595, 596, 597, 19, 598, 421, 416, 422, 419, 430, 432, 434, 436, 438, 440, 442, 444, 446, 448, 450, 452, 454, 456, 458, 460, 462, 464, 466, 468, 470, 472, 474, 476, 478, 480, 482, 484, 486, 488, 490] rfl (by decide +kernel)
set_option maxRecDepth 20000 in
theorem gL_law_X3_would : GoodIn lw_tbl (wsV RL 73 RX3 yX3_would wsX3_would) := goodIn_r _ [365, 366, 367, 15, 368, 134, 140, 52, 136, 172, 173, 15, 174, 235, 236, 237, 214, 215, 216, 16, 217, 48, 50, 218, 219, 220, 226, 221, 222, 223, 224, 225, 238, 240, 2, 241, 143, 141, 51, 53, 242, 244, 3, 245, 135, 47, 37, 41, 246, 247, 248, 17, 249, 88, 90, 93, 92, 250, 251, 252, 253, 85, 86, 282, 283, 284, 285, 94, 286, 287, 288, 289, 290, 291, 292, 293, 298, 299, 294, 295, 296, 297, 301, 302, 303, 304, 305, 306, 307, 308, 145, 147, 149, 151, 153, 155, 157, 159, 161, 163, 165, 54, 56, 58, 60, 62, 64, 66, 68, 70, 72, 74, 76, 96, 98, 100, 102, 104, 106, 108] rfl (by decide +kernel)
set_option maxRecDepth 20000 in
theorem gL_law_X4_would : GoodIn lw_tbl (wsV RL 77 RX4 yX4_would wsX4_would) := goodIn_r _ [599, 600, 601, 19, 602, 555, 399, 412, 413, 414, 428, 499, 500, 19, 501, 502, 503, 504, 505, 542, 543, 544, 550, 545, 546, 547, 548, 549, 556, 558, 9, 559, 427, 401, 400, 425, 423, 411, 424, 406, 415, 404, 560, 562, 10, 563, 426, 429, 564, 566, 11, 567, 403, 568, 570, 12, 571, 572, 573, 574, 575, 577, 13, 578, 430, 432, 434, 436, 438, 440, 442, 444, 446, 448, 450, 452, 454, 456, 458, 460, 462, 464, 466, 468, 470, 472, 474, 476, 478, 480, 482, 484, 486, 488, 490] rfl (by decide +kernel)
set_option maxRecDepth 20000 in
theorem gL_law_X3_choices : GoodIn lw_tbl (wsV RL 78 RX3 yX3_choices wsX3_choices) := goodIn_r _ [369, 370, 371, 15, 372, 140, 202, 204, 0, 15, 205, 134, 49, 227, 229, 1, 230, 51, 145, 147, 149, 151, 153, 155, 157, 159, 161, 163, 165, 54, 56, 58, 60, 62, 64, 66, 68, 70, 72, 74, 76] rfl (by decide +kernel)
set_option maxRecDepth 20000 in
theorem gL_law_X4_choices : GoodIn lw_tbl (wsV RL 81 RX4 yX4_choices wsX4_choices) := goodIn_r _ [603, 604, 605, 19, 606, 399, 530, 532, 8, 19, 533, 413, 412, 430, 432, 434, 436, 438, 440, 442, 444, 446, 448, 450, 452, 454, 456, 458, 460, 462, 464, 466, 468, 470, 472, 474, 476, 478, 480, 482, 484, 486, 488, 490] rfl (by decide +kernel)
set_option maxRecDepth 20000 in
theorem gL_law_X3_digest : GoodIn lw_tbl (wsV RL 82 RX3 yX3_digest wsX3_digest) := goodIn_r _ [373, 374, 375, 15, 376, 172, 173, 15, 174, 218, 219, 220, 226, 221, 222, 223, 224, 225] rfl (by decide +kernel)
set_option maxRecDepth 20000 in
theorem gL_law_X4_digest : GoodIn lw_tbl (wsV RL 85 RX4 yX4_digest wsX4_digest) := goodIn_r _ [607, 608, 609, 19, 610, 499, 500, 19, 501, 502, 503, 504, 505, 542, 543, 544, 550, 545, 546, 547, 548, 549] rfl (by decide +kernel)
set_option maxRecDepth 20000 in
theorem gL_law_X3_node : GoodIn lw_tbl (wsV RL 86 RX3 yX3_node wsX3_node) := goodIn_r _ [377, 378, 379, 15, 380, 134, 172, 173, 15, 174, 381, 382, 383, 16, 384, 36, 40, 42, 43, 45, 46, 48, 50, 44, 145, 147, 149, 151, 153, 155, 157, 159, 161, 163, 165, 54, 56, 58, 60, 62, 64, 66, 68, 70, 72, 74, 76] rfl (by decide +kernel)
set_option maxRecDepth 20000 in
theorem gL_law_X4_node : GoodIn lw_tbl (wsV RL 89 RX4 yX4_node wsX4_node) := goodIn_r _ [611, 612, 613, 19, 614, 615, 399, 404, 406, 407, 408, 410, 411, 412, 413, 409, 499, 500, 19, 501, 502, 503, 504, 505, 430, 432, 434, 436, 438, 440, 442, 444, 446, 448, 450, 452, 454, 456, 458, 460, 462, 464, 466, 468, 470, 472, 474, 476, 478, 480, 482, 484, 486, 488, 490] rfl (by decide +kernel)
set_option maxRecDepth 20000 in
theorem gL_law_X3_amount : GoodIn lw_tbl (wsV RL 90 RX3 yX3_amount wsX3_amount) := goodIn_r _ [385, 386, 387, 15, 388, 143, 144, 134, 39, 145, 147, 149, 151, 153, 155, 157, 159, 161, 163, 165, 54, 56, 58, 60, 62, 64, 66, 68, 70, 72, 74, 76] rfl (by decide +kernel)
set_option maxRecDepth 20000 in
theorem gL_law_X4_amount : GoodIn lw_tbl (wsV RL 94 RX4 yX4_amount wsX4_amount) := goodIn_r _ [616, 617, 618, 19, 619, 401, 402, 573, 620, 405, 503, 504, 19, 505, 430, 432, 434, 436, 438, 440, 442, 444, 446, 448, 450, 452, 454, 456, 458, 460, 462, 464, 466, 468, 470, 472, 474, 476, 478, 480, 482, 484, 486, 488, 490] rfl (by decide +kernel)
set_option maxRecDepth 20000 in
theorem gL_law_X3_told : GoodIn lw_tbl (wsV RL 95 RX3 yX3_told wsX3_told) := goodIn_r _ [389, 390, 391, 15, 392, 140, 141, 137, 122, 142, 124, 135, 145, 147, 149, 151, 153, 155, 157, 159, 161, 163, 165, 125, 127, 129, 131] rfl (by decide +kernel)
set_option maxRecDepth 20000 in
theorem gL_law_X4_told : GoodIn lw_tbl (wsV RL 98 RX4 yX4_told wsX4_told) := goodIn_r _ [621, 622, 623, 19, 624, 399, 400, 416, 417, 418, 625, 615, 403, 503, 504, 19, 505, 430, 432, 434, 436, 438, 440, 442, 444, 446, 448, 450, 452, 454, 456, 458, 460, 462, 464, 466, 468, 470, 472, 474, 476, 478, 480, 482, 484, 486, 488, 490] rfl (by decide +kernel)
