set_option maxRecDepth 20000 in
theorem gL_law_X3_init : GoodIn lw_tbl (wsX3_init) := goodIn_r _ [24, 25, 26, 27, 28, 136, 30, 15, 113, 137, 81, 82, 16, 138, 114, 115, 17, 139, 140, 32, 33, 34, 84, 85, 86, 87, 88, 117, 118, 119, 120, 122, 147, 149, 151, 153, 155, 157, 159, 161, 163, 165, 167, 56, 58, 60, 62, 64, 66, 68, 70, 72, 74, 76, 78, 98, 100, 102, 104, 106, 108, 110, 127, 129, 131, 133] rfl (by decide +kernel)
set_option maxRecDepth 20000 in
theorem gL_law_X4_init : GoodIn lw_tbl (wsX4_init) := goodIn_r _ [392, 393, 26, 27, 113, 398, 399, 488, 400, 401, 402, 403, 404, 405, 489, 406, 407, 408, 409, 410, 414, 415, 417, 418, 419, 423, 424, 425, 427, 429, 431, 433, 435, 437, 439, 441, 443, 445, 447, 449, 451, 453, 455, 457, 459, 461, 463, 465, 467, 469, 471, 473, 475, 477, 479, 481, 483, 485] rfl (by decide +kernel)
set_option maxRecDepth 20000 in
theorem gL_law_X3_weight : GoodIn lw_tbl (wsV RL 13 RX3 yX3_weight wsX3_weight) := goodIn_r _ [170, 171, 172, 14, 173, 142, 136, 36, 174, 175, 14, 176, 147, 149, 151, 153, 155, 157, 159, 161, 163, 165, 167, 56, 58, 60, 62, 64, 66, 68, 70, 72, 74, 76, 78] rfl (by decide +kernel)
set_option maxRecDepth 20000 in
theorem gL_law_X4_weight : GoodIn lw_tbl (wsV RL 17 RX4 yX4_weight wsX4_weight) := goodIn_r _ [490, 491, 492, 18, 493, 501, 394, 399, 494, 495, 18, 496, 497, 498, 499, 500, 425, 427, 429, 431, 433, 435, 437, 439, 441, 443, 445, 447, 449, 451, 453, 455, 457, 459, 461, 463, 465, 467, 469, 471, 473, 475, 477, 479, 481, 483, 485] rfl (by decide +kernel)
set_option maxRecDepth 20000 in
theorem gL_law_X3_deposit : GoodIn lw_tbl (wsV RL 20 RX3 yX3_deposit wsX3_deposit) := goodIn_r _ [177, 178, 179, 14, 180, 181, 136, 39, 182, 142, 183, 174, 175, 14, 176, 147, 149, 151, 153, 155, 157, 159, 161, 163, 165, 167, 56, 58, 60, 62, 64, 66, 68, 70, 72, 74, 76, 78] rfl (by decide +kernel)
set_option maxRecDepth 20000 in
theorem gL_law_X4_deposit : GoodIn lw_tbl (wsV RL 24 RX4 yX4_deposit wsX4_deposit) := goodIn_r _ [502, 503, 504, 18, 505, 506, 507, 400, 508, 394, 509, 494, 495, 18, 496, 497, 498, 499, 500, 425, 427, 429, 431, 433, 435, 437, 439, 441, 443, 445, 447, 449, 451, 453, 455, 457, 459, 461, 463, 465, 467, 469, 471, 473, 475, 477, 479, 481, 483, 485] rfl (by decide +kernel)
set_option maxRecDepth 20000 in
theorem gL_law_X3_term : GoodIn lw_tbl (wsV RL 25 RX3 yX3_term wsX3_term) := goodIn_r _ [184, 185, 186, 14, 187, 188, 190, 142, 137, 147, 149, 151, 153, 155, 157, 159, 161, 163, 165, 167] rfl (by decide +kernel)
set_option maxRecDepth 20000 in
theorem gL_law_X4_term : GoodIn lw_tbl (wsV RL 28 RX4 yX4_term wsX4_term) := goodIn_r _ [510, 511, 512, 18, 513, 514, 515, 516, 394, 398, 498, 499, 18, 500, 425, 427, 429, 431, 433, 435, 437, 439, 441, 443, 445, 447, 449, 451, 453, 455, 457, 459, 461, 463, 465, 467, 469, 471, 473, 475, 477, 479, 481, 483, 485] rfl (by decide +kernel)
set_option maxRecDepth 20000 in
theorem gL_law_X3_begin : GoodIn lw_tbl (wsV RL 29 RX3 yX3_begin wsX3_begin) := goodIn_r _ [192, 193, 194, 14, 195, 142, 143, 136, 49, 196, 197, 198, 15, 199, 46, 35, 38, 48, 147, 149, 151, 153, 155, 157, 159, 161, 163, 165, 167, 56, 58, 60, 62, 64, 66, 68, 70, 72, 74, 76, 78] rfl (by decide +kernel)
set_option maxRecDepth 20000 in
theorem gL_law_X4_begin : GoodIn lw_tbl (wsV RL 33 RX4 yX4_begin wsX4_begin) := goodIn_r _ [517, 518, 519, 18, 520, 394, 395, 405, 406, 399, 400, 407, 408, 425, 427, 429, 431, 433, 435, 437, 439, 441, 443, 445, 447, 449, 451, 453, 455, 457, 459, 461, 463, 465, 467, 469, 471, 473, 475, 477, 479, 481, 483, 485] rfl (by decide +kernel)
set_option maxRecDepth 20000 in
theorem gL_law_X3_commit : GoodIn lw_tbl (wsV RL 34 RX3 yX3_commit wsX3_commit) := goodIn_r _ [200, 201, 202, 14, 203, 136, 142, 49, 51, 54, 174, 175, 14, 176, 204, 206, 0, 207, 147, 149, 151, 153, 155, 157, 159, 161, 163, 165, 167, 56, 58, 60, 62, 64, 66, 68, 70, 72, 74, 76, 78] rfl (by decide +kernel)
set_option maxRecDepth 20000 in
theorem gL_law_X4_commit : GoodIn lw_tbl (wsV RL 38 RX4 yX4_commit wsX4_commit) := goodIn_r _ [521, 522, 523, 18, 524, 394, 406, 407, 409, 494, 495, 18, 496, 497, 498, 499, 500, 525, 527, 7, 528, 408, 425, 427, 429, 431, 433, 435, 437, 439, 441, 443, 445, 447, 449, 451, 453, 455, 457, 459, 461, 463, 465, 467, 469, 471, 473, 475, 477, 479, 481, 483, 485] rfl (by decide +kernel)
set_option maxRecDepth 20000 in
theorem gL_law_X3_opening : GoodIn lw_tbl (wsV RL 39 RX3 yX3_opening wsX3_opening) := goodIn_r _ [208, 209, 210, 14, 211, 142, 204, 206, 0, 14, 207, 136, 51, 147, 149, 151, 153, 155, 157, 159, 161, 163, 165, 167, 56, 58, 60, 62, 64, 66, 68, 70, 72, 74, 76, 78] rfl (by decide +kernel)
set_option maxRecDepth 20000 in
theorem gL_law_X4_opening : GoodIn lw_tbl (wsV RL 42 RX4 yX4_opening wsX4_opening) := goodIn_r _ [529, 530, 531, 18, 532, 394, 525, 527, 7, 18, 528, 408, 407, 425, 427, 429, 431, 433, 435, 437, 439, 441, 443, 445, 447, 449, 451, 453, 455, 457, 459, 461, 463, 465, 467, 469, 471, 473, 475, 477, 479, 481, 483, 485] rfl (by decide +kernel)
set_option maxRecDepth 20000 in
theorem gL_law_X3_open : GoodIn lw_tbl (wsV RL 43 RX3 yX3_open wsX3_open) := goodIn_r _ [212, 213, 214, 14, 215, 136, 142, 54, 53, 55, 174, 175, 14, 176, 216, 217, 218, 15, 219, 50, 52, 220, 221, 222, 228, 223, 224, 225, 226, 227, 229, 231, 1, 232, 147, 149, 151, 153, 155, 157, 159, 161, 163, 165, 167, 56, 58, 60, 62, 64, 66, 68, 70, 72, 74, 76, 78] rfl (by decide +kernel)
set_option maxRecDepth 20000 in
theorem gL_law_X4_open : GoodIn lw_tbl (wsV RL 46 RX4 yX4_open wsX4_open) := goodIn_r _ [533, 534, 535, 18, 536, 394, 407, 408, 409, 410, 494, 495, 18, 496, 497, 498, 499, 500, 537, 538, 539, 545, 540, 541, 542, 543, 544, 525, 527, 7, 528, 425, 427, 429, 431, 433, 435, 437, 439, 441, 443, 445, 447, 449, 451, 453, 455, 457, 459, 461, 463, 465, 467, 469, 471, 473, 475, 477, 479, 481, 483, 485] rfl (by decide +kernel)
set_option maxRecDepth 20000 in
theorem gL_law_X3_draw : GoodIn lw_tbl (wsV RL 47 RX3 yX3_draw wsX3_draw) := goodIn_r _ [233, 234, 235, 14, 236, 142, 145, 138, 136, 137, 139, 93, 91, 97, 237, 238, 14, 239, 240, 242, 2, 243, 143, 228, 53, 54, 55, 223, 224, 225, 226, 227, 244, 245, 246, 16, 247, 90, 92, 94, 95, 47, 87, 37, 88, 40, 248, 217, 218, 15, 219, 50, 52, 249, 251, 3, 252, 146, 216, 253, 254, 255, 256, 38, 257, 258, 259, 260, 261, 46, 262, 263, 19, 264, 265, 266, 267, 17, 268, 123, 125, 269, 271, 4, 272, 144, 273, 274, 275, 276, 48, 277, 278, 279, 280, 96, 281, 282, 283, 284, 285, 286, 287, 288, 293, 294, 289, 290, 291, 292, 296, 297, 298, 299, 300, 301, 302, 303, 304, 305, 306, 307, 120, 122, 308, 310, 5, 311, 89, 42, 147, 149, 151, 153, 155, 157, 159, 161, 163, 165, 167, 98, 100, 102, 104, 106, 108, 110, 56, 58, 60, 62, 64, 66, 68, 70, 72, 74, 76, 78, 127, 129, 131, 133] rfl (by decide +kernel)
set_option maxRecDepth 20000 in
theorem gL_law_X4_draw : GoodIn lw_tbl (wsV RL 51 RX4 yX4_draw wsX4_draw) := goodIn_r _ [546, 547, 548, 18, 549, 550, 394, 420, 396, 422, 413, 407, 408, 400, 398, 515, 397, 405, 395, 412, 411, 414, 423, 415, 424, 401, 419, 498, 499, 18, 500, 551, 553, 8, 554, 545, 418, 406, 410, 399, 540, 541, 542, 543, 544, 537, 538, 539, 555, 557, 9, 558, 421, 559, 561, 10, 562, 563, 565, 11, 566, 567, 568, 569, 570, 572, 12, 573, 425, 427, 429, 431, 433, 435, 437, 439, 441, 443, 445, 447, 449, 451, 453, 455, 457, 459, 461, 463, 465, 467, 469, 471, 473, 475, 477, 479, 481, 483, 485] rfl (by decide +kernel)
set_option maxRecDepth 20000 in
theorem gL_law_X3_turn : GoodIn lw_tbl (wsV RL 52 RX3 yX3_turn wsX3_turn) := goodIn_r _ [312, 313, 314, 14, 315, 142, 139, 144, 136, 137, 143, 124, 316, 317, 318, 17, 319, 120, 320, 321, 322, 323, 123, 174, 175, 14, 176, 324, 325, 326, 15, 327, 43, 45, 328, 329, 330, 331, 44, 332, 259, 260, 261, 46, 262, 263, 19, 264, 269, 271, 4, 272, 273, 274, 275, 276, 48, 50, 52, 147, 149, 151, 153, 155, 157, 159, 161, 163, 165, 167, 127, 129, 131, 133, 56, 58, 60, 62, 64, 66, 68, 70, 72, 74, 76, 78] rfl (by decide +kernel)
set_option maxRecDepth 20000 in
theorem gL_law_X4_turn : GoodIn lw_tbl (wsV RL 56 RX4 yX4_turn wsX4_turn) := goodIn_r _ [574, 575, 576, 18, 577, 394, 414, 412, 402, 404, 403, 398, 395, 405, 411, 425, 427, 429, 431, 433, 435, 437, 439, 441, 443, 445, 447, 449, 451, 453, 455, 457, 459, 461, 463, 465, 467, 469, 471, 473, 475, 477, 479, 481, 483, 485] rfl (by decide +kernel)
set_option maxRecDepth 20000 in
theorem gL_law_X3_leader : GoodIn lw_tbl (wsV RL 57 RX3 yX3_leader wsX3_leader) := goodIn_r _ [333, 334, 335, 14, 336, 139, 316, 317, 318, 17, 319, 120, 320, 321, 322, 323, 123, 147, 149, 151, 153, 155, 157, 159, 161, 163, 165, 167, 127, 129, 131, 133] rfl (by decide +kernel)
set_option maxRecDepth 20000 in
theorem gL_law_X4_leader : GoodIn lw_tbl (wsV RL 60 RX4 yX4_leader wsX4_leader) := goodIn_r _ [578, 579, 580, 18, 581, 411, 414, 425, 427, 429, 431, 433, 435, 437, 439, 441, 443, 445, 447, 449, 451, 453, 455, 457, 459, 461, 463, 465, 467, 469, 471, 473, 475, 477, 479, 481, 483, 485] rfl (by decide +kernel)
set_option maxRecDepth 20000 in
theorem gL_law_X3_drawn : GoodIn lw_tbl (wsV RL 61 RX3 yX3_drawn wsX3_drawn) := goodIn_r _ [337, 338, 339, 14, 340, 139, 341, 342, 343, 17, 344, 122, 320, 321, 322, 323, 123, 147, 149, 151, 153, 155, 157, 159, 161, 163, 165, 167, 127, 129, 131, 133] rfl (by decide +kernel)
set_option maxRecDepth 20000 in
theorem gL_law_X4_drawn : GoodIn lw_tbl (wsV RL 64 RX4 yX4_drawn wsX4_drawn) := goodIn_r _ [582, 583, 584, 18, 585, 411, 415, 425, 427, 429, 431, 433, 435, 437, 439, 441, 443, 445, 447, 449, 451, 453, 455, 457, 459, 461, 463, 465, 467, 469, 471, 473, 475, 477, 479, 481, 483, 485] rfl (by decide +kernel)
set_option maxRecDepth 20000 in
theorem gL_law_X3_claim : GoodIn lw_tbl (wsV RL 65 RX3 yX3_claim wsX3_claim) := goodIn_r _ [345, 346, 347, 14, 348, 141, 140, 174, 175, 14, 176, 147, 149, 151, 153, 155, 157, 159, 161, 163, 165, 167] rfl (by decide +kernel)
set_option maxRecDepth 20000 in
theorem gL_law_X4_claim : GoodIn lw_tbl (wsV RL 68 RX4 yX4_claim wsX4_claim) := goodIn_r _ [586, 587, 588, 18, 589, 416, 417, 494, 495, 18, 496, 497, 498, 499, 500, 425, 427, 429, 431, 433, 435, 437, 439, 441, 443, 445, 447, 449, 451, 453, 455, 457, 459, 461, 463, 465, 467, 469, 471, 473, 475, 477, 479, 481, 483, 485] rfl (by decide +kernel)
set_option maxRecDepth 20000 in
theorem gL_law_X3_check : GoodIn lw_tbl (wsV RL 69 RX3 yX3_check wsX3_check) := goodIn_r _ [349, 350, 351, 14, 352, 141, 353, 355, 6, 14, 356, 139, 124, 357, 358, 19, 359, 140, 121, 147, 149, 151, 153, 155, 157, 159, 161, 163, 165, 167, 127, 129, 131, 133] rfl (by decide +kernel)
set_option maxRecDepth 20000 in
theorem gL_law_X4_check : GoodIn lw_tbl (wsV RL 72 RX4 yX4_check wsX4_check) := goodIn_r _ [590, 591, 592, 18, 593, 416, 411, 417, 414, 425, 427, 429, 431, 433, 435, 437, 439, 441, 443, 445, 447, 449, 451, 453, 455, 457, 459, 461, 463, 465, 467, 469, 471, 473, 475, 477, 479, 481, 483, 485] rfl (by decide +kernel)
set_option maxRecDepth 20000 in
theorem gL_law_X3_would : GoodIn lw_tbl (wsV RL 73 RX3 yX3_would wsX3_would) := goodIn_r _ [360, 361, 362, 14, 363, 136, 142, 54, 138, 137, 174, 175, 14, 176, 237, 238, 239, 216, 217, 218, 15, 219, 50, 52, 220, 221, 222, 228, 223, 224, 225, 226, 227, 240, 242, 2, 243, 145, 143, 53, 55, 244, 245, 246, 16, 247, 90, 92, 94, 95, 47, 87, 37, 88, 40, 248, 277, 278, 279, 280, 96, 281, 282, 283, 284, 285, 286, 287, 288, 293, 294, 289, 290, 291, 292, 296, 297, 298, 299, 300, 301, 302, 303, 147, 149, 151, 153, 155, 157, 159, 161, 163, 165, 167, 56, 58, 60, 62, 64, 66, 68, 70, 72, 74, 76, 78, 98, 100, 102, 104, 106, 108, 110] rfl (by decide +kernel)
set_option maxRecDepth 20000 in
theorem gL_law_X4_would : GoodIn lw_tbl (wsV RL 77 RX4 yX4_would wsX4_would) := goodIn_r _ [594, 595, 596, 18, 597, 550, 394, 407, 408, 409, 423, 494, 495, 18, 496, 497, 498, 499, 500, 537, 538, 539, 545, 540, 541, 542, 543, 544, 551, 553, 8, 554, 422, 396, 395, 420, 418, 406, 419, 401, 410, 399, 555, 557, 9, 558, 421, 424, 559, 561, 10, 562, 398, 563, 565, 11, 566, 567, 568, 569, 570, 572, 12, 573, 425, 427, 429, 431, 433, 435, 437, 439, 441, 443, 445, 447, 449, 451, 453, 455, 457, 459, 461, 463, 465, 467, 469, 471, 473, 475, 477, 479, 481, 483, 485] rfl (by decide +kernel)
set_option maxRecDepth 20000 in
theorem gL_law_X3_choices : GoodIn lw_tbl (wsV RL 78 RX3 yX3_choices wsX3_choices) := goodIn_r _ [364, 365, 366, 14, 367, 142, 204, 206, 0, 14, 207, 136, 51, 229, 231, 1, 232, 53, 147, 149, 151, 153, 155, 157, 159, 161, 163, 165, 167, 56, 58, 60, 62, 64, 66, 68, 70, 72, 74, 76, 78] rfl (by decide +kernel)
set_option maxRecDepth 20000 in
theorem gL_law_X4_choices : GoodIn lw_tbl (wsV RL 81 RX4 yX4_choices wsX4_choices) := goodIn_r _ [598, 599, 600, 18, 601, 394, 525, 527, 7, 18, 528, 408, 407, 425, 427, 429, 431, 433, 435, 437, 439, 441, 443, 445, 447, 449, 451, 453, 455, 457, 459, 461, 463, 465, 467, 469, 471, 473, 475, 477, 479, 481, 483, 485] rfl (by decide +kernel)
set_option maxRecDepth 20000 in
theorem gL_law_X3_digest : GoodIn lw_tbl (wsV RL 82 RX3 yX3_digest wsX3_digest) := goodIn_r _ [368, 369, 370, 14, 371, 174, 175, 14, 176, 220, 221, 222, 228, 223, 224, 225, 226, 227] rfl (by decide +kernel)
set_option maxRecDepth 20000 in
theorem gL_law_X4_digest : GoodIn lw_tbl (wsV RL 85 RX4 yX4_digest wsX4_digest) := goodIn_r _ [602, 603, 604, 18, 605, 494, 495, 18, 496, 497, 498, 499, 500, 537, 538, 539, 545, 540, 541, 542, 543, 544] rfl (by decide +kernel)
set_option maxRecDepth 20000 in
theorem gL_law_X3_node : GoodIn lw_tbl (wsV RL 86 RX3 yX3_node wsX3_node) := goodIn_r _ [372, 373, 374, 14, 375, 136, 174, 175, 14, 176, 376, 377, 378, 15, 379, 35, 41, 43, 44, 46, 48, 50, 52, 45, 147, 149, 151, 153, 155, 157, 159, 161, 163, 165, 167, 56, 58, 60, 62, 64, 66, 68, 70, 72, 74, 76, 78] rfl (by decide +kernel)
set_option maxRecDepth 20000 in
theorem gL_law_X4_node : GoodIn lw_tbl (wsV RL 89 RX4 yX4_node wsX4_node) := goodIn_r _ [606, 607, 608, 18, 609, 610, 394, 399, 401, 402, 403, 405, 406, 407, 408, 404, 494, 495, 18, 496, 497, 498, 499, 500, 425, 427, 429, 431, 433, 435, 437, 439, 441, 443, 445, 447, 449, 451, 453, 455, 457, 459, 461, 463, 465, 467, 469, 471, 473, 475, 477, 479, 481, 483, 485] rfl (by decide +kernel)
set_option maxRecDepth 20000 in
theorem gL_law_X3_amount : GoodIn lw_tbl (wsV RL 90 RX3 yX3_amount wsX3_amount) := goodIn_r _ [380, 381, 382, 14, 383, 145, 146, 136, 39, 147, 149, 151, 153, 155, 157, 159, 161, 163, 165, 167, 56, 58, 60, 62, 64, 66, 68, 70, 72, 74, 76, 78] rfl (by decide +kernel)
set_option maxRecDepth 20000 in
theorem gL_law_X4_amount : GoodIn lw_tbl (wsV RL 94 RX4 yX4_amount wsX4_amount) := goodIn_r _ [611, 612, 613, 18, 614, 396, 397, 568, 615, 400, 498, 499, 18, 500, 425, 427, 429, 431, 433, 435, 437, 439, 441, 443, 445, 447, 449, 451, 453, 455, 457, 459, 461, 463, 465, 467, 469, 471, 473, 475, 477, 479, 481, 483, 485] rfl (by decide +kernel)
set_option maxRecDepth 20000 in
theorem gL_law_X3_told : GoodIn lw_tbl (wsV RL 95 RX3 yX3_told wsX3_told) := goodIn_r _ [384, 385, 386, 14, 387, 142, 143, 139, 124, 144, 126, 137, 147, 149, 151, 153, 155, 157, 159, 161, 163, 165, 167, 127, 129, 131, 133] rfl (by decide +kernel)
set_option maxRecDepth 20000 in
theorem gL_law_X4_told : GoodIn lw_tbl (wsV RL 98 RX4 yX4_told wsX4_told) := goodIn_r _ [616, 617, 618, 18, 619, 394, 395, 411, 412, 413, 620, 610, 398, 498, 499, 18, 500, 425, 427, 429, 431, 433, 435, 437, 439, 441, 443, 445, 447, 449, 451, 453, 455, 457, 459, 461, 463, 465, 467, 469, 471, 473, 475, 477, 479, 481, 483, 485] rfl (by decide +kernel)
