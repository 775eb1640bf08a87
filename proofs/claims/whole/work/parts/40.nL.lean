theorem dL_cell_0 : decode cL_cell 0 = .ok (.iload_n 1, 1) := by decide +kernel
theorem dL_cell_1 : decode cL_cell 1 = .ok (.aload_n 0, 1) := by decide +kernel
theorem dL_cell_2 : decode cL_cell 2 = .ok (.arraylength, 1) := by decide +kernel
theorem dL_cell_3 : decode cL_cell 3 = .ok (.if_icmp .ge 9, 3) := by decide +kernel
theorem dL_cell_6 : decode cL_cell 6 = .ok (.aload_n 0, 1) := by decide +kernel
theorem dL_cell_7 : decode cL_cell 7 = .ok (.iload_n 1, 1) := by decide +kernel
theorem dL_cell_8 : decode cL_cell 8 = .ok (.iaload, 1) := by decide +kernel
theorem dL_cell_9 : decode cL_cell 9 = .ok (.goto 4, 3) := by decide +kernel
theorem dL_cell_12 : decode cL_cell 12 = .ok (.iconst 0, 1) := by decide +kernel
theorem dL_cell_13 : decode cL_cell 13 = .ok (.ireturn, 1) := by decide +kernel
set_option maxRecDepth 20000 in
theorem ggL_law_L_cell : GoodIn wsL_law wsL_cell := goodIn_r _ [9] (by decide +kernel) (by decide +kernel)
set_option maxRecDepth 20000 in
theorem gL_law_L_cell : GoodIn wsL_law (va_wsS RL 9 yL_cell wsL_cell) := goodIn_app (goodIn_of _ (by decide +kernel)) ggL_law_L_cell
set_option maxRecDepth 20000 in
theorem ggL_law_X6_init : GoodIn wsL_law wsX6_init := goodIn_r _ [12, 13, 14, 15, 16, 17, 18, 19, 20, 21, 22, 23, 24, 25, 26, 27, 28, 29, 30, 31, 32, 33, 34, 35, 36, 37, 38, 39, 40, 41, 42, 43, 44, 45, 46, 47, 48, 49, 50, 51, 52, 53, 54, 55, 56, 57, 58, 59, 60, 61, 62, 63, 64, 65, 66, 67, 68, 69, 70, 71, 72, 73, 74, 75, 76, 77, 78, 79, 80, 81, 82, 83, 84, 85, 474, 504, 505, 506, 507, 508, 509, 510, 511, 512, 513, 514, 515, 516, 517, 518, 519, 520, 521, 522, 523, 524, 525, 526, 527, 528, 529, 530, 531, 532, 533, 534, 535] (by decide +kernel) (by decide +kernel)
set_option maxRecDepth 20000 in
theorem gL_law_X6_init : GoodIn wsL_law (wsX6_init) := ggL_law_X6_init
set_option maxRecDepth 20000 in
theorem ggL_law_X7_init : GoodIn wsL_law wsX7_init := goodIn_r _ [88, 89, 14, 15, 90, 91, 92, 93, 94, 95, 96, 97, 98, 99, 75, 100, 101, 102, 103, 104, 105, 106, 107, 108, 109, 110, 111, 112, 113, 114, 115, 116, 117, 118, 119, 120, 121, 122, 123, 475, 476, 477, 478, 479, 480, 481, 482, 483, 484, 485, 486, 487, 488, 489, 490, 491, 492, 493, 494, 495, 496, 497, 498, 499, 500, 501, 502, 503] (by decide +kernel) (by decide +kernel)
set_option maxRecDepth 20000 in
theorem gL_law_X7_init : GoodIn wsL_law (wsX7_init) := ggL_law_X7_init
set_option maxRecDepth 20000 in
theorem ggL_law_X6_advance : GoodIn wsL_law wsX6_advance := goodIn_r _ [127, 128, 129, 130, 2, 131, 17, 132, 133, 134, 135, 136, 137, 29, 138, 57, 139, 140, 141, 50, 56, 142, 143, 144, 145, 146, 147, 148, 149, 150, 48, 49, 151, 152, 153, 47, 154, 68, 155, 156, 157, 55, 158, 85, 84, 159, 160, 161, 162, 163, 164, 165, 166, 167, 168, 169, 170, 171, 172, 173, 174, 175, 65, 176, 177, 178, 70, 179, 180, 76, 77, 181, 182, 183, 184, 185, 186, 187, 188, 189, 190, 191, 192, 193, 194, 195, 196, 197, 198, 199, 200, 201, 202, 59, 52, 203, 204, 205, 58, 206, 207, 208, 209, 27, 210, 211, 35, 212, 213, 214, 37, 215, 216, 217, 218, 19, 20, 21, 219, 220, 221, 222, 223, 224, 225, 226, 227, 228, 474, 506, 507, 508, 509, 510, 511, 512, 513, 514, 515, 516, 517, 518, 519, 529, 530, 531, 527, 528, 532, 533, 534, 535, 520, 521, 522, 523, 524, 525, 526, 504, 505] (by decide +kernel) (by decide +kernel)
set_option maxRecDepth 20000 in
theorem gL_law_X6_advance : GoodIn wsL_law (wsV RL 21 RX6 yX6_advance wsX6_advance) := goodIn_app (goodIn_of _ (by decide +kernel)) ggL_law_X6_advance
set_option maxRecDepth 20000 in
theorem ggL_law_X7_advance : GoodIn wsL_law wsX7_advance := goodIn_r _ [232, 93, 91, 103, 121, 92, 101, 120, 233, 234, 5, 235, 236, 237, 238, 239, 102, 240, 241, 242, 243, 244, 245, 246, 247, 104, 105, 248, 249, 106, 107, 250, 108, 110, 251, 252, 253, 254, 255, 256, 257, 258, 259, 260, 261, 262, 263, 111, 112, 99, 113, 114, 115, 94, 116, 118, 119, 264, 265, 266, 267, 475, 476, 477, 478, 479, 480, 481, 482, 483, 484, 485, 486, 487, 488, 489, 490, 491, 492, 493, 494, 495, 496, 497, 498, 499, 500, 501, 502, 503] (by decide +kernel) (by decide +kernel)
set_option maxRecDepth 20000 in
theorem gL_law_X7_advance : GoodIn wsL_law (wsV RL 25 RX7 yX7_advance wsX7_advance) := goodIn_app (goodIn_of _ (by decide +kernel)) ggL_law_X7_advance
set_option maxRecDepth 20000 in
theorem ggL_law_X6_deliver : GoodIn wsL_law wsX6_deliver := goodIn_r _ [271, 272, 128, 129, 130, 2, 131, 17, 132, 133, 134, 273, 274, 275, 27, 276, 211, 277, 278, 279, 280, 35, 281, 282, 283, 284, 285, 286, 287, 29, 288, 289, 203, 290, 146, 291, 292, 293, 140, 204, 205, 58, 56, 141, 57, 294, 295, 296, 297, 139, 206, 222, 223, 224, 37, 225, 226, 227, 228, 216, 219, 220, 298, 299, 300, 301, 302, 303, 19, 20, 21, 304, 305, 306, 307, 308, 195, 196, 197, 55, 198, 84, 85, 147, 148, 149, 150, 48, 49, 151, 152, 153, 47, 154, 68, 155, 156, 157, 158, 159, 160, 161, 162, 163, 164, 165, 166, 167, 168, 169, 170, 171, 172, 173, 174, 175, 65, 176, 177, 178, 70, 179, 180, 76, 77, 181, 182, 183, 184, 185, 186, 187, 188, 189, 190, 191, 192, 193, 194, 506, 507, 508, 509, 510, 511, 512, 513, 514, 515, 516, 517, 518, 519, 474, 504, 505, 520, 521, 522, 523, 524, 525, 526, 529, 530, 531, 527, 528, 532, 533, 534, 535] (by decide +kernel) (by decide +kernel)
set_option maxRecDepth 20000 in
theorem gL_law_X6_deliver : GoodIn wsL_law (wsV RL 26 RX6 yX6_deliver wsX6_deliver) := goodIn_app (goodIn_of _ (by decide +kernel)) ggL_law_X6_deliver
set_option maxRecDepth 20000 in
theorem ggL_law_X7_deliver : GoodIn wsL_law wsX7_deliver := goodIn_r _ [312, 111, 112, 98, 119, 93, 96, 92, 100, 313, 314, 91, 113, 114, 94, 103, 116, 115, 101, 118, 315, 233, 234, 5, 235, 316, 317, 318, 319, 320, 321, 322, 323, 264, 265, 266, 267, 324, 325, 326, 327, 102, 236, 237, 238, 239, 240, 241, 242, 243, 244, 245, 246, 247, 104, 105, 248, 249, 106, 107, 250, 108, 110, 251, 252, 253, 254, 255, 256, 257, 258, 259, 475, 476, 477, 478, 479, 480, 481, 482, 483, 484, 485, 486, 487, 488, 489, 490, 491, 492, 493, 494, 495, 496, 497, 498, 499, 500, 501, 502, 503] (by decide +kernel) (by decide +kernel)
set_option maxRecDepth 20000 in
theorem gL_law_X7_deliver : GoodIn wsL_law (wsV RL 30 RX7 yX7_deliver wsX7_deliver) := goodIn_app (goodIn_of _ (by decide +kernel)) ggL_law_X7_deliver
set_option maxRecDepth 20000 in
theorem ggL_law_X6_alter : GoodIn wsL_law wsX6_alter := goodIn_r _ [331, 272, 128, 129, 130, 2, 131, 17, 132, 133, 134, 273, 274, 275, 27, 276, 211, 277, 278, 279, 280, 35, 281, 282, 283, 284, 332, 333, 334, 335, 336, 208, 209, 210, 337, 338, 339, 37, 340, 226, 227, 228, 216, 219, 220, 341, 342, 506, 507, 508, 509, 510, 511, 512, 513, 514, 515, 516, 517, 518, 519, 474, 504, 505, 520, 521, 522, 523, 524, 525, 526] (by decide +kernel) (by decide +kernel)
set_option maxRecDepth 20000 in
theorem gL_law_X6_alter : GoodIn wsL_law (wsV RL 31 RX6 yX6_alter wsX6_alter) := goodIn_app (goodIn_of _ (by decide +kernel)) ggL_law_X6_alter
set_option maxRecDepth 20000 in
theorem ggL_law_X7_alter : GoodIn wsL_law wsX7_alter := goodIn_r _ [346, 111, 233, 234, 5, 235, 320, 321, 322, 323, 112, 113, 114, 115, 116, 118, 119, 316, 317, 318, 319, 475, 476, 477, 478, 479, 480, 481, 482, 483, 484, 485, 486, 487, 488, 489, 490, 491, 492, 493, 494, 495, 496, 497, 498, 499, 500, 501, 502, 503] (by decide +kernel) (by decide +kernel)
set_option maxRecDepth 20000 in
theorem gL_law_X7_alter : GoodIn wsL_law (wsV RL 35 RX7 yX7_alter wsX7_alter) := goodIn_app (goodIn_of _ (by decide +kernel)) ggL_law_X7_alter
set_option maxRecDepth 20000 in
theorem ggL_law_X6_spoil : GoodIn wsL_law wsX6_spoil := goodIn_r _ [350, 272, 128, 129, 130, 2, 131, 17, 132, 133, 134, 351, 278, 279, 27, 280, 211, 35, 352, 353, 354, 37, 355, 226, 227, 228, 216, 219, 220, 356, 341, 506, 507, 508, 509, 510, 511, 512, 513, 514, 515, 516, 517, 518, 519, 474, 504, 505, 520, 521, 522, 523, 524, 525, 526] (by decide +kernel) (by decide +kernel)
set_option maxRecDepth 20000 in
theorem gL_law_X6_spoil : GoodIn wsL_law (wsV RL 36 RX6 yX6_spoil wsX6_spoil) := goodIn_app (goodIn_of _ (by decide +kernel)) ggL_law_X6_spoil
set_option maxRecDepth 20000 in
theorem ggL_law_X7_spoil : GoodIn wsL_law wsX7_spoil := goodIn_r _ [360, 111, 112, 113, 114, 115, 116, 118, 361, 119, 233, 234, 5, 235, 475, 476, 477, 478, 479, 480, 481, 482, 483, 484, 485, 486, 487, 488, 489, 490, 491, 492, 493, 494, 495, 496, 497, 498, 499, 500, 501, 502, 503] (by decide +kernel) (by decide +kernel)
set_option maxRecDepth 20000 in
theorem gL_law_X7_spoil : GoodIn wsL_law (wsV RL 40 RX7 yX7_spoil wsX7_spoil) := goodIn_app (goodIn_of _ (by decide +kernel)) ggL_law_X7_spoil
set_option maxRecDepth 20000 in
theorem ggL_law_X6_about : GoodIn wsL_law wsX6_about := goodIn_r _ [365, 366, 367, 368, 369, 370, 272, 371, 372, 128, 129, 130, 2, 131, 17, 132, 133, 134, 373, 374, 375, 29, 376, 56, 141, 57, 139, 140, 303, 19, 20, 21, 506, 507, 508, 509, 510, 511, 512, 513, 514, 515, 516, 517, 518, 519, 529, 530, 531, 504, 505, 474] (by decide +kernel) (by decide +kernel)
set_option maxRecDepth 20000 in
theorem gL_law_X6_about : GoodIn wsL_law (wsV RL 41 RX6 yX6_about wsX6_about) := goodIn_app (goodIn_of _ (by decide +kernel)) ggL_law_X6_about
set_option maxRecDepth 20000 in
theorem ggL_law_X7_about : GoodIn wsL_law wsX7_about := goodIn_r _ [380, 103, 93, 91, 92, 111, 94, 233, 234, 5, 235, 475, 476, 477, 478, 479, 480, 481, 482, 483, 484, 485, 486, 487, 488, 489, 490, 491, 492, 493, 494, 495, 496, 497, 498, 499, 500, 501, 502, 503] (by decide +kernel) (by decide +kernel)
set_option maxRecDepth 20000 in
theorem gL_law_X7_about : GoodIn wsL_law (wsV RL 44 RX7 yX7_about wsX7_about) := goodIn_app (goodIn_of _ (by decide +kernel)) ggL_law_X7_about
set_option maxRecDepth 20000 in
theorem ggL_law_X6_known : GoodIn wsL_law wsX6_known := goodIn_r _ [384, 370, 128, 129, 130, 2, 131, 17, 132, 133, 134, 385, 165, 166, 29, 167, 49, 56, 57, 529, 530, 531, 474, 506, 507, 508, 509, 510, 511, 512, 513, 514, 515, 516, 517, 518, 519] (by decide +kernel) (by decide +kernel)
set_option maxRecDepth 20000 in
theorem gL_law_X6_known : GoodIn wsL_law (wsV RL 45 RX6 yX6_known wsX6_known) := goodIn_app (goodIn_of _ (by decide +kernel)) ggL_law_X6_known
set_option maxRecDepth 20000 in
theorem ggL_law_X7_known : GoodIn wsL_law wsX7_known := goodIn_r _ [389, 103, 233, 234, 5, 235, 475, 476, 477, 478, 479, 480, 481, 482, 483, 484, 485, 486, 487, 488, 489, 490, 491, 492, 493, 494, 495, 496, 497, 498, 499, 500, 501, 502, 503] (by decide +kernel) (by decide +kernel)
set_option maxRecDepth 20000 in
theorem gL_law_X7_known : GoodIn wsL_law (wsV RL 48 RX7 yX7_known wsX7_known) := goodIn_app (goodIn_of _ (by decide +kernel)) ggL_law_X7_known
set_option maxRecDepth 20000 in
theorem ggL_law_X6_used : GoodIn wsL_law wsX6_used := goodIn_r _ [393, 394, 366, 128, 129, 130, 2, 131, 17, 132, 133, 134, 395, 152, 153, 47, 154, 68, 506, 507, 508, 509, 510, 511, 512, 513, 514, 515, 516, 517, 518, 519, 474, 527, 528] (by decide +kernel) (by decide +kernel)
set_option maxRecDepth 20000 in
theorem gL_law_X6_used : GoodIn wsL_law (wsV RL 49 RX6 yX6_used wsX6_used) := goodIn_app (goodIn_of _ (by decide +kernel)) ggL_law_X6_used
set_option maxRecDepth 20000 in
theorem ggL_law_X7_used : GoodIn wsL_law wsX7_used := goodIn_r _ [399, 91, 102, 233, 234, 5, 235, 475, 476, 477, 478, 479, 480, 481, 482, 483, 484, 485, 486, 487, 488, 489, 490, 491, 492, 493, 494, 495, 496, 497, 498, 499, 500, 501, 502, 503] (by decide +kernel) (by decide +kernel)
set_option maxRecDepth 20000 in
theorem gL_law_X7_used : GoodIn wsL_law (wsV RL 53 RX7 yX7_used wsX7_used) := goodIn_app (goodIn_of _ (by decide +kernel)) ggL_law_X7_used
set_option maxRecDepth 20000 in
theorem ggL_law_X6_sum : GoodIn wsL_law wsX6_sum := goodIn_r _ [403, 394, 366, 128, 129, 130, 2, 131, 17, 132, 133, 134, 404, 405, 406, 47, 407, 172, 173, 174, 175, 65, 408, 409, 410, 70, 411, 76, 412, 77, 180, 181, 413, 506, 507, 508, 509, 510, 511, 512, 513, 514, 515, 516, 517, 518, 519, 474, 527, 528, 532, 533, 534, 535] (by decide +kernel) (by decide +kernel)
set_option maxRecDepth 20000 in
theorem gL_law_X6_sum : GoodIn wsL_law (wsV RL 54 RX6 yX6_sum wsX6_sum) := goodIn_app (goodIn_of _ (by decide +kernel)) ggL_law_X6_sum
set_option maxRecDepth 20000 in
theorem ggL_law_X7_sum : GoodIn wsL_law wsX7_sum := goodIn_r _ [417, 91, 104, 418, 105, 106, 107, 108, 110, 419, 233, 234, 5, 235, 475, 476, 477, 478, 479, 480, 481, 482, 483, 484, 485, 486, 487, 488, 489, 490, 491, 492, 493, 494, 495, 496, 497, 498, 499, 500, 501, 502, 503] (by decide +kernel) (by decide +kernel)
set_option maxRecDepth 20000 in
theorem gL_law_X7_sum : GoodIn wsL_law (wsV RL 57 RX7 yX7_sum wsX7_sum) := goodIn_app (goodIn_of _ (by decide +kernel)) ggL_law_X7_sum
set_option maxRecDepth 20000 in
theorem ggL_law_X6_place : GoodIn wsL_law wsX6_place := goodIn_r _ [423, 424, 425, 128, 129, 130, 2, 131, 17, 132, 133, 134, 426, 427, 428, 29, 429, 48, 140, 430, 173, 174, 47, 175, 65, 532, 533, 534, 535, 474, 506, 507, 508, 509, 510, 511, 512, 513, 514, 515, 516, 517, 518, 519, 527, 528] (by decide +kernel) (by decide +kernel)
set_option maxRecDepth 20000 in
theorem gL_law_X6_place : GoodIn wsL_law (wsV RL 58 RX6 yX6_place wsX6_place) := goodIn_app (goodIn_of _ (by decide +kernel)) ggL_law_X6_place
set_option maxRecDepth 20000 in
theorem ggL_law_X7_place : GoodIn wsL_law wsX7_place := goodIn_r _ [434, 435, 91, 104, 106, 233, 234, 5, 235, 475, 476, 477, 478, 479, 480, 481, 482, 483, 484, 485, 486, 487, 488, 489, 490, 491, 492, 493, 494, 495, 496, 497, 498, 499, 500, 501, 502, 503] (by decide +kernel) (by decide +kernel)
set_option maxRecDepth 20000 in
theorem gL_law_X7_place : GoodIn wsL_law (wsV RL 62 RX7 yX7_place wsX7_place) := goodIn_app (goodIn_of _ (by decide +kernel)) ggL_law_X7_place
set_option maxRecDepth 20000 in
theorem ggL_law_X6_speed : GoodIn wsL_law wsX6_speed := goodIn_r _ [439, 440, 128, 129, 130, 2, 131, 17, 132, 133, 134, 426, 427, 428, 29, 429, 48, 140, 430, 173, 174, 47, 175, 65, 532, 533, 534, 535, 474, 506, 507, 508, 509, 510, 511, 512, 513, 514, 515, 516, 517, 518, 519, 527, 528] (by decide +kernel) (by decide +kernel)
set_option maxRecDepth 20000 in
theorem gL_law_X6_speed : GoodIn wsL_law (wsV RL 63 RX6 yX6_speed wsX6_speed) := goodIn_app (goodIn_of _ (by decide +kernel)) ggL_law_X6_speed
set_option maxRecDepth 20000 in
theorem ggL_law_X7_speed : GoodIn wsL_law wsX7_speed := goodIn_r _ [444, 91, 105, 107, 233, 234, 5, 235, 475, 476, 477, 478, 479, 480, 481, 482, 483, 484, 485, 486, 487, 488, 489, 490, 491, 492, 493, 494, 495, 496, 497, 498, 499, 500, 501, 502, 503] (by decide +kernel) (by decide +kernel)
set_option maxRecDepth 20000 in
theorem gL_law_X7_speed : GoodIn wsL_law (wsV RL 66 RX7 yX7_speed wsX7_speed) := goodIn_app (goodIn_of _ (by decide +kernel)) ggL_law_X7_speed
set_option maxRecDepth 20000 in
theorem ggL_law_X6_hits : GoodIn wsL_law wsX6_hits := goodIn_r _ [448, 449, 128, 129, 130, 2, 131, 17, 132, 133, 134, 426, 427, 428, 29, 429, 48, 140, 430, 173, 174, 47, 175, 65, 532, 533, 534, 535, 474, 506, 507, 508, 509, 510, 511, 512, 513, 514, 515, 516, 517, 518, 519, 527, 528] (by decide +kernel) (by decide +kernel)
set_option maxRecDepth 20000 in
theorem gL_law_X6_hits : GoodIn wsL_law (wsV RL 67 RX6 yX6_hits wsX6_hits) := goodIn_app (goodIn_of _ (by decide +kernel)) ggL_law_X6_hits
set_option maxRecDepth 20000 in
theorem ggL_law_X7_hits : GoodIn wsL_law wsX7_hits := goodIn_r _ [453, 108, 91, 233, 234, 5, 235, 475, 476, 477, 478, 479, 480, 481, 482, 483, 484, 485, 486, 487, 488, 489, 490, 491, 492, 493, 494, 495, 496, 497, 498, 499, 500, 501, 502, 503] (by decide +kernel) (by decide +kernel)
set_option maxRecDepth 20000 in
theorem gL_law_X7_hits : GoodIn wsL_law (wsV RL 70 RX7 yX7_hits wsX7_hits) := goodIn_app (goodIn_of _ (by decide +kernel)) ggL_law_X7_hits
set_option maxRecDepth 20000 in
theorem ggL_law_X6_work : GoodIn wsL_law wsX6_work := goodIn_r _ [457, 458, 459, 128, 129, 130, 2, 131, 17, 132, 133, 134, 426, 427, 428, 29, 429, 48, 140, 430, 173, 174, 47, 175, 65, 532, 533, 534, 535, 474, 506, 507, 508, 509, 510, 511, 512, 513, 514, 515, 516, 517, 518, 519, 527, 528] (by decide +kernel) (by decide +kernel)
set_option maxRecDepth 20000 in
theorem gL_law_X6_work : GoodIn wsL_law (wsV RL 71 RX6 yX6_work wsX6_work) := goodIn_app (goodIn_of _ (by decide +kernel)) ggL_law_X6_work
set_option maxRecDepth 20000 in
theorem ggL_law_X7_work : GoodIn wsL_law wsX7_work := goodIn_r _ [463, 110, 91, 464, 233, 234, 5, 235, 475, 476, 477, 478, 479, 480, 481, 482, 483, 484, 485, 486, 487, 488, 489, 490, 491, 492, 493, 494, 495, 496, 497, 498, 499, 500, 501, 502, 503] (by decide +kernel) (by decide +kernel)
set_option maxRecDepth 20000 in
theorem gL_law_X7_work : GoodIn wsL_law (wsV RL 75 RX7 yX7_work wsX7_work) := goodIn_app (goodIn_of _ (by decide +kernel)) ggL_law_X7_work
set_option maxRecDepth 20000 in
theorem ggL_law_X6_advice : GoodIn wsL_law wsX6_advice := goodIn_r _ [468, 469, 128, 129, 130, 2, 131, 17, 132, 133, 134, 506, 507, 508, 509, 510, 511, 512, 513, 514, 515, 516, 517, 518, 519, 474] (by decide +kernel) (by decide +kernel)
set_option maxRecDepth 20000 in
theorem gL_law_X6_advice : GoodIn wsL_law (wsV RL 76 RX6 yX6_advice wsX6_advice) := goodIn_app (goodIn_of _ (by decide +kernel)) ggL_law_X6_advice
set_option maxRecDepth 20000 in
theorem ggL_law_X7_advice : GoodIn wsL_law wsX7_advice := goodIn_r _ [473, 100, 233, 234, 5, 235, 475, 476, 477, 478, 479, 480, 481, 482, 483, 484, 485, 486, 487, 488, 489, 490, 491, 492, 493, 494, 495, 496, 497, 498, 499, 500, 501, 502, 503] (by decide +kernel) (by decide +kernel)
set_option maxRecDepth 20000 in
theorem gL_law_X7_advice : GoodIn wsL_law (wsV RL 80 RX7 yX7_advice wsX7_advice) := goodIn_app (goodIn_of _ (by decide +kernel)) ggL_law_X7_advice
theorem dL_law_0 : decode cL_law 0 = .ok (.new 7, 3) := by decide +kernel
theorem dL_law_3 : decode cL_law 3 = .ok (.dup, 1) := by decide +kernel
theorem dL_law_4 : decode cL_law 4 = .ok (.aload_n 0, 1) := by decide +kernel
theorem dL_law_5 : decode cL_law 5 = .ok (.iconst 0, 1) := by decide +kernel
theorem dL_law_6 : decode cL_law 6 = .ok (.invokestatic 9, 3) := by decide +kernel
theorem dL_law_9 : decode cL_law 9 = .ok (.aload_n 0, 1) := by decide +kernel
theorem dL_law_10 : decode cL_law 10 = .ok (.iconst 1, 1) := by decide +kernel
theorem dL_law_11 : decode cL_law 11 = .ok (.invokestatic 9, 3) := by decide +kernel
theorem dL_law_14 : decode cL_law 14 = .ok (.aload_n 0, 1) := by decide +kernel
theorem dL_law_15 : decode cL_law 15 = .ok (.iconst 2, 1) := by decide +kernel
theorem dL_law_16 : decode cL_law 16 = .ok (.invokestatic 9, 3) := by decide +kernel
theorem dL_law_19 : decode cL_law 19 = .ok (.invokespecial 15, 3) := by decide +kernel
theorem dL_law_22 : decode cL_law 22 = .ok (.astore_n 1, 1) := by decide +kernel
theorem dL_law_23 : decode cL_law 23 = .ok (.new 18, 3) := by decide +kernel
theorem dL_law_26 : decode cL_law 26 = .ok (.dup, 1) := by decide +kernel
theorem dL_law_27 : decode cL_law 27 = .ok (.aload_n 0, 1) := by decide +kernel
theorem dL_law_28 : decode cL_law 28 = .ok (.iconst 0, 1) := by decide +kernel
theorem dL_law_29 : decode cL_law 29 = .ok (.invokestatic 9, 3) := by decide +kernel
theorem dL_law_32 : decode cL_law 32 = .ok (.aload_n 0, 1) := by decide +kernel
theorem dL_law_33 : decode cL_law 33 = .ok (.iconst 1, 1) := by decide +kernel
theorem dL_law_34 : decode cL_law 34 = .ok (.invokestatic 9, 3) := by decide +kernel
theorem dL_law_37 : decode cL_law 37 = .ok (.aload_n 0, 1) := by decide +kernel
theorem dL_law_38 : decode cL_law 38 = .ok (.iconst 2, 1) := by decide +kernel
theorem dL_law_39 : decode cL_law 39 = .ok (.invokestatic 9, 3) := by decide +kernel
theorem dL_law_42 : decode cL_law 42 = .ok (.invokespecial 20, 3) := by decide +kernel
theorem dL_law_45 : decode cL_law 45 = .ok (.astore_n 2, 1) := by decide +kernel
theorem dL_law_46 : decode cL_law 46 = .ok (.iconst 3, 1) := by decide +kernel
theorem dL_law_47 : decode cL_law 47 = .ok (.istore_n 3, 1) := by decide +kernel
theorem dL_law_48 : decode cL_law 48 = .ok (.iload_n 3, 1) := by decide +kernel
theorem dL_law_49 : decode cL_law 49 = .ok (.aload_n 0, 1) := by decide +kernel
theorem dL_law_50 : decode cL_law 50 = .ok (.arraylength, 1) := by decide +kernel
theorem dL_law_51 : decode cL_law 51 = .ok (.iconst 4, 1) := by decide +kernel
theorem dL_law_52 : decode cL_law 52 = .ok (.isub, 1) := by decide +kernel
theorem dL_law_53 : decode cL_law 53 = .ok (.if_icmp .gt 608, 3) := by decide +kernel
theorem dL_law_56 : decode cL_law 56 = .ok (.aload_n 0, 1) := by decide +kernel
theorem dL_law_57 : decode cL_law 57 = .ok (.iload_n 3, 1) := by decide +kernel
theorem dL_law_58 : decode cL_law 58 = .ok (.iaload, 1) := by decide +kernel
theorem dL_law_59 : decode cL_law 59 = .ok (.bipush 15, 2) := by decide +kernel
theorem dL_law_61 : decode cL_law 61 = .ok (.iand, 1) := by decide +kernel
theorem dL_law_62 : decode cL_law 62 = .ok (.tableswitch 593 0 12 #[66, 99, 122, 155, 198, 231, 264, 307, 340, 403, 466, 489, 540], 66) := by decide +kernel
theorem dL_law_128 : decode cL_law 128 = .ok (.aload_n 1, 1) := by decide +kernel
theorem dL_law_129 : decode cL_law 129 = .ok (.aload_n 0, 1) := by decide +kernel
theorem dL_law_130 : decode cL_law 130 = .ok (.iload_n 3, 1) := by decide +kernel
theorem dL_law_131 : decode cL_law 131 = .ok (.iconst 1, 1) := by decide +kernel
theorem dL_law_132 : decode cL_law 132 = .ok (.iadd, 1) := by decide +kernel
theorem dL_law_133 : decode cL_law 133 = .ok (.iaload, 1) := by decide +kernel
theorem dL_law_134 : decode cL_law 134 = .ok (.aload_n 0, 1) := by decide +kernel
theorem dL_law_135 : decode cL_law 135 = .ok (.iload_n 3, 1) := by decide +kernel
theorem dL_law_136 : decode cL_law 136 = .ok (.iconst 2, 1) := by decide +kernel
theorem dL_law_137 : decode cL_law 137 = .ok (.iadd, 1) := by decide +kernel
theorem dL_law_138 : decode cL_law 138 = .ok (.iaload, 1) := by decide +kernel
theorem dL_law_139 : decode cL_law 139 = .ok (.invokevirtual 21, 3) := by decide +kernel
theorem dL_law_142 : decode cL_law 142 = .ok (.aload_n 2, 1) := by decide +kernel
theorem dL_law_143 : decode cL_law 143 = .ok (.aload_n 0, 1) := by decide +kernel
theorem dL_law_144 : decode cL_law 144 = .ok (.iload_n 3, 1) := by decide +kernel
theorem dL_law_145 : decode cL_law 145 = .ok (.iconst 1, 1) := by decide +kernel
theorem dL_law_146 : decode cL_law 146 = .ok (.iadd, 1) := by decide +kernel
theorem dL_law_147 : decode cL_law 147 = .ok (.iaload, 1) := by decide +kernel
theorem dL_law_148 : decode cL_law 148 = .ok (.aload_n 0, 1) := by decide +kernel
theorem dL_law_149 : decode cL_law 149 = .ok (.iload_n 3, 1) := by decide +kernel
theorem dL_law_150 : decode cL_law 150 = .ok (.iconst 2, 1) := by decide +kernel
theorem dL_law_151 : decode cL_law 151 = .ok (.iadd, 1) := by decide +kernel
theorem dL_law_152 : decode cL_law 152 = .ok (.iaload, 1) := by decide +kernel
theorem dL_law_153 : decode cL_law 153 = .ok (.invokevirtual 25, 3) := by decide +kernel
theorem dL_law_156 : decode cL_law 156 = .ok (.if_icmp .eq 499, 3) := by decide +kernel
theorem dL_law_159 : decode cL_law 159 = .ok (.iconst 0, 1) := by decide +kernel
theorem dL_law_160 : decode cL_law 160 = .ok (.ireturn, 1) := by decide +kernel
theorem dL_law_161 : decode cL_law 161 = .ok (.aload_n 1, 1) := by decide +kernel
theorem dL_law_162 : decode cL_law 162 = .ok (.aload_n 0, 1) := by decide +kernel
theorem dL_law_163 : decode cL_law 163 = .ok (.iload_n 3, 1) := by decide +kernel
theorem dL_law_164 : decode cL_law 164 = .ok (.iconst 1, 1) := by decide +kernel
theorem dL_law_165 : decode cL_law 165 = .ok (.iadd, 1) := by decide +kernel
theorem dL_law_166 : decode cL_law 166 = .ok (.iaload, 1) := by decide +kernel
theorem dL_law_167 : decode cL_law 167 = .ok (.invokevirtual 26, 3) := by decide +kernel
theorem dL_law_170 : decode cL_law 170 = .ok (.aload_n 2, 1) := by decide +kernel
theorem dL_law_171 : decode cL_law 171 = .ok (.aload_n 0, 1) := by decide +kernel
theorem dL_law_172 : decode cL_law 172 = .ok (.iload_n 3, 1) := by decide +kernel
theorem dL_law_173 : decode cL_law 173 = .ok (.iconst 1, 1) := by decide +kernel
theorem dL_law_174 : decode cL_law 174 = .ok (.iadd, 1) := by decide +kernel
theorem dL_law_175 : decode cL_law 175 = .ok (.iaload, 1) := by decide +kernel
theorem dL_law_176 : decode cL_law 176 = .ok (.invokevirtual 30, 3) := by decide +kernel
theorem dL_law_179 : decode cL_law 179 = .ok (.if_icmp .eq 476, 3) := by decide +kernel
theorem dL_law_182 : decode cL_law 182 = .ok (.iconst 0, 1) := by decide +kernel
theorem dL_law_183 : decode cL_law 183 = .ok (.ireturn, 1) := by decide +kernel
theorem dL_law_184 : decode cL_law 184 = .ok (.aload_n 1, 1) := by decide +kernel
theorem dL_law_185 : decode cL_law 185 = .ok (.aload_n 0, 1) := by decide +kernel
theorem dL_law_186 : decode cL_law 186 = .ok (.iload_n 3, 1) := by decide +kernel
theorem dL_law_187 : decode cL_law 187 = .ok (.iconst 1, 1) := by decide +kernel
theorem dL_law_188 : decode cL_law 188 = .ok (.iadd, 1) := by decide +kernel
theorem dL_law_189 : decode cL_law 189 = .ok (.iaload, 1) := by decide +kernel
theorem dL_law_190 : decode cL_law 190 = .ok (.aload_n 0, 1) := by decide +kernel
theorem dL_law_191 : decode cL_law 191 = .ok (.iload_n 3, 1) := by decide +kernel
theorem dL_law_192 : decode cL_law 192 = .ok (.iconst 2, 1) := by decide +kernel
theorem dL_law_193 : decode cL_law 193 = .ok (.iadd, 1) := by decide +kernel
theorem dL_law_194 : decode cL_law 194 = .ok (.iaload, 1) := by decide +kernel
theorem dL_law_195 : decode cL_law 195 = .ok (.invokevirtual 31, 3) := by decide +kernel
theorem dL_law_198 : decode cL_law 198 = .ok (.aload_n 2, 1) := by decide +kernel
theorem dL_law_199 : decode cL_law 199 = .ok (.aload_n 0, 1) := by decide +kernel
theorem dL_law_200 : decode cL_law 200 = .ok (.iload_n 3, 1) := by decide +kernel
theorem dL_law_201 : decode cL_law 201 = .ok (.iconst 1, 1) := by decide +kernel
theorem dL_law_202 : decode cL_law 202 = .ok (.iadd, 1) := by decide +kernel
theorem dL_law_203 : decode cL_law 203 = .ok (.iaload, 1) := by decide +kernel
theorem dL_law_204 : decode cL_law 204 = .ok (.aload_n 0, 1) := by decide +kernel
theorem dL_law_205 : decode cL_law 205 = .ok (.iload_n 3, 1) := by decide +kernel
theorem dL_law_206 : decode cL_law 206 = .ok (.iconst 2, 1) := by decide +kernel
theorem dL_law_207 : decode cL_law 207 = .ok (.iadd, 1) := by decide +kernel
theorem dL_law_208 : decode cL_law 208 = .ok (.iaload, 1) := by decide +kernel
theorem dL_law_209 : decode cL_law 209 = .ok (.invokevirtual 35, 3) := by decide +kernel
theorem dL_law_212 : decode cL_law 212 = .ok (.if_icmp .eq 443, 3) := by decide +kernel
theorem dL_law_215 : decode cL_law 215 = .ok (.iconst 0, 1) := by decide +kernel
theorem dL_law_216 : decode cL_law 216 = .ok (.ireturn, 1) := by decide +kernel
theorem dL_law_217 : decode cL_law 217 = .ok (.aload_n 1, 1) := by decide +kernel
theorem dL_law_218 : decode cL_law 218 = .ok (.aload_n 0, 1) := by decide +kernel
theorem dL_law_219 : decode cL_law 219 = .ok (.iload_n 3, 1) := by decide +kernel
theorem dL_law_220 : decode cL_law 220 = .ok (.iconst 1, 1) := by decide +kernel
theorem dL_law_221 : decode cL_law 221 = .ok (.iadd, 1) := by decide +kernel
theorem dL_law_222 : decode cL_law 222 = .ok (.iaload, 1) := by decide +kernel
theorem dL_law_223 : decode cL_law 223 = .ok (.aload_n 0, 1) := by decide +kernel
theorem dL_law_224 : decode cL_law 224 = .ok (.iload_n 3, 1) := by decide +kernel
theorem dL_law_225 : decode cL_law 225 = .ok (.iconst 2, 1) := by decide +kernel
theorem dL_law_226 : decode cL_law 226 = .ok (.iadd, 1) := by decide +kernel
theorem dL_law_227 : decode cL_law 227 = .ok (.iaload, 1) := by decide +kernel
theorem dL_law_228 : decode cL_law 228 = .ok (.aload_n 0, 1) := by decide +kernel
theorem dL_law_229 : decode cL_law 229 = .ok (.iload_n 3, 1) := by decide +kernel
theorem dL_law_230 : decode cL_law 230 = .ok (.iconst 3, 1) := by decide +kernel
theorem dL_law_231 : decode cL_law 231 = .ok (.iadd, 1) := by decide +kernel
theorem dL_law_232 : decode cL_law 232 = .ok (.iaload, 1) := by decide +kernel
theorem dL_law_233 : decode cL_law 233 = .ok (.invokevirtual 36, 3) := by decide +kernel
theorem dL_law_236 : decode cL_law 236 = .ok (.aload_n 2, 1) := by decide +kernel
theorem dL_law_237 : decode cL_law 237 = .ok (.aload_n 0, 1) := by decide +kernel
theorem dL_law_238 : decode cL_law 238 = .ok (.iload_n 3, 1) := by decide +kernel
theorem dL_law_239 : decode cL_law 239 = .ok (.iconst 1, 1) := by decide +kernel
theorem dL_law_240 : decode cL_law 240 = .ok (.iadd, 1) := by decide +kernel
theorem dL_law_241 : decode cL_law 241 = .ok (.iaload, 1) := by decide +kernel
theorem dL_law_242 : decode cL_law 242 = .ok (.aload_n 0, 1) := by decide +kernel
theorem dL_law_243 : decode cL_law 243 = .ok (.iload_n 3, 1) := by decide +kernel
theorem dL_law_244 : decode cL_law 244 = .ok (.iconst 2, 1) := by decide +kernel
theorem dL_law_245 : decode cL_law 245 = .ok (.iadd, 1) := by decide +kernel
theorem dL_law_246 : decode cL_law 246 = .ok (.iaload, 1) := by decide +kernel
theorem dL_law_247 : decode cL_law 247 = .ok (.aload_n 0, 1) := by decide +kernel
theorem dL_law_248 : decode cL_law 248 = .ok (.iload_n 3, 1) := by decide +kernel
theorem dL_law_249 : decode cL_law 249 = .ok (.iconst 3, 1) := by decide +kernel
theorem dL_law_250 : decode cL_law 250 = .ok (.iadd, 1) := by decide +kernel
theorem dL_law_251 : decode cL_law 251 = .ok (.iaload, 1) := by decide +kernel
theorem dL_law_252 : decode cL_law 252 = .ok (.invokevirtual 40, 3) := by decide +kernel
theorem dL_law_255 : decode cL_law 255 = .ok (.if_icmp .eq 400, 3) := by decide +kernel
theorem dL_law_258 : decode cL_law 258 = .ok (.iconst 0, 1) := by decide +kernel
theorem dL_law_259 : decode cL_law 259 = .ok (.ireturn, 1) := by decide +kernel
theorem dL_law_260 : decode cL_law 260 = .ok (.aload_n 1, 1) := by decide +kernel
theorem dL_law_261 : decode cL_law 261 = .ok (.aload_n 0, 1) := by decide +kernel
theorem dL_law_262 : decode cL_law 262 = .ok (.iload_n 3, 1) := by decide +kernel
theorem dL_law_263 : decode cL_law 263 = .ok (.iconst 1, 1) := by decide +kernel
theorem dL_law_264 : decode cL_law 264 = .ok (.iadd, 1) := by decide +kernel
theorem dL_law_265 : decode cL_law 265 = .ok (.iaload, 1) := by decide +kernel
theorem dL_law_266 : decode cL_law 266 = .ok (.aload_n 0, 1) := by decide +kernel
theorem dL_law_267 : decode cL_law 267 = .ok (.iload_n 3, 1) := by decide +kernel
theorem dL_law_268 : decode cL_law 268 = .ok (.iconst 2, 1) := by decide +kernel
theorem dL_law_269 : decode cL_law 269 = .ok (.iadd, 1) := by decide +kernel
theorem dL_law_270 : decode cL_law 270 = .ok (.iaload, 1) := by decide +kernel
theorem dL_law_271 : decode cL_law 271 = .ok (.invokevirtual 41, 3) := by decide +kernel
theorem dL_law_274 : decode cL_law 274 = .ok (.aload_n 2, 1) := by decide +kernel
theorem dL_law_275 : decode cL_law 275 = .ok (.aload_n 0, 1) := by decide +kernel
theorem dL_law_276 : decode cL_law 276 = .ok (.iload_n 3, 1) := by decide +kernel
theorem dL_law_277 : decode cL_law 277 = .ok (.iconst 1, 1) := by decide +kernel
theorem dL_law_278 : decode cL_law 278 = .ok (.iadd, 1) := by decide +kernel
theorem dL_law_279 : decode cL_law 279 = .ok (.iaload, 1) := by decide +kernel
theorem dL_law_280 : decode cL_law 280 = .ok (.aload_n 0, 1) := by decide +kernel
theorem dL_law_281 : decode cL_law 281 = .ok (.iload_n 3, 1) := by decide +kernel
theorem dL_law_282 : decode cL_law 282 = .ok (.iconst 2, 1) := by decide +kernel
theorem dL_law_283 : decode cL_law 283 = .ok (.iadd, 1) := by decide +kernel
theorem dL_law_284 : decode cL_law 284 = .ok (.iaload, 1) := by decide +kernel
theorem dL_law_285 : decode cL_law 285 = .ok (.invokevirtual 44, 3) := by decide +kernel
theorem dL_law_288 : decode cL_law 288 = .ok (.if_icmp .eq 367, 3) := by decide +kernel
theorem dL_law_291 : decode cL_law 291 = .ok (.iconst 0, 1) := by decide +kernel
theorem dL_law_292 : decode cL_law 292 = .ok (.ireturn, 1) := by decide +kernel
theorem dL_law_293 : decode cL_law 293 = .ok (.aload_n 1, 1) := by decide +kernel
theorem dL_law_294 : decode cL_law 294 = .ok (.aload_n 0, 1) := by decide +kernel
theorem dL_law_295 : decode cL_law 295 = .ok (.iload_n 3, 1) := by decide +kernel
theorem dL_law_296 : decode cL_law 296 = .ok (.iconst 1, 1) := by decide +kernel
theorem dL_law_297 : decode cL_law 297 = .ok (.iadd, 1) := by decide +kernel
theorem dL_law_298 : decode cL_law 298 = .ok (.iaload, 1) := by decide +kernel
theorem dL_law_299 : decode cL_law 299 = .ok (.aload_n 0, 1) := by decide +kernel
theorem dL_law_300 : decode cL_law 300 = .ok (.iload_n 3, 1) := by decide +kernel
theorem dL_law_301 : decode cL_law 301 = .ok (.iconst 2, 1) := by decide +kernel
theorem dL_law_302 : decode cL_law 302 = .ok (.iadd, 1) := by decide +kernel
theorem dL_law_303 : decode cL_law 303 = .ok (.iaload, 1) := by decide +kernel
theorem dL_law_304 : decode cL_law 304 = .ok (.invokevirtual 45, 3) := by decide +kernel
theorem dL_law_307 : decode cL_law 307 = .ok (.aload_n 2, 1) := by decide +kernel
theorem dL_law_308 : decode cL_law 308 = .ok (.aload_n 0, 1) := by decide +kernel
theorem dL_law_309 : decode cL_law 309 = .ok (.iload_n 3, 1) := by decide +kernel
theorem dL_law_310 : decode cL_law 310 = .ok (.iconst 1, 1) := by decide +kernel
theorem dL_law_311 : decode cL_law 311 = .ok (.iadd, 1) := by decide +kernel
theorem dL_law_312 : decode cL_law 312 = .ok (.iaload, 1) := by decide +kernel
theorem dL_law_313 : decode cL_law 313 = .ok (.aload_n 0, 1) := by decide +kernel
theorem dL_law_314 : decode cL_law 314 = .ok (.iload_n 3, 1) := by decide +kernel
theorem dL_law_315 : decode cL_law 315 = .ok (.iconst 2, 1) := by decide +kernel
theorem dL_law_316 : decode cL_law 316 = .ok (.iadd, 1) := by decide +kernel
theorem dL_law_317 : decode cL_law 317 = .ok (.iaload, 1) := by decide +kernel
theorem dL_law_318 : decode cL_law 318 = .ok (.invokevirtual 48, 3) := by decide +kernel
theorem dL_law_321 : decode cL_law 321 = .ok (.if_icmp .eq 334, 3) := by decide +kernel
theorem dL_law_324 : decode cL_law 324 = .ok (.iconst 0, 1) := by decide +kernel
theorem dL_law_325 : decode cL_law 325 = .ok (.ireturn, 1) := by decide +kernel
theorem dL_law_326 : decode cL_law 326 = .ok (.aload_n 1, 1) := by decide +kernel
theorem dL_law_327 : decode cL_law 327 = .ok (.aload_n 0, 1) := by decide +kernel
theorem dL_law_328 : decode cL_law 328 = .ok (.iload_n 3, 1) := by decide +kernel
theorem dL_law_329 : decode cL_law 329 = .ok (.iconst 1, 1) := by decide +kernel
theorem dL_law_330 : decode cL_law 330 = .ok (.iadd, 1) := by decide +kernel
theorem dL_law_331 : decode cL_law 331 = .ok (.iaload, 1) := by decide +kernel
theorem dL_law_332 : decode cL_law 332 = .ok (.aload_n 0, 1) := by decide +kernel
theorem dL_law_333 : decode cL_law 333 = .ok (.iload_n 3, 1) := by decide +kernel
theorem dL_law_334 : decode cL_law 334 = .ok (.iconst 2, 1) := by decide +kernel
theorem dL_law_335 : decode cL_law 335 = .ok (.iadd, 1) := by decide +kernel
theorem dL_law_336 : decode cL_law 336 = .ok (.iaload, 1) := by decide +kernel
theorem dL_law_337 : decode cL_law 337 = .ok (.aload_n 0, 1) := by decide +kernel
theorem dL_law_338 : decode cL_law 338 = .ok (.iload_n 3, 1) := by decide +kernel
theorem dL_law_339 : decode cL_law 339 = .ok (.iconst 3, 1) := by decide +kernel
theorem dL_law_340 : decode cL_law 340 = .ok (.iadd, 1) := by decide +kernel
theorem dL_law_341 : decode cL_law 341 = .ok (.iaload, 1) := by decide +kernel
theorem dL_law_342 : decode cL_law 342 = .ok (.invokevirtual 49, 3) := by decide +kernel
theorem dL_law_345 : decode cL_law 345 = .ok (.aload_n 2, 1) := by decide +kernel
theorem dL_law_346 : decode cL_law 346 = .ok (.aload_n 0, 1) := by decide +kernel
theorem dL_law_347 : decode cL_law 347 = .ok (.iload_n 3, 1) := by decide +kernel
theorem dL_law_348 : decode cL_law 348 = .ok (.iconst 1, 1) := by decide +kernel
theorem dL_law_349 : decode cL_law 349 = .ok (.iadd, 1) := by decide +kernel
theorem dL_law_350 : decode cL_law 350 = .ok (.iaload, 1) := by decide +kernel
theorem dL_law_351 : decode cL_law 351 = .ok (.aload_n 0, 1) := by decide +kernel
theorem dL_law_352 : decode cL_law 352 = .ok (.iload_n 3, 1) := by decide +kernel
theorem dL_law_353 : decode cL_law 353 = .ok (.iconst 2, 1) := by decide +kernel
theorem dL_law_354 : decode cL_law 354 = .ok (.iadd, 1) := by decide +kernel
theorem dL_law_355 : decode cL_law 355 = .ok (.iaload, 1) := by decide +kernel
theorem dL_law_356 : decode cL_law 356 = .ok (.aload_n 0, 1) := by decide +kernel
theorem dL_law_357 : decode cL_law 357 = .ok (.iload_n 3, 1) := by decide +kernel
theorem dL_law_358 : decode cL_law 358 = .ok (.iconst 3, 1) := by decide +kernel
theorem dL_law_359 : decode cL_law 359 = .ok (.iadd, 1) := by decide +kernel
theorem dL_law_360 : decode cL_law 360 = .ok (.iaload, 1) := by decide +kernel
theorem dL_law_361 : decode cL_law 361 = .ok (.invokevirtual 53, 3) := by decide +kernel
theorem dL_law_364 : decode cL_law 364 = .ok (.if_icmp .eq 291, 3) := by decide +kernel
theorem dL_law_367 : decode cL_law 367 = .ok (.iconst 0, 1) := by decide +kernel
theorem dL_law_368 : decode cL_law 368 = .ok (.ireturn, 1) := by decide +kernel
theorem dL_law_369 : decode cL_law 369 = .ok (.aload_n 1, 1) := by decide +kernel
theorem dL_law_370 : decode cL_law 370 = .ok (.aload_n 0, 1) := by decide +kernel
theorem dL_law_371 : decode cL_law 371 = .ok (.iload_n 3, 1) := by decide +kernel
theorem dL_law_372 : decode cL_law 372 = .ok (.iconst 1, 1) := by decide +kernel
theorem dL_law_373 : decode cL_law 373 = .ok (.iadd, 1) := by decide +kernel
theorem dL_law_374 : decode cL_law 374 = .ok (.iaload, 1) := by decide +kernel
theorem dL_law_375 : decode cL_law 375 = .ok (.aload_n 0, 1) := by decide +kernel
theorem dL_law_376 : decode cL_law 376 = .ok (.iload_n 3, 1) := by decide +kernel
theorem dL_law_377 : decode cL_law 377 = .ok (.iconst 2, 1) := by decide +kernel
theorem dL_law_378 : decode cL_law 378 = .ok (.iadd, 1) := by decide +kernel
theorem dL_law_379 : decode cL_law 379 = .ok (.iaload, 1) := by decide +kernel
theorem dL_law_380 : decode cL_law 380 = .ok (.invokevirtual 54, 3) := by decide +kernel
theorem dL_law_383 : decode cL_law 383 = .ok (.aload_n 2, 1) := by decide +kernel
theorem dL_law_384 : decode cL_law 384 = .ok (.aload_n 0, 1) := by decide +kernel
theorem dL_law_385 : decode cL_law 385 = .ok (.iload_n 3, 1) := by decide +kernel
theorem dL_law_386 : decode cL_law 386 = .ok (.iconst 1, 1) := by decide +kernel
theorem dL_law_387 : decode cL_law 387 = .ok (.iadd, 1) := by decide +kernel
theorem dL_law_388 : decode cL_law 388 = .ok (.iaload, 1) := by decide +kernel
theorem dL_law_389 : decode cL_law 389 = .ok (.aload_n 0, 1) := by decide +kernel
theorem dL_law_390 : decode cL_law 390 = .ok (.iload_n 3, 1) := by decide +kernel
theorem dL_law_391 : decode cL_law 391 = .ok (.iconst 2, 1) := by decide +kernel
theorem dL_law_392 : decode cL_law 392 = .ok (.iadd, 1) := by decide +kernel
theorem dL_law_393 : decode cL_law 393 = .ok (.iaload, 1) := by decide +kernel
theorem dL_law_394 : decode cL_law 394 = .ok (.invokevirtual 57, 3) := by decide +kernel
theorem dL_law_397 : decode cL_law 397 = .ok (.if_icmp .eq 258, 3) := by decide +kernel
theorem dL_law_400 : decode cL_law 400 = .ok (.iconst 0, 1) := by decide +kernel
theorem dL_law_401 : decode cL_law 401 = .ok (.ireturn, 1) := by decide +kernel
theorem dL_law_402 : decode cL_law 402 = .ok (.aload_n 1, 1) := by decide +kernel
theorem dL_law_403 : decode cL_law 403 = .ok (.aload_n 0, 1) := by decide +kernel
theorem dL_law_404 : decode cL_law 404 = .ok (.iload_n 3, 1) := by decide +kernel
theorem dL_law_405 : decode cL_law 405 = .ok (.iconst 1, 1) := by decide +kernel
theorem dL_law_406 : decode cL_law 406 = .ok (.iadd, 1) := by decide +kernel
theorem dL_law_407 : decode cL_law 407 = .ok (.iaload, 1) := by decide +kernel
theorem dL_law_408 : decode cL_law 408 = .ok (.aload_n 0, 1) := by decide +kernel
theorem dL_law_409 : decode cL_law 409 = .ok (.iload_n 3, 1) := by decide +kernel
theorem dL_law_410 : decode cL_law 410 = .ok (.iconst 2, 1) := by decide +kernel
theorem dL_law_411 : decode cL_law 411 = .ok (.iadd, 1) := by decide +kernel
theorem dL_law_412 : decode cL_law 412 = .ok (.iaload, 1) := by decide +kernel
theorem dL_law_413 : decode cL_law 413 = .ok (.invokevirtual 58, 3) := by decide +kernel
theorem dL_law_416 : decode cL_law 416 = .ok (.f2d, 1) := by decide +kernel
theorem dL_law_417 : decode cL_law 417 = .ok (.dstore 4, 2) := by decide +kernel
theorem dL_law_419 : decode cL_law 419 = .ok (.aload_n 2, 1) := by decide +kernel
theorem dL_law_420 : decode cL_law 420 = .ok (.aload_n 0, 1) := by decide +kernel
theorem dL_law_421 : decode cL_law 421 = .ok (.iload_n 3, 1) := by decide +kernel
theorem dL_law_422 : decode cL_law 422 = .ok (.iconst 1, 1) := by decide +kernel
theorem dL_law_423 : decode cL_law 423 = .ok (.iadd, 1) := by decide +kernel
theorem dL_law_424 : decode cL_law 424 = .ok (.iaload, 1) := by decide +kernel
theorem dL_law_425 : decode cL_law 425 = .ok (.aload_n 0, 1) := by decide +kernel
theorem dL_law_426 : decode cL_law 426 = .ok (.iload_n 3, 1) := by decide +kernel
theorem dL_law_427 : decode cL_law 427 = .ok (.iconst 2, 1) := by decide +kernel
theorem dL_law_428 : decode cL_law 428 = .ok (.iadd, 1) := by decide +kernel
theorem dL_law_429 : decode cL_law 429 = .ok (.iaload, 1) := by decide +kernel
theorem dL_law_430 : decode cL_law 430 = .ok (.invokevirtual 62, 3) := by decide +kernel
theorem dL_law_433 : decode cL_law 433 = .ok (.f2d, 1) := by decide +kernel
theorem dL_law_434 : decode cL_law 434 = .ok (.dstore 6, 2) := by decide +kernel
theorem dL_law_436 : decode cL_law 436 = .ok (.dload 4, 2) := by decide +kernel
theorem dL_law_438 : decode cL_law 438 = .ok (.dload 6, 2) := by decide +kernel
theorem dL_law_440 : decode cL_law 440 = .ok (.dcmp .l, 1) := by decide +kernel
theorem dL_law_441 : decode cL_law 441 = .ok (.ifCond .eq 21, 3) := by decide +kernel
theorem dL_law_444 : decode cL_law 444 = .ok (.dload 4, 2) := by decide +kernel
theorem dL_law_446 : decode cL_law 446 = .ok (.dload 4, 2) := by decide +kernel
theorem dL_law_448 : decode cL_law 448 = .ok (.dcmp .l, 1) := by decide +kernel
theorem dL_law_449 : decode cL_law 449 = .ok (.ifCond .eq 11, 3) := by decide +kernel
theorem dL_law_452 : decode cL_law 452 = .ok (.dload 6, 2) := by decide +kernel
theorem dL_law_454 : decode cL_law 454 = .ok (.dload 6, 2) := by decide +kernel
theorem dL_law_456 : decode cL_law 456 = .ok (.dcmp .l, 1) := by decide +kernel
theorem dL_law_457 : decode cL_law 457 = .ok (.ifCond .ne 5, 3) := by decide +kernel
theorem dL_law_460 : decode cL_law 460 = .ok (.iconst 0, 1) := by decide +kernel
theorem dL_law_461 : decode cL_law 461 = .ok (.ireturn, 1) := by decide +kernel
theorem dL_law_462 : decode cL_law 462 = .ok (.goto 193, 3) := by decide +kernel
theorem dL_law_465 : decode cL_law 465 = .ok (.aload_n 1, 1) := by decide +kernel
theorem dL_law_466 : decode cL_law 466 = .ok (.aload_n 0, 1) := by decide +kernel
theorem dL_law_467 : decode cL_law 467 = .ok (.iload_n 3, 1) := by decide +kernel
theorem dL_law_468 : decode cL_law 468 = .ok (.iconst 1, 1) := by decide +kernel
theorem dL_law_469 : decode cL_law 469 = .ok (.iadd, 1) := by decide +kernel
theorem dL_law_470 : decode cL_law 470 = .ok (.iaload, 1) := by decide +kernel
theorem dL_law_471 : decode cL_law 471 = .ok (.aload_n 0, 1) := by decide +kernel
theorem dL_law_472 : decode cL_law 472 = .ok (.iload_n 3, 1) := by decide +kernel
theorem dL_law_473 : decode cL_law 473 = .ok (.iconst 2, 1) := by decide +kernel
theorem dL_law_474 : decode cL_law 474 = .ok (.iadd, 1) := by decide +kernel
theorem dL_law_475 : decode cL_law 475 = .ok (.iaload, 1) := by decide +kernel
theorem dL_law_476 : decode cL_law 476 = .ok (.invokevirtual 63, 3) := by decide +kernel
theorem dL_law_479 : decode cL_law 479 = .ok (.f2d, 1) := by decide +kernel
theorem dL_law_480 : decode cL_law 480 = .ok (.dstore 4, 2) := by decide +kernel
theorem dL_law_482 : decode cL_law 482 = .ok (.aload_n 2, 1) := by decide +kernel
theorem dL_law_483 : decode cL_law 483 = .ok (.aload_n 0, 1) := by decide +kernel
theorem dL_law_484 : decode cL_law 484 = .ok (.iload_n 3, 1) := by decide +kernel
theorem dL_law_485 : decode cL_law 485 = .ok (.iconst 1, 1) := by decide +kernel
theorem dL_law_486 : decode cL_law 486 = .ok (.iadd, 1) := by decide +kernel
theorem dL_law_487 : decode cL_law 487 = .ok (.iaload, 1) := by decide +kernel
theorem dL_law_488 : decode cL_law 488 = .ok (.aload_n 0, 1) := by decide +kernel
theorem dL_law_489 : decode cL_law 489 = .ok (.iload_n 3, 1) := by decide +kernel
theorem dL_law_490 : decode cL_law 490 = .ok (.iconst 2, 1) := by decide +kernel
theorem dL_law_491 : decode cL_law 491 = .ok (.iadd, 1) := by decide +kernel
theorem dL_law_492 : decode cL_law 492 = .ok (.iaload, 1) := by decide +kernel
theorem dL_law_493 : decode cL_law 493 = .ok (.invokevirtual 66, 3) := by decide +kernel
theorem dL_law_496 : decode cL_law 496 = .ok (.f2d, 1) := by decide +kernel
theorem dL_law_497 : decode cL_law 497 = .ok (.dstore 6, 2) := by decide +kernel
theorem dL_law_499 : decode cL_law 499 = .ok (.dload 4, 2) := by decide +kernel
theorem dL_law_501 : decode cL_law 501 = .ok (.dload 6, 2) := by decide +kernel
theorem dL_law_503 : decode cL_law 503 = .ok (.dcmp .l, 1) := by decide +kernel
theorem dL_law_504 : decode cL_law 504 = .ok (.ifCond .eq 21, 3) := by decide +kernel
theorem dL_law_507 : decode cL_law 507 = .ok (.dload 4, 2) := by decide +kernel
theorem dL_law_509 : decode cL_law 509 = .ok (.dload 4, 2) := by decide +kernel
theorem dL_law_511 : decode cL_law 511 = .ok (.dcmp .l, 1) := by decide +kernel
theorem dL_law_512 : decode cL_law 512 = .ok (.ifCond .eq 11, 3) := by decide +kernel
theorem dL_law_515 : decode cL_law 515 = .ok (.dload 6, 2) := by decide +kernel
theorem dL_law_517 : decode cL_law 517 = .ok (.dload 6, 2) := by decide +kernel
theorem dL_law_519 : decode cL_law 519 = .ok (.dcmp .l, 1) := by decide +kernel
theorem dL_law_520 : decode cL_law 520 = .ok (.ifCond .ne 5, 3) := by decide +kernel
theorem dL_law_523 : decode cL_law 523 = .ok (.iconst 0, 1) := by decide +kernel
theorem dL_law_524 : decode cL_law 524 = .ok (.ireturn, 1) := by decide +kernel
theorem dL_law_525 : decode cL_law 525 = .ok (.goto 130, 3) := by decide +kernel
theorem dL_law_528 : decode cL_law 528 = .ok (.aload_n 1, 1) := by decide +kernel
theorem dL_law_529 : decode cL_law 529 = .ok (.aload_n 0, 1) := by decide +kernel
theorem dL_law_530 : decode cL_law 530 = .ok (.iload_n 3, 1) := by decide +kernel
theorem dL_law_531 : decode cL_law 531 = .ok (.iconst 1, 1) := by decide +kernel
theorem dL_law_532 : decode cL_law 532 = .ok (.iadd, 1) := by decide +kernel
theorem dL_law_533 : decode cL_law 533 = .ok (.iaload, 1) := by decide +kernel
theorem dL_law_534 : decode cL_law 534 = .ok (.invokevirtual 67, 3) := by decide +kernel
theorem dL_law_537 : decode cL_law 537 = .ok (.aload_n 2, 1) := by decide +kernel
theorem dL_law_538 : decode cL_law 538 = .ok (.aload_n 0, 1) := by decide +kernel
theorem dL_law_539 : decode cL_law 539 = .ok (.iload_n 3, 1) := by decide +kernel
theorem dL_law_540 : decode cL_law 540 = .ok (.iconst 1, 1) := by decide +kernel
theorem dL_law_541 : decode cL_law 541 = .ok (.iadd, 1) := by decide +kernel
theorem dL_law_542 : decode cL_law 542 = .ok (.iaload, 1) := by decide +kernel
theorem dL_law_543 : decode cL_law 543 = .ok (.invokevirtual 70, 3) := by decide +kernel
theorem dL_law_546 : decode cL_law 546 = .ok (.if_icmp .eq 109, 3) := by decide +kernel
theorem dL_law_549 : decode cL_law 549 = .ok (.iconst 0, 1) := by decide +kernel
theorem dL_law_550 : decode cL_law 550 = .ok (.ireturn, 1) := by decide +kernel
theorem dL_law_551 : decode cL_law 551 = .ok (.aload_n 1, 1) := by decide +kernel
theorem dL_law_552 : decode cL_law 552 = .ok (.aload_n 0, 1) := by decide +kernel
theorem dL_law_553 : decode cL_law 553 = .ok (.iload_n 3, 1) := by decide +kernel
theorem dL_law_554 : decode cL_law 554 = .ok (.iconst 1, 1) := by decide +kernel
theorem dL_law_555 : decode cL_law 555 = .ok (.iadd, 1) := by decide +kernel
theorem dL_law_556 : decode cL_law 556 = .ok (.iaload, 1) := by decide +kernel
theorem dL_law_557 : decode cL_law 557 = .ok (.invokevirtual 71, 3) := by decide +kernel
theorem dL_law_560 : decode cL_law 560 = .ok (.dstore 4, 2) := by decide +kernel
theorem dL_law_562 : decode cL_law 562 = .ok (.aload_n 2, 1) := by decide +kernel
theorem dL_law_563 : decode cL_law 563 = .ok (.aload_n 0, 1) := by decide +kernel
theorem dL_law_564 : decode cL_law 564 = .ok (.iload_n 3, 1) := by decide +kernel
theorem dL_law_565 : decode cL_law 565 = .ok (.iconst 1, 1) := by decide +kernel
theorem dL_law_566 : decode cL_law 566 = .ok (.iadd, 1) := by decide +kernel
theorem dL_law_567 : decode cL_law 567 = .ok (.iaload, 1) := by decide +kernel
theorem dL_law_568 : decode cL_law 568 = .ok (.invokevirtual 75, 3) := by decide +kernel
theorem dL_law_571 : decode cL_law 571 = .ok (.dstore 6, 2) := by decide +kernel
theorem dL_law_573 : decode cL_law 573 = .ok (.dload 4, 2) := by decide +kernel
theorem dL_law_575 : decode cL_law 575 = .ok (.dload 6, 2) := by decide +kernel
theorem dL_law_577 : decode cL_law 577 = .ok (.dcmp .l, 1) := by decide +kernel
theorem dL_law_578 : decode cL_law 578 = .ok (.ifCond .eq 21, 3) := by decide +kernel
theorem dL_law_581 : decode cL_law 581 = .ok (.dload 4, 2) := by decide +kernel
theorem dL_law_583 : decode cL_law 583 = .ok (.dload 4, 2) := by decide +kernel
theorem dL_law_585 : decode cL_law 585 = .ok (.dcmp .l, 1) := by decide +kernel
theorem dL_law_586 : decode cL_law 586 = .ok (.ifCond .eq 11, 3) := by decide +kernel
theorem dL_law_589 : decode cL_law 589 = .ok (.dload 6, 2) := by decide +kernel
theorem dL_law_591 : decode cL_law 591 = .ok (.dload 6, 2) := by decide +kernel
theorem dL_law_593 : decode cL_law 593 = .ok (.dcmp .l, 1) := by decide +kernel
theorem dL_law_594 : decode cL_law 594 = .ok (.ifCond .ne 5, 3) := by decide +kernel
theorem dL_law_597 : decode cL_law 597 = .ok (.iconst 0, 1) := by decide +kernel
theorem dL_law_598 : decode cL_law 598 = .ok (.ireturn, 1) := by decide +kernel
theorem dL_law_599 : decode cL_law 599 = .ok (.goto 56, 3) := by decide +kernel
theorem dL_law_602 : decode cL_law 602 = .ok (.aload_n 1, 1) := by decide +kernel
theorem dL_law_603 : decode cL_law 603 = .ok (.aload_n 0, 1) := by decide +kernel
theorem dL_law_604 : decode cL_law 604 = .ok (.iload_n 3, 1) := by decide +kernel
theorem dL_law_605 : decode cL_law 605 = .ok (.iconst 1, 1) := by decide +kernel
theorem dL_law_606 : decode cL_law 606 = .ok (.iadd, 1) := by decide +kernel
theorem dL_law_607 : decode cL_law 607 = .ok (.iaload, 1) := by decide +kernel
theorem dL_law_608 : decode cL_law 608 = .ok (.invokevirtual 76, 3) := by decide +kernel
theorem dL_law_611 : decode cL_law 611 = .ok (.f2d, 1) := by decide +kernel
theorem dL_law_612 : decode cL_law 612 = .ok (.dstore 4, 2) := by decide +kernel
theorem dL_law_614 : decode cL_law 614 = .ok (.aload_n 2, 1) := by decide +kernel
theorem dL_law_615 : decode cL_law 615 = .ok (.aload_n 0, 1) := by decide +kernel
theorem dL_law_616 : decode cL_law 616 = .ok (.iload_n 3, 1) := by decide +kernel
theorem dL_law_617 : decode cL_law 617 = .ok (.iconst 1, 1) := by decide +kernel
theorem dL_law_618 : decode cL_law 618 = .ok (.iadd, 1) := by decide +kernel
theorem dL_law_619 : decode cL_law 619 = .ok (.iaload, 1) := by decide +kernel
theorem dL_law_620 : decode cL_law 620 = .ok (.invokevirtual 80, 3) := by decide +kernel
theorem dL_law_623 : decode cL_law 623 = .ok (.f2d, 1) := by decide +kernel
theorem dL_law_624 : decode cL_law 624 = .ok (.dstore 6, 2) := by decide +kernel
theorem dL_law_626 : decode cL_law 626 = .ok (.dload 4, 2) := by decide +kernel
theorem dL_law_628 : decode cL_law 628 = .ok (.dload 6, 2) := by decide +kernel
theorem dL_law_630 : decode cL_law 630 = .ok (.dcmp .l, 1) := by decide +kernel
theorem dL_law_631 : decode cL_law 631 = .ok (.ifCond .eq 21, 3) := by decide +kernel
theorem dL_law_634 : decode cL_law 634 = .ok (.dload 4, 2) := by decide +kernel
theorem dL_law_636 : decode cL_law 636 = .ok (.dload 4, 2) := by decide +kernel
theorem dL_law_638 : decode cL_law 638 = .ok (.dcmp .l, 1) := by decide +kernel
theorem dL_law_639 : decode cL_law 639 = .ok (.ifCond .eq 11, 3) := by decide +kernel
theorem dL_law_642 : decode cL_law 642 = .ok (.dload 6, 2) := by decide +kernel
theorem dL_law_644 : decode cL_law 644 = .ok (.dload 6, 2) := by decide +kernel
theorem dL_law_646 : decode cL_law 646 = .ok (.dcmp .l, 1) := by decide +kernel
theorem dL_law_647 : decode cL_law 647 = .ok (.ifCond .ne 5, 3) := by decide +kernel
theorem dL_law_650 : decode cL_law 650 = .ok (.iconst 0, 1) := by decide +kernel
theorem dL_law_651 : decode cL_law 651 = .ok (.ireturn, 1) := by decide +kernel
theorem dL_law_652 : decode cL_law 652 = .ok (.goto 3, 3) := by decide +kernel
theorem dL_law_655 : decode cL_law 655 = .ok (.iinc 3 4, 3) := by decide +kernel
theorem dL_law_658 : decode cL_law 658 = .ok (.goto (-610), 3) := by decide +kernel
theorem dL_law_661 : decode cL_law 661 = .ok (.iconst 1, 1) := by decide +kernel
theorem dL_law_662 : decode cL_law 662 = .ok (.ireturn, 1) := by decide +kernel
