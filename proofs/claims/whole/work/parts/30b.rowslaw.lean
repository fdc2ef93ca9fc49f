theorem dL_cell_0 : decode cL_cell 0 = .ok (.iload_n 1, 1) := by decide +kernel
theorem dL_cell_1 : decode cL_cell 1 = .ok (.aload_n 0, 1) := by decide +kernel
theorem dL_cell_2 : decode cL_cell 2 = .ok (.arraylength, 1) := by decide +kernel
theorem dL_cell_3 : decode cL_cell 3 = .ok (.if_icmp .ge 9, 3) := by decide +kernel
theorem dL_cell_6 : decode cL_cell 6 = .ok (.aload_n 0, 1) := by decide +kernel
theorem dL_cell_7 : decode cL_cell 7 = .ok (.iload_n 1, 1) := by decide +kernel
theorem dL_cell_8 : decode cL_cell 8 = .ok (.iaload, 1) := by decide +kernel
theorem dL_cell_9 : decode cL_cell 9 = .ok (.goto 4, 3) := by decide +kernel
theorem dL_cell_12 : decode cL_cell 12 = .ok (.iconst 0, 1) := by decide +kernel
theorem dL_cell_13 : decode cL_cell 13 = .ok (.ireturn, 1) := by decide +kernel
set_option maxRecDepth 20000 in
theorem ggL_law_L_cell : GoodIn wsL_law wsL_cell := goodIn_r _ [9] (by decide +kernel) (by decide +kernel)
set_option maxRecDepth 20000 in
theorem gL_law_L_cell : GoodIn wsL_law (va_wsS RL 9 yL_cell wsL_cell) := goodIn_app (goodIn_of _ (by decide +kernel)) ggL_law_L_cell
set_option maxRecDepth 20000 in
theorem ggL_law_X2_init : GoodIn wsL_law wsX2_init := goodIn_r _ [12, 13, 14, 15, 16, 17, 18, 19, 20, 21, 22, 23, 24, 25, 26, 27, 28, 29, 30, 31, 32, 33, 34, 35, 36, 37, 38, 39, 40, 41, 42, 43, 44, 45, 46, 47, 48, 49, 50, 51, 52, 53, 608, 609, 610, 575, 576, 577, 578, 579, 580, 581, 582, 583, 584, 585, 586, 587, 588, 611] (by decide +kernel) (by decide +kernel)
set_option maxRecDepth 20000 in
theorem gL_law_X2_init : GoodIn wsL_law (wsX2_init) := ggL_law_X2_init
set_option maxRecDepth 20000 in
theorem ggL_law_X3_init : GoodIn wsL_law wsX3_init := goodIn_r _ [56, 57, 14, 15, 24, 58, 59, 60, 61, 62, 63, 64, 65, 66, 67, 68, 69, 70, 71, 72, 73, 74, 75, 76, 77, 78, 79, 80, 81, 82, 5, 83, 84, 85, 86, 87, 88, 89, 90, 91, 92, 93, 94, 95, 96, 97, 98, 99, 100, 101, 102, 103, 104, 105, 106, 107, 108, 109, 110, 111, 112, 113, 114, 115, 116, 117, 118, 119, 120, 121, 122, 123, 124, 125, 126, 127, 128, 129, 130, 131, 132, 133, 134, 135, 136, 137, 138, 139, 140, 141, 142, 143, 144, 145, 146, 147, 148, 149, 150, 151, 589, 590, 591, 592, 593, 594, 595, 596, 597, 598, 599, 600, 601, 602, 603, 604, 605, 606, 607] (by decide +kernel) (by decide +kernel)
set_option maxRecDepth 20000 in
theorem gL_law_X3_init : GoodIn wsL_law (wsX3_init) := ggL_law_X3_init
set_option maxRecDepth 20000 in
theorem ggL_law_X2_put : GoodIn wsL_law wsX2_put := goodIn_r _ [155, 30, 27, 156, 157, 158, 2, 159, 39, 40, 575, 576, 577, 578, 579, 580, 581, 582, 583, 584, 585, 586, 587, 588] (by decide +kernel) (by decide +kernel)
set_option maxRecDepth 20000 in
theorem gL_law_X2_put : GoodIn wsL_law (wsV RL 21 RX2 yX2_put wsX2_put) := goodIn_app (goodIn_of _ (by decide +kernel)) ggL_law_X2_put
set_option maxRecDepth 20000 in
theorem ggL_law_X3_put : GoodIn wsL_law wsX3_put := goodIn_r _ [163, 164, 60, 165, 166, 167, 5, 168, 169, 61, 589, 590, 591, 592, 593, 594, 595, 596, 597, 598, 599, 600, 601, 602, 603, 604, 605, 606, 607] (by decide +kernel) (by decide +kernel)
set_option maxRecDepth 20000 in
theorem gL_law_X3_put : GoodIn wsL_law (wsV RL 25 RX3 yX3_put wsX3_put) := goodIn_app (goodIn_of _ (by decide +kernel)) ggL_law_X3_put
set_option maxRecDepth 20000 in
theorem ggL_law_X2_takeBack : GoodIn wsL_law wsX2_takeBack := goodIn_r _ [173, 30, 174, 175, 176, 2, 177, 27, 178, 179, 180, 181, 182, 183, 184, 156, 157, 158, 159, 39, 40, 575, 576, 577, 578, 579, 580, 581, 582, 583, 584, 585, 586, 587, 588] (by decide +kernel) (by decide +kernel)
set_option maxRecDepth 20000 in
theorem gL_law_X2_takeBack : GoodIn wsL_law (wsV RL 26 RX2 yX2_takeBack wsX2_takeBack) := goodIn_app (goodIn_of _ (by decide +kernel)) ggL_law_X2_takeBack
set_option maxRecDepth 20000 in
theorem ggL_law_X3_takeBack : GoodIn wsL_law wsX3_takeBack := goodIn_r _ [188, 164, 165, 166, 167, 5, 168, 169, 61, 589, 590, 591, 592, 593, 594, 595, 596, 597, 598, 599, 600, 601, 602, 603, 604, 605, 606, 607] (by decide +kernel) (by decide +kernel)
set_option maxRecDepth 20000 in
theorem gL_law_X3_takeBack : GoodIn wsL_law (wsV RL 29 RX3 yX3_takeBack wsX3_takeBack) := goodIn_app (goodIn_of _ (by decide +kernel)) ggL_law_X3_takeBack
set_option maxRecDepth 20000 in
theorem ggL_law_X2_pending : GoodIn wsL_law wsX2_pending := goodIn_r _ [192, 30, 27, 575, 576, 577, 578, 579, 580, 581, 582, 583, 584, 585, 586, 587, 588] (by decide +kernel) (by decide +kernel)
set_option maxRecDepth 20000 in
theorem gL_law_X2_pending : GoodIn wsL_law (wsV RL 30 RX2 yX2_pending wsX2_pending) := goodIn_app (goodIn_of _ (by decide +kernel)) ggL_law_X2_pending
set_option maxRecDepth 20000 in
theorem ggL_law_X3_pending : GoodIn wsL_law wsX3_pending := goodIn_r _ [196, 164, 60, 589, 590, 591, 592, 593, 594, 595, 596, 597, 598, 599, 600, 601, 602, 603, 604, 605, 606, 607] (by decide +kernel) (by decide +kernel)
set_option maxRecDepth 20000 in
theorem gL_law_X3_pending : GoodIn wsL_law (wsV RL 33 RX3 yX3_pending wsX3_pending) := goodIn_app (goodIn_of _ (by decide +kernel)) ggL_law_X3_pending
set_option maxRecDepth 20000 in
theorem ggL_law_X2_difficulty : GoodIn wsL_law wsX2_difficulty := goodIn_r _ [200, 38, 156, 157, 158, 2, 159, 39, 40, 575, 576, 577, 578, 579, 580, 581, 582, 583, 584, 585, 586, 587, 588] (by decide +kernel) (by decide +kernel)
set_option maxRecDepth 20000 in
theorem gL_law_X2_difficulty : GoodIn wsL_law (wsV RL 34 RX2 yX2_difficulty wsX2_difficulty) := goodIn_app (goodIn_of _ (by decide +kernel)) ggL_law_X2_difficulty
set_option maxRecDepth 20000 in
theorem ggL_law_X3_difficulty : GoodIn wsL_law wsX3_difficulty := goodIn_r _ [204, 71, 165, 166, 167, 5, 168, 169, 61, 589, 590, 591, 592, 593, 594, 595, 596, 597, 598, 599, 600, 601, 602, 603, 604, 605, 606, 607] (by decide +kernel) (by decide +kernel)
set_option maxRecDepth 20000 in
theorem gL_law_X3_difficulty : GoodIn wsL_law (wsV RL 37 RX3 yX3_difficulty wsX3_difficulty) := goodIn_app (goodIn_of _ (by decide +kernel)) ggL_law_X3_difficulty
set_option maxRecDepth 20000 in
theorem ggL_law_X2_mine : GoodIn wsL_law wsX2_mine := goodIn_r _ [208, 40, 39, 209, 31, 32, 33, 34, 210, 211, 212, 2, 213, 29, 27, 38, 30, 214, 215, 216, 217, 25, 218, 219, 220, 221, 222, 223, 224, 225, 178, 179, 180, 181, 182, 183, 184, 226, 227, 228, 229, 230, 231, 232, 19, 233, 234, 235, 18, 236, 237, 47, 238, 49, 239, 240, 241, 242, 243, 244, 245, 246, 247, 248, 249, 250, 251, 252, 253, 48, 254, 255, 256, 257, 258, 259, 260, 261, 262, 263, 264, 265, 266, 267, 268, 575, 576, 577, 578, 579, 580, 581, 582, 583, 584, 585, 586, 587, 588, 608, 609, 610] (by decide +kernel) (by decide +kernel)
set_option maxRecDepth 20000 in
theorem gL_law_X2_mine : GoodIn wsL_law (wsV RL 38 RX2 yX2_mine wsX2_mine) := goodIn_app (goodIn_of _ (by decide +kernel)) ggL_law_X2_mine
set_option maxRecDepth 20000 in
theorem ggL_law_X3_mine : GoodIn wsL_law wsX3_mine := goodIn_r _ [272, 61, 169, 273, 70, 71, 274, 275, 276, 5, 277, 278, 164, 60, 279, 280, 281, 282, 58, 283, 284, 285, 286, 287, 288, 289, 67, 66, 69, 68, 290, 291, 292, 293, 65, 294, 295, 296, 297, 298, 299, 300, 301, 302, 303, 304, 305, 306, 307, 308, 589, 590, 591, 592, 593, 594, 595, 596, 597, 598, 599, 600, 601, 602, 603, 604, 605, 606, 607] (by decide +kernel) (by decide +kernel)
set_option maxRecDepth 20000 in
theorem gL_law_X3_mine : GoodIn wsL_law (wsV RL 41 RX3 yX3_mine wsX3_mine) := goodIn_app (goodIn_of _ (by decide +kernel)) ggL_law_X3_mine
set_option maxRecDepth 20000 in
theorem ggL_law_X2_tried : GoodIn wsL_law wsX2_tried := goodIn_r _ [312, 39, 575, 576, 577, 578, 579, 580, 581, 582, 583, 584, 585, 586, 587, 588] (by decide +kernel) (by decide +kernel)
set_option maxRecDepth 20000 in
theorem gL_law_X2_tried : GoodIn wsL_law (wsV RL 42 RX2 yX2_tried wsX2_tried) := goodIn_app (goodIn_of _ (by decide +kernel)) ggL_law_X2_tried
set_option maxRecDepth 20000 in
theorem ggL_law_X3_tried : GoodIn wsL_law wsX3_tried := goodIn_r _ [316, 169, 589, 590, 591, 592, 593, 594, 595, 596, 597, 598, 599, 600, 601, 602, 603, 604, 605, 606, 607] (by decide +kernel) (by decide +kernel)
set_option maxRecDepth 20000 in
theorem gL_law_X3_tried : GoodIn wsL_law (wsV RL 46 RX3 yX3_tried wsX3_tried) := goodIn_app (goodIn_of _ (by decide +kernel)) ggL_law_X3_tried
set_option maxRecDepth 20000 in
theorem ggL_law_X2_commit : GoodIn wsL_law wsX2_commit := goodIn_r _ [320, 29, 40, 27, 25, 218, 219, 220, 221, 26, 321, 322, 323, 2, 324, 23, 325, 326, 327, 22, 328, 53, 329, 330, 331, 332, 333, 334, 335, 336, 337, 338, 339, 340, 248, 249, 174, 175, 176, 177, 30, 178, 179, 180, 181, 182, 183, 184, 156, 157, 158, 159, 39, 575, 576, 577, 578, 579, 580, 581, 582, 583, 584, 585, 586, 587, 588, 611] (by decide +kernel) (by decide +kernel)
set_option maxRecDepth 20000 in
theorem gL_law_X2_commit : GoodIn wsL_law (wsV RL 47 RX2 yX2_commit wsX2_commit) := goodIn_app (goodIn_of _ (by decide +kernel)) ggL_law_X2_commit
set_option maxRecDepth 20000 in
theorem ggL_law_X3_commit : GoodIn wsL_law wsX3_commit := goodIn_r _ [344, 278, 61, 70, 58, 67, 59, 164, 274, 275, 276, 5, 277, 60, 71, 279, 280, 281, 282, 283, 284, 285, 286, 287, 288, 289, 66, 69, 68, 290, 291, 292, 293, 65, 294, 295, 296, 297, 298, 299, 300, 301, 345, 346, 347, 348, 63, 349, 350, 351, 352, 353, 354, 355, 356, 357, 358, 359, 360, 361, 362, 165, 166, 167, 168, 169, 589, 590, 591, 592, 593, 594, 595, 596, 597, 598, 599, 600, 601, 602, 603, 604, 605, 606, 607] (by decide +kernel) (by decide +kernel)
set_option maxRecDepth 20000 in
theorem gL_law_X3_commit : GoodIn wsL_law (wsV RL 50 RX3 yX3_commit wsX3_commit) := goodIn_app (goodIn_of _ (by decide +kernel)) ggL_law_X3_commit
set_option maxRecDepth 20000 in
theorem ggL_law_X2_count : GoodIn wsL_law wsX2_count := goodIn_r _ [366, 29, 575, 576, 577, 578, 579, 580, 581, 582, 583, 584, 585, 586, 587, 588] (by decide +kernel) (by decide +kernel)
set_option maxRecDepth 20000 in
theorem gL_law_X2_count : GoodIn wsL_law (wsV RL 51 RX2 yX2_count wsX2_count) := goodIn_app (goodIn_of _ (by decide +kernel)) ggL_law_X2_count
set_option maxRecDepth 20000 in
theorem ggL_law_X3_count : GoodIn wsL_law wsX3_count := goodIn_r _ [370, 278, 589, 590, 591, 592, 593, 594, 595, 596, 597, 598, 599, 600, 601, 602, 603, 604, 605, 606, 607] (by decide +kernel) (by decide +kernel)
set_option maxRecDepth 20000 in
theorem gL_law_X3_count : GoodIn wsL_law (wsV RL 54 RX3 yX3_count wsX3_count) := goodIn_app (goodIn_of _ (by decide +kernel)) ggL_law_X3_count
set_option maxRecDepth 20000 in
theorem ggL_law_X2_head : GoodIn wsL_law wsX2_head := goodIn_r _ [374, 26, 575, 576, 577, 578, 579, 580, 581, 582, 583, 584, 585, 586, 587, 588] (by decide +kernel) (by decide +kernel)
set_option maxRecDepth 20000 in
theorem gL_law_X2_head : GoodIn wsL_law (wsV RL 55 RX2 yX2_head wsX2_head) := goodIn_app (goodIn_of _ (by decide +kernel)) ggL_law_X2_head
set_option maxRecDepth 20000 in
theorem ggL_law_X3_head : GoodIn wsL_law wsX3_head := goodIn_r _ [378, 59, 589, 590, 591, 592, 593, 594, 595, 596, 597, 598, 599, 600, 601, 602, 603, 604, 605, 606, 607] (by decide +kernel) (by decide +kernel)
set_option maxRecDepth 20000 in
theorem gL_law_X3_head : GoodIn wsL_law (wsV RL 58 RX3 yX3_head wsX3_head) := goodIn_app (goodIn_of _ (by decide +kernel)) ggL_law_X3_head
set_option maxRecDepth 20000 in
theorem ggL_law_X2_cell : GoodIn wsL_law wsX2_cell := goodIn_r _ [382, 25, 383, 384, 385, 2, 386, 222, 223, 224, 225, 29, 575, 576, 577, 578, 579, 580, 581, 582, 583, 584, 585, 586, 587, 588] (by decide +kernel) (by decide +kernel)
set_option maxRecDepth 20000 in
theorem gL_law_X2_cell : GoodIn wsL_law (wsV RL 59 RX2 yX2_cell wsX2_cell) := goodIn_app (goodIn_of _ (by decide +kernel)) ggL_law_X2_cell
set_option maxRecDepth 20000 in
theorem ggL_law_X3_cell : GoodIn wsL_law wsX3_cell := goodIn_r _ [390, 58, 391, 392, 393, 5, 394, 278, 589, 590, 591, 592, 593, 594, 595, 596, 597, 598, 599, 600, 601, 602, 603, 604, 605, 606, 607] (by decide +kernel) (by decide +kernel)
set_option maxRecDepth 20000 in
theorem gL_law_X3_cell : GoodIn wsL_law (wsV RL 62 RX3 yX3_cell wsX3_cell) := goodIn_app (goodIn_of _ (by decide +kernel)) ggL_law_X3_cell
set_option maxRecDepth 20000 in
theorem ggL_law_X2_spoil : GoodIn wsL_law wsX2_spoil := goodIn_r _ [398, 25, 383, 384, 385, 2, 386, 222, 223, 224, 225, 29, 156, 157, 158, 159, 39, 40, 575, 576, 577, 578, 579, 580, 581, 582, 583, 584, 585, 586, 587, 588] (by decide +kernel) (by decide +kernel)
set_option maxRecDepth 20000 in
theorem gL_law_X2_spoil : GoodIn wsL_law (wsV RL 63 RX2 yX2_spoil wsX2_spoil) := goodIn_app (goodIn_of _ (by decide +kernel)) ggL_law_X2_spoil
set_option maxRecDepth 20000 in
theorem ggL_law_X3_spoil : GoodIn wsL_law wsX3_spoil := goodIn_r _ [402, 58, 391, 392, 393, 5, 394, 278, 165, 166, 167, 168, 169, 61, 589, 590, 591, 592, 593, 594, 595, 596, 597, 598, 599, 600, 601, 602, 603, 604, 605, 606, 607] (by decide +kernel) (by decide +kernel)
set_option maxRecDepth 20000 in
theorem gL_law_X3_spoil : GoodIn wsL_law (wsV RL 67 RX3 yX3_spoil wsX3_spoil) := goodIn_app (goodIn_of _ (by decide +kernel)) ggL_law_X3_spoil
set_option maxRecDepth 20000 in
theorem ggL_law_X2_drop : GoodIn wsL_law wsX2_drop := goodIn_r _ [406, 29, 25, 26, 218, 219, 220, 221, 41, 31, 32, 33, 34, 407, 408, 409, 2, 410, 23, 411, 412, 413, 22, 414, 53, 415, 416, 180, 417, 321, 322, 323, 324, 325, 326, 327, 328, 329, 330, 331, 332, 333, 334, 335, 336, 337, 338, 339, 340, 248, 249, 156, 157, 158, 159, 39, 40, 575, 576, 577, 578, 579, 580, 581, 582, 583, 584, 585, 586, 587, 588, 611] (by decide +kernel) (by decide +kernel)
set_option maxRecDepth 20000 in
theorem gL_law_X2_drop : GoodIn wsL_law (wsV RL 68 RX2 yX2_drop wsX2_drop) := goodIn_app (goodIn_of _ (by decide +kernel)) ggL_law_X2_drop
set_option maxRecDepth 20000 in
theorem ggL_law_X3_drop : GoodIn wsL_law wsX3_drop := goodIn_r _ [421, 278, 59, 58, 63, 422, 345, 346, 347, 5, 348, 349, 350, 351, 352, 353, 354, 355, 356, 357, 358, 359, 360, 361, 362, 294, 295, 296, 165, 166, 167, 168, 169, 61, 589, 590, 591, 592, 593, 594, 595, 596, 597, 598, 599, 600, 601, 602, 603, 604, 605, 606, 607] (by decide +kernel) (by decide +kernel)
set_option maxRecDepth 20000 in
theorem gL_law_X3_drop : GoodIn wsL_law (wsV RL 71 RX3 yX3_drop wsX3_drop) := goodIn_app (goodIn_of _ (by decide +kernel)) ggL_law_X3_drop
set_option maxRecDepth 20000 in
theorem ggL_law_X2_may : GoodIn wsL_law wsX2_may := goodIn_r _ [426, 23, 427, 428, 429, 22, 430, 53, 329, 330, 331, 332, 333, 334, 335, 336, 337, 338, 339, 340, 248, 2, 249, 575, 576, 577, 578, 579, 580, 581, 582, 583, 584, 585, 586, 587, 588, 611] (by decide +kernel) (by decide +kernel)
set_option maxRecDepth 20000 in
theorem gL_law_X2_may : GoodIn wsL_law (wsV RL 72 RX2 yX2_may wsX2_may) := goodIn_app (goodIn_of _ (by decide +kernel)) ggL_law_X2_may
set_option maxRecDepth 20000 in
theorem ggL_law_X3_may : GoodIn wsL_law wsX3_may := goodIn_r _ [434, 435, 436, 437, 5, 438, 63, 349, 350, 351, 352, 353, 354, 355, 356, 357, 358, 359, 360, 361, 362, 294, 295, 296, 589, 590, 591, 592, 593, 594, 595, 596, 597, 598, 599, 600, 601, 602, 603, 604, 605, 606, 607] (by decide +kernel) (by decide +kernel)
set_option maxRecDepth 20000 in
theorem gL_law_X3_may : GoodIn wsL_law (wsV RL 75 RX3 yX3_may wsX3_may) := goodIn_app (goodIn_of _ (by decide +kernel)) ggL_law_X3_may
set_option maxRecDepth 20000 in
theorem ggL_law_X2_find : GoodIn wsL_law wsX2_find := goodIn_r _ [442, 23, 29, 427, 428, 429, 22, 430, 53, 329, 330, 331, 332, 333, 334, 335, 336, 337, 338, 339, 340, 248, 2, 249, 443, 444, 445, 446, 25, 575, 576, 577, 578, 579, 580, 581, 582, 583, 584, 585, 586, 587, 588, 611] (by decide +kernel) (by decide +kernel)
set_option maxRecDepth 20000 in
theorem gL_law_X2_find : GoodIn wsL_law (wsV RL 76 RX2 yX2_find wsX2_find) := goodIn_app (goodIn_of _ (by decide +kernel)) ggL_law_X2_find
set_option maxRecDepth 20000 in
theorem ggL_law_X3_find : GoodIn wsL_law wsX3_find := goodIn_r _ [450, 278, 58, 435, 436, 437, 5, 438, 63, 349, 350, 351, 352, 353, 354, 355, 356, 357, 358, 359, 360, 361, 362, 294, 295, 296, 589, 590, 591, 592, 593, 594, 595, 596, 597, 598, 599, 600, 601, 602, 603, 604, 605, 606, 607] (by decide +kernel) (by decide +kernel)
set_option maxRecDepth 20000 in
theorem gL_law_X3_find : GoodIn wsL_law (wsV RL 79 RX3 yX3_find wsX3_find) := goodIn_app (goodIn_of _ (by decide +kernel)) ggL_law_X3_find
set_option maxRecDepth 20000 in
theorem ggL_law_X2_stir : GoodIn wsL_law wsX2_stir := goodIn_r _ [454, 455, 334, 22, 335, 336, 337, 338, 339, 340, 248, 2, 249] (by decide +kernel) (by decide +kernel)
set_option maxRecDepth 20000 in
theorem gL_law_X2_stir : GoodIn wsL_law (wsV RL 80 RX2 yX2_stir wsX2_stir) := goodIn_app (goodIn_of _ (by decide +kernel)) ggL_law_X2_stir
set_option maxRecDepth 20000 in
theorem ggL_law_X3_stir : GoodIn wsL_law wsX3_stir := goodIn_r _ [357, 358, 359, 360, 361, 362, 294, 295, 5, 296] (by decide +kernel) (by decide +kernel)
set_option maxRecDepth 20000 in
theorem gL_law_X3_stir : GoodIn wsL_law (wsV RL 83 RX3 yX3_stir wsX3_stir) := goodIn_app (goodIn_of _ (by decide +kernel)) ggL_law_X3_stir
set_option maxRecDepth 20000 in
theorem ggL_law_X2_begin : GoodIn wsL_law wsX2_begin := goodIn_r _ [460, 41, 575, 576, 577, 578, 579, 580, 581, 582, 583, 584, 585, 586, 587, 588] (by decide +kernel) (by decide +kernel)
set_option maxRecDepth 20000 in
theorem gL_law_X2_begin : GoodIn wsL_law (wsV RL 84 RX2 yX2_begin wsX2_begin) := goodIn_app (goodIn_of _ (by decide +kernel)) ggL_law_X2_begin
set_option maxRecDepth 20000 in
theorem ggL_law_X3_begin : GoodIn wsL_law wsX3_begin := goodIn_r _ [464, 422, 589, 590, 591, 592, 593, 594, 595, 596, 597, 598, 599, 600, 601, 602, 603, 604, 605, 606, 607] (by decide +kernel) (by decide +kernel)
set_option maxRecDepth 20000 in
theorem gL_law_X3_begin : GoodIn wsL_law (wsV RL 87 RX3 yX3_begin wsX3_begin) := goodIn_app (goodIn_of _ (by decide +kernel)) ggL_law_X3_begin
set_option maxRecDepth 20000 in
theorem ggL_law_X2_audit : GoodIn wsL_law wsX2_audit := goodIn_r _ [468, 42, 41, 29, 469, 470, 471, 2, 472, 26, 35, 36, 33, 37, 473, 474, 475, 476, 25, 222, 223, 224, 225, 477, 478, 479, 480, 19, 226, 227, 228, 481, 482, 483, 18, 484, 485, 234, 235, 236, 237, 47, 238, 219, 220, 221, 49, 239, 240, 241, 242, 243, 244, 245, 246, 247, 248, 249, 486, 251, 252, 253, 48, 254, 255, 179, 180, 181, 182, 183, 184, 487, 488, 489, 490, 256, 257, 258, 259, 260, 261, 262, 263, 264, 575, 576, 577, 578, 579, 580, 581, 582, 583, 584, 585, 586, 587, 588, 608, 609, 610] (by decide +kernel) (by decide +kernel)
set_option maxRecDepth 20000 in
theorem gL_law_X2_audit : GoodIn wsL_law (wsV RL 88 RX2 yX2_audit wsX2_audit) := goodIn_app (goodIn_of _ (by decide +kernel)) ggL_law_X2_audit
set_option maxRecDepth 20000 in
theorem ggL_law_X3_audit : GoodIn wsL_law wsX3_audit := goodIn_r _ [494, 495, 422, 278, 496, 497, 498, 5, 499, 70, 58, 67, 500, 501, 502, 503, 279, 280, 281, 282, 283, 284, 285, 286, 287, 288, 289, 66, 69, 68, 290, 291, 292, 293, 65, 294, 295, 296, 297, 298, 299, 300, 301, 302, 303, 304, 305, 306, 307, 308, 504, 505, 506, 507, 59, 589, 590, 591, 592, 593, 594, 595, 596, 597, 598, 599, 600, 601, 602, 603, 604, 605, 606, 607] (by decide +kernel) (by decide +kernel)
set_option maxRecDepth 20000 in
theorem gL_law_X3_audit : GoodIn wsL_law (wsV RL 91 RX3 yX3_audit wsX3_audit) := goodIn_app (goodIn_of _ (by decide +kernel)) ggL_law_X3_audit
set_option maxRecDepth 20000 in
theorem ggL_law_X2_fault : GoodIn wsL_law wsX2_fault := goodIn_r _ [511, 42, 575, 576, 577, 578, 579, 580, 581, 582, 583, 584, 585, 586, 587, 588] (by decide +kernel) (by decide +kernel)
set_option maxRecDepth 20000 in
theorem gL_law_X2_fault : GoodIn wsL_law (wsV RL 92 RX2 yX2_fault wsX2_fault) := goodIn_app (goodIn_of _ (by decide +kernel)) ggL_law_X2_fault
set_option maxRecDepth 20000 in
theorem ggL_law_X3_fault : GoodIn wsL_law wsX3_fault := goodIn_r _ [515, 495, 589, 590, 591, 592, 593, 594, 595, 596, 597, 598, 599, 600, 601, 602, 603, 604, 605, 606, 607] (by decide +kernel) (by decide +kernel)
set_option maxRecDepth 20000 in
theorem gL_law_X3_fault : GoodIn wsL_law (wsV RL 95 RX3 yX3_fault wsX3_fault) := goodIn_app (goodIn_of _ (by decide +kernel)) ggL_law_X3_fault
set_option maxRecDepth 20000 in
theorem ggL_law_X2_way : GoodIn wsL_law wsX2_way := goodIn_r _ [519, 29, 222, 223, 224, 2, 225, 520, 521, 522, 523, 524, 525, 526, 527, 528, 529, 226, 227, 228, 575, 576, 577, 578, 579, 580, 581, 582, 583, 584, 585, 586, 587, 588] (by decide +kernel) (by decide +kernel)
set_option maxRecDepth 20000 in
theorem gL_law_X2_way : GoodIn wsL_law (wsV RL 96 RX2 yX2_way wsX2_way) := goodIn_app (goodIn_of _ (by decide +kernel)) ggL_law_X2_way
set_option maxRecDepth 20000 in
theorem ggL_law_X3_way : GoodIn wsL_law wsX3_way := goodIn_r _ [533, 278, 534, 535, 536, 5, 537, 283, 284, 285, 589, 590, 591, 592, 593, 594, 595, 596, 597, 598, 599, 600, 601, 602, 603, 604, 605, 606, 607] (by decide +kernel) (by decide +kernel)
set_option maxRecDepth 20000 in
theorem gL_law_X3_way : GoodIn wsL_law (wsV RL 99 RX3 yX3_way wsX3_way) := goodIn_app (goodIn_of _ (by decide +kernel)) ggL_law_X3_way
set_option maxRecDepth 20000 in
theorem ggL_law_X2_prove : GoodIn wsL_law wsX2_prove := goodIn_r _ [541, 29, 25, 28, 218, 219, 220, 221, 43, 222, 223, 224, 2, 225, 520, 521, 522, 523, 524, 525, 526, 527, 528, 529, 226, 227, 228, 575, 576, 577, 578, 579, 580, 581, 582, 583, 584, 585, 586, 587, 588] (by decide +kernel) (by decide +kernel)
set_option maxRecDepth 20000 in
theorem gL_law_X2_prove : GoodIn wsL_law (wsV RL 100 RX2 yX2_prove wsX2_prove) := goodIn_app (goodIn_of _ (by decide +kernel)) ggL_law_X2_prove
set_option maxRecDepth 20000 in
theorem ggL_law_X3_prove : GoodIn wsL_law wsX3_prove := goodIn_r _ [545, 278, 546, 64, 58, 534, 535, 536, 5, 537, 283, 284, 285, 589, 590, 591, 592, 593, 594, 595, 596, 597, 598, 599, 600, 601, 602, 603, 604, 605, 606, 607] (by decide +kernel) (by decide +kernel)
set_option maxRecDepth 20000 in
theorem gL_law_X3_prove : GoodIn wsL_law (wsV RL 103 RX3 yX3_prove wsX3_prove) := goodIn_app (goodIn_of _ (by decide +kernel)) ggL_law_X3_prove
set_option maxRecDepth 20000 in
theorem ggL_law_X2_proof : GoodIn wsL_law wsX2_proof := goodIn_r _ [550, 43, 28, 575, 576, 577, 578, 579, 580, 581, 582, 583, 584, 585, 586, 587, 588] (by decide +kernel) (by decide +kernel)
set_option maxRecDepth 20000 in
theorem gL_law_X2_proof : GoodIn wsL_law (wsV RL 104 RX2 yX2_proof wsX2_proof) := goodIn_app (goodIn_of _ (by decide +kernel)) ggL_law_X2_proof
set_option maxRecDepth 20000 in
theorem ggL_law_X3_proof : GoodIn wsL_law wsX3_proof := goodIn_r _ [554, 546, 64, 589, 590, 591, 592, 593, 594, 595, 596, 597, 598, 599, 600, 601, 602, 603, 604, 605, 606, 607] (by decide +kernel) (by decide +kernel)
set_option maxRecDepth 20000 in
theorem gL_law_X3_proof : GoodIn wsL_law (wsV RL 107 RX3 yX3_proof wsX3_proof) := goodIn_app (goodIn_of _ (by decide +kernel)) ggL_law_X3_proof
set_option maxRecDepth 20000 in
theorem ggL_law_X2_forge : GoodIn wsL_law wsX2_forge := goodIn_r _ [558, 43, 28, 575, 576, 577, 578, 579, 580, 581, 582, 583, 584, 585, 586, 587, 588] (by decide +kernel) (by decide +kernel)
set_option maxRecDepth 20000 in
theorem gL_law_X2_forge : GoodIn wsL_law (wsV RL 108 RX2 yX2_forge wsX2_forge) := goodIn_app (goodIn_of _ (by decide +kernel)) ggL_law_X2_forge
set_option maxRecDepth 20000 in
theorem ggL_law_X3_forge : GoodIn wsL_law wsX3_forge := goodIn_r _ [562, 546, 64, 589, 590, 591, 592, 593, 594, 595, 596, 597, 598, 599, 600, 601, 602, 603, 604, 605, 606, 607] (by decide +kernel) (by decide +kernel)
set_option maxRecDepth 20000 in
theorem gL_law_X3_forge : GoodIn wsL_law (wsV RL 111 RX3 yX3_forge wsX3_forge) := goodIn_app (goodIn_of _ (by decide +kernel)) ggL_law_X3_forge
set_option maxRecDepth 20000 in
theorem ggL_law_X2_check : GoodIn wsL_law wsX2_check := goodIn_r _ [566, 222, 223, 224, 2, 225, 29, 567, 568, 569, 570, 43, 26, 19, 28, 520, 521, 522, 523, 524, 525, 526, 527, 528, 529, 226, 227, 228, 481, 482, 483, 18, 484, 485, 234, 235, 236, 237, 47, 238, 219, 220, 221, 49, 239, 240, 241, 242, 243, 244, 245, 246, 247, 248, 249, 486, 251, 252, 253, 48, 254, 255, 179, 180, 181, 182, 183, 184, 487, 488, 489, 490, 575, 576, 577, 578, 579, 580, 581, 582, 583, 584, 585, 586, 587, 588, 608, 609, 610] (by decide +kernel) (by decide +kernel)
set_option maxRecDepth 20000 in
theorem gL_law_X2_check : GoodIn wsL_law (wsV RL 112 RX2 yX2_check wsX2_check) := goodIn_app (goodIn_of _ (by decide +kernel)) ggL_law_X2_check
set_option maxRecDepth 20000 in
theorem ggL_law_X3_check : GoodIn wsL_law wsX3_check := goodIn_r _ [574, 278, 546, 70, 64, 67, 59, 286, 287, 288, 5, 289, 66, 69, 68, 290, 291, 292, 293, 65, 294, 295, 296, 297, 298, 299, 300, 301, 534, 535, 536, 537, 283, 284, 285, 589, 590, 591, 592, 593, 594, 595, 596, 597, 598, 599, 600, 601, 602, 603, 604, 605, 606, 607] (by decide +kernel) (by decide +kernel)
set_option maxRecDepth 20000 in
theorem gL_law_X3_check : GoodIn wsL_law (wsV RL 115 RX3 yX3_check wsX3_check) := goodIn_app (goodIn_of _ (by decide +kernel)) ggL_law_X3_check
theorem dL_law_0 : decode cL_law 0 = .ok (.new 7, 3) := by decide +kernel
theorem dL_law_3 : decode cL_law 3 = .ok (.dup, 1) := by decide +kernel
theorem dL_law_4 : decode cL_law 4 = .ok (.aload_n 0, 1) := by decide +kernel
theorem dL_law_5 : decode cL_law 5 = .ok (.iconst 0, 1) := by decide +kernel
theorem dL_law_6 : decode cL_law 6 = .ok (.invokestatic 9, 3) := by decide +kernel
theorem dL_law_9 : decode cL_law 9 = .ok (.invokespecial 15, 3) := by decide +kernel
theorem dL_law_12 : decode cL_law 12 = .ok (.astore_n 1, 1) := by decide +kernel
theorem dL_law_13 : decode cL_law 13 = .ok (.new 18, 3) := by decide +kernel
theorem dL_law_16 : decode cL_law 16 = .ok (.dup, 1) := by decide +kernel
theorem dL_law_17 : decode cL_law 17 = .ok (.aload_n 0, 1) := by decide +kernel
theorem dL_law_18 : decode cL_law 18 = .ok (.iconst 0, 1) := by decide +kernel
theorem dL_law_19 : decode cL_law 19 = .ok (.invokestatic 9, 3) := by decide +kernel
theorem dL_law_22 : decode cL_law 22 = .ok (.invokespecial 20, 3) := by decide +kernel
theorem dL_law_25 : decode cL_law 25 = .ok (.astore_n 2, 1) := by decide +kernel
theorem dL_law_26 : decode cL_law 26 = .ok (.iconst 1, 1) := by decide +kernel
theorem dL_law_27 : decode cL_law 27 = .ok (.istore_n 3, 1) := by decide +kernel
theorem dL_law_28 : decode cL_law 28 = .ok (.iload_n 3, 1) := by decide +kernel
theorem dL_law_29 : decode cL_law 29 = .ok (.aload_n 0, 1) := by decide +kernel
theorem dL_law_30 : decode cL_law 30 = .ok (.arraylength, 1) := by decide +kernel
theorem dL_law_31 : decode cL_law 31 = .ok (.iconst 4, 1) := by decide +kernel
theorem dL_law_32 : decode cL_law 32 = .ok (.isub, 1) := by decide +kernel
theorem dL_law_33 : decode cL_law 33 = .ok (.if_icmp .gt 650, 3) := by decide +kernel
theorem dL_law_36 : decode cL_law 36 = .ok (.aload_n 0, 1) := by decide +kernel
theorem dL_law_37 : decode cL_law 37 = .ok (.iload_n 3, 1) := by decide +kernel
theorem dL_law_38 : decode cL_law 38 = .ok (.iaload, 1) := by decide +kernel
theorem dL_law_39 : decode cL_law 39 = .ok (.bipush 31, 2) := by decide +kernel
theorem dL_law_41 : decode cL_law 41 = .ok (.iand, 1) := by decide +kernel
theorem dL_law_42 : decode cL_law 42 = .ok (.tableswitch 635 0 22 #[106, 129, 152, 175, 198, 221, 234, 247, 260, 283, 316, 359, 372, 395, 418, 451, 464, 487, 500, 533, 556, 579, 612], 106) := by decide +kernel
theorem dL_law_148 : decode cL_law 148 = .ok (.aload_n 1, 1) := by decide +kernel
theorem dL_law_149 : decode cL_law 149 = .ok (.aload_n 0, 1) := by decide +kernel
theorem dL_law_150 : decode cL_law 150 = .ok (.iload_n 3, 1) := by decide +kernel
theorem dL_law_151 : decode cL_law 151 = .ok (.iconst 1, 1) := by decide +kernel
theorem dL_law_152 : decode cL_law 152 = .ok (.iadd, 1) := by decide +kernel
theorem dL_law_153 : decode cL_law 153 = .ok (.iaload, 1) := by decide +kernel
theorem dL_law_154 : decode cL_law 154 = .ok (.invokevirtual 21, 3) := by decide +kernel
theorem dL_law_157 : decode cL_law 157 = .ok (.aload_n 2, 1) := by decide +kernel
theorem dL_law_158 : decode cL_law 158 = .ok (.aload_n 0, 1) := by decide +kernel
theorem dL_law_159 : decode cL_law 159 = .ok (.iload_n 3, 1) := by decide +kernel
theorem dL_law_160 : decode cL_law 160 = .ok (.iconst 1, 1) := by decide +kernel
theorem dL_law_161 : decode cL_law 161 = .ok (.iadd, 1) := by decide +kernel
theorem dL_law_162 : decode cL_law 162 = .ok (.iaload, 1) := by decide +kernel
theorem dL_law_163 : decode cL_law 163 = .ok (.invokevirtual 25, 3) := by decide +kernel
theorem dL_law_166 : decode cL_law 166 = .ok (.if_icmp .eq 511, 3) := by decide +kernel
theorem dL_law_169 : decode cL_law 169 = .ok (.iconst 0, 1) := by decide +kernel
theorem dL_law_170 : decode cL_law 170 = .ok (.ireturn, 1) := by decide +kernel
theorem dL_law_171 : decode cL_law 171 = .ok (.aload_n 1, 1) := by decide +kernel
theorem dL_law_172 : decode cL_law 172 = .ok (.aload_n 0, 1) := by decide +kernel
theorem dL_law_173 : decode cL_law 173 = .ok (.iload_n 3, 1) := by decide +kernel
theorem dL_law_174 : decode cL_law 174 = .ok (.iconst 1, 1) := by decide +kernel
theorem dL_law_175 : decode cL_law 175 = .ok (.iadd, 1) := by decide +kernel
theorem dL_law_176 : decode cL_law 176 = .ok (.iaload, 1) := by decide +kernel
theorem dL_law_177 : decode cL_law 177 = .ok (.invokevirtual 26, 3) := by decide +kernel
theorem dL_law_180 : decode cL_law 180 = .ok (.aload_n 2, 1) := by decide +kernel
theorem dL_law_181 : decode cL_law 181 = .ok (.aload_n 0, 1) := by decide +kernel
theorem dL_law_182 : decode cL_law 182 = .ok (.iload_n 3, 1) := by decide +kernel
theorem dL_law_183 : decode cL_law 183 = .ok (.iconst 1, 1) := by decide +kernel
theorem dL_law_184 : decode cL_law 184 = .ok (.iadd, 1) := by decide +kernel
theorem dL_law_185 : decode cL_law 185 = .ok (.iaload, 1) := by decide +kernel
theorem dL_law_186 : decode cL_law 186 = .ok (.invokevirtual 29, 3) := by decide +kernel
theorem dL_law_189 : decode cL_law 189 = .ok (.if_icmp .eq 488, 3) := by decide +kernel
theorem dL_law_192 : decode cL_law 192 = .ok (.iconst 0, 1) := by decide +kernel
theorem dL_law_193 : decode cL_law 193 = .ok (.ireturn, 1) := by decide +kernel
theorem dL_law_194 : decode cL_law 194 = .ok (.aload_n 1, 1) := by decide +kernel
theorem dL_law_195 : decode cL_law 195 = .ok (.aload_n 0, 1) := by decide +kernel
theorem dL_law_196 : decode cL_law 196 = .ok (.iload_n 3, 1) := by decide +kernel
theorem dL_law_197 : decode cL_law 197 = .ok (.iconst 1, 1) := by decide +kernel
theorem dL_law_198 : decode cL_law 198 = .ok (.iadd, 1) := by decide +kernel
theorem dL_law_199 : decode cL_law 199 = .ok (.iaload, 1) := by decide +kernel
theorem dL_law_200 : decode cL_law 200 = .ok (.invokevirtual 30, 3) := by decide +kernel
theorem dL_law_203 : decode cL_law 203 = .ok (.aload_n 2, 1) := by decide +kernel
