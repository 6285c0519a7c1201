set_option maxRecDepth 20000 in
theorem ggL_law_X8_init : GoodIn wsL_law wsX8_init := goodIn_r _ [9, 10, 11, 12, 13, 14, 15, 16, 17, 18, 19, 20, 21, 22, 23, 24, 25, 26, 27, 28, 29, 30, 31, 32, 33, 34, 35, 36, 37, 38, 39, 40, 41, 42, 43, 44, 45, 46, 47, 48, 49, 50, 51, 52, 53, 54, 55, 56, 57, 58, 59, 60, 61, 62, 63, 64, 65, 66, 67, 68, 69, 70, 71, 72, 73, 74, 75, 76, 77, 78, 79, 80, 81, 82, 83, 84, 85, 86, 87, 88, 612, 613, 614, 615, 616, 592, 593, 617, 618, 619, 620, 621, 622, 623, 624, 625, 626, 627, 628, 629, 630, 631] (by decide +kernel) (by decide +kernel)
set_option maxRecDepth 20000 in
theorem gL_law_X8_init : GoodIn wsL_law (wsX8_init) := ggL_law_X8_init
set_option maxRecDepth 20000 in
theorem ggL_law_X9_init : GoodIn wsL_law wsX9_init := goodIn_r _ [91, 92, 11, 12, 58, 93, 94, 85, 95, 96, 97, 98, 99, 100, 101, 102, 82, 103, 104, 594, 595, 596, 597, 598, 599, 600, 601, 602, 603, 604, 605, 606, 607, 608, 609, 610, 611] (by decide +kernel) (by decide +kernel)
set_option maxRecDepth 20000 in
theorem gL_law_X9_init : GoodIn wsL_law (wsX9_init) := ggL_law_X9_init
set_option maxRecDepth 20000 in
theorem ggL_law_X8_shares : GoodIn wsL_law wsX8_shares := goodIn_r _ [108, 16, 109, 110, 2, 111, 112, 113, 114, 115, 116, 117, 118, 37, 119, 120, 121, 122, 123, 124, 125, 126, 71, 127, 128, 129, 33, 130, 66, 131, 132, 133, 53, 134, 61, 59, 135, 136, 137, 592, 593, 612, 613, 614, 615, 616, 628, 627, 630, 631] (by decide +kernel) (by decide +kernel)
set_option maxRecDepth 20000 in
theorem gL_law_X8_shares : GoodIn wsL_law (wsV RL 15 RX8 yX8_shares wsX8_shares) := goodIn_app (goodIn_of _ (by decide +kernel)) ggL_law_X8_shares
set_option maxRecDepth 20000 in
theorem ggL_law_X9_shares : GoodIn wsL_law wsX9_shares := goodIn_r _ [141, 142, 143, 5, 144, 145, 146, 147, 148, 149, 150, 151, 104] (by decide +kernel) (by decide +kernel)
set_option maxRecDepth 20000 in
theorem gL_law_X9_shares : GoodIn wsL_law (wsV RL 19 RX9 yX9_shares wsX9_shares) := goodIn_app (goodIn_of _ (by decide +kernel)) ggL_law_X9_shares
set_option maxRecDepth 20000 in
theorem ggL_law_X8_sharesMove : GoodIn wsL_law wsX8_sharesMove := goodIn_r _ [155, 156, 16, 109, 110, 2, 111, 112, 113, 114, 115, 157, 158, 159, 37, 160, 120, 121, 122, 123, 124, 125, 126, 161, 117, 118, 119, 71, 127, 128, 129, 33, 130, 66, 131, 132, 133, 53, 134, 61, 59, 592, 593, 612, 613, 614, 615, 616, 628, 627, 630, 631] (by decide +kernel) (by decide +kernel)
set_option maxRecDepth 20000 in
theorem gL_law_X8_sharesMove : GoodIn wsL_law (wsV RL 20 RX8 yX8_sharesMove wsX8_sharesMove) := goodIn_app (goodIn_of _ (by decide +kernel)) ggL_law_X8_sharesMove
set_option maxRecDepth 20000 in
theorem ggL_law_X9_sharesMove : GoodIn wsL_law wsX9_sharesMove := goodIn_r _ [165, 166, 142, 143, 5, 144, 145, 146, 147, 148, 149, 150, 151, 104] (by decide +kernel) (by decide +kernel)
set_option maxRecDepth 20000 in
theorem gL_law_X9_sharesMove : GoodIn wsL_law (wsV RL 24 RX9 yX9_sharesMove wsX9_sharesMove) := goodIn_app (goodIn_of _ (by decide +kernel)) ggL_law_X9_sharesMove
set_option maxRecDepth 20000 in
theorem ggL_law_X8_both : GoodIn wsL_law wsX8_both := goodIn_r _ [170, 16, 109, 110, 2, 111, 112, 113, 114, 115, 171, 172, 173, 41, 174, 175, 125, 122, 126, 176, 177, 178, 179, 76, 180, 181, 182, 183, 128, 129, 33, 130, 66, 131, 132, 133, 53, 134, 61, 59, 135, 136, 137, 592, 593, 612, 613, 614, 615, 616, 629, 627, 630, 631] (by decide +kernel) (by decide +kernel)
set_option maxRecDepth 20000 in
theorem gL_law_X8_both : GoodIn wsL_law (wsV RL 25 RX8 yX8_both wsX8_both) := goodIn_app (goodIn_of _ (by decide +kernel)) ggL_law_X8_both
set_option maxRecDepth 20000 in
theorem ggL_law_X9_both : GoodIn wsL_law wsX9_both := goodIn_r _ [187, 142, 143, 5, 144, 145, 146, 147, 148, 188, 189, 190, 191, 192, 193, 194, 195, 93, 594, 595, 596, 597, 598, 599, 600, 601, 602, 603, 604, 605, 606, 607, 608, 609, 610, 611] (by decide +kernel) (by decide +kernel)
set_option maxRecDepth 20000 in
theorem gL_law_X9_both : GoodIn wsL_law (wsV RL 28 RX9 yX9_both wsX9_both) := goodIn_app (goodIn_of _ (by decide +kernel)) ggL_law_X9_both
set_option maxRecDepth 20000 in
theorem ggL_law_X8_bothMove : GoodIn wsL_law wsX8_bothMove := goodIn_r _ [199, 156, 16, 109, 110, 2, 111, 112, 113, 114, 115, 200, 201, 202, 41, 203, 76, 175, 125, 122, 126, 204, 205, 206, 33, 207, 208, 209, 210, 211, 212, 213, 214, 215, 216, 128, 129, 130, 66, 131, 132, 133, 53, 134, 61, 59, 176, 177, 178, 179, 180, 181, 182, 183, 217, 218, 219, 220, 592, 593, 612, 613, 614, 615, 616, 629, 627, 630, 631] (by decide +kernel) (by decide +kernel)
set_option maxRecDepth 20000 in
theorem gL_law_X8_bothMove : GoodIn wsL_law (wsV RL 29 RX8 yX8_bothMove wsX8_bothMove) := goodIn_app (goodIn_of _ (by decide +kernel)) ggL_law_X8_bothMove
set_option maxRecDepth 20000 in
theorem ggL_law_X9_bothMove : GoodIn wsL_law wsX9_bothMove := goodIn_r _ [224, 166, 104, 225, 142, 143, 5, 144, 145, 146, 147, 148, 226, 227, 228, 229, 230, 231, 232, 233, 234, 235, 192, 193, 194, 195, 93, 594, 595, 596, 597, 598, 599, 600, 601, 602, 603, 604, 605, 606, 607, 608, 609, 610, 611] (by decide +kernel) (by decide +kernel)
set_option maxRecDepth 20000 in
theorem gL_law_X9_bothMove : GoodIn wsL_law (wsV RL 33 RX9 yX9_bothMove wsX9_bothMove) := goodIn_app (goodIn_of _ (by decide +kernel)) ggL_law_X9_bothMove
set_option maxRecDepth 20000 in
theorem ggL_law_X8_lost : GoodIn wsL_law wsX8_lost := goodIn_r _ [239, 240, 156, 16, 113, 114, 2, 115, 241, 128, 129, 33, 130, 66, 131, 132, 133, 53, 134, 61, 59, 592, 593, 612, 613, 614, 615, 616, 627, 630, 631] (by decide +kernel) (by decide +kernel)
set_option maxRecDepth 20000 in
theorem gL_law_X8_lost : GoodIn wsL_law (wsV RL 34 RX8 yX8_lost wsX8_lost) := goodIn_app (goodIn_of _ (by decide +kernel)) ggL_law_X8_lost
set_option maxRecDepth 20000 in
theorem ggL_law_X9_lost : GoodIn wsL_law wsX9_lost := goodIn_r _ [245, 246, 166, 146, 147, 5, 148, 192, 193, 194, 195, 93, 594, 595, 596, 597, 598, 599, 600, 601, 602, 603, 604, 605, 606, 607, 608, 609, 610, 611] (by decide +kernel) (by decide +kernel)
set_option maxRecDepth 20000 in
theorem gL_law_X9_lost : GoodIn wsL_law (wsV RL 38 RX9 yX9_lost wsX9_lost) := goodIn_app (goodIn_of _ (by decide +kernel)) ggL_law_X9_lost
set_option maxRecDepth 20000 in
theorem ggL_law_X8_lostOf : GoodIn wsL_law wsX8_lostOf := goodIn_r _ [250, 156, 16, 109, 110, 2, 111, 112, 113, 114, 115, 251, 252, 253, 33, 254, 255, 208, 209, 210, 211, 212, 213, 214, 215, 216, 128, 129, 130, 66, 131, 132, 133, 53, 134, 61, 59, 256, 135, 136, 137, 592, 593, 612, 613, 614, 615, 616, 627, 630, 631] (by decide +kernel) (by decide +kernel)
set_option maxRecDepth 20000 in
theorem gL_law_X8_lostOf : GoodIn wsL_law (wsV RL 39 RX8 yX8_lostOf wsX8_lostOf) := goodIn_app (goodIn_of _ (by decide +kernel)) ggL_law_X8_lostOf
set_option maxRecDepth 20000 in
theorem ggL_law_X9_lostOf : GoodIn wsL_law wsX9_lostOf := goodIn_r _ [260, 166, 231, 230, 142, 143, 5, 144, 145, 146, 147, 148, 232, 233, 234, 235, 104, 192, 193, 194, 195, 93, 594, 595, 596, 597, 598, 599, 600, 601, 602, 603, 604, 605, 606, 607, 608, 609, 610, 611] (by decide +kernel) (by decide +kernel)
set_option maxRecDepth 20000 in
theorem gL_law_X9_lostOf : GoodIn wsL_law (wsV RL 42 RX9 yX9_lostOf wsX9_lostOf) := goodIn_app (goodIn_of _ (by decide +kernel)) ggL_law_X9_lostOf
set_option maxRecDepth 20000 in
theorem ggL_law_X8_row : GoodIn wsL_law wsX8_row := goodIn_r _ [264, 156, 16, 265, 266, 2, 267, 268, 113, 114, 115, 269, 49, 50, 29, 51, 47, 46, 52, 53, 54, 55, 56, 57, 11, 12, 58, 59, 60, 61, 270, 271, 272, 273, 274, 592, 593, 612, 613, 614, 615, 616, 626, 630, 631] (by decide +kernel) (by decide +kernel)
set_option maxRecDepth 20000 in
theorem gL_law_X8_row : GoodIn wsL_law (wsV RL 43 RX8 yX8_row wsX8_row) := goodIn_app (goodIn_of _ (by decide +kernel)) ggL_law_X8_row
set_option maxRecDepth 20000 in
theorem ggL_law_X9_row : GoodIn wsL_law wsX9_row := goodIn_r _ [278, 166, 279, 94, 225, 280, 281, 5, 282, 283, 146, 147, 148, 284, 285, 286, 287, 145, 594, 595, 596, 597, 598, 599, 600, 601, 602, 603, 604, 605, 606, 607, 608, 609, 610, 611] (by decide +kernel) (by decide +kernel)
set_option maxRecDepth 20000 in
theorem gL_law_X9_row : GoodIn wsL_law (wsV RL 47 RX9 yX9_row wsX9_row) := goodIn_app (goodIn_of _ (by decide +kernel)) ggL_law_X9_row
set_option maxRecDepth 20000 in
theorem ggL_law_X8_digits : GoodIn wsL_law wsX8_digits := goodIn_r _ [291, 16, 265, 266, 2, 267, 268, 113, 114, 115, 109, 110, 111, 112, 269, 49, 50, 29, 51, 47, 46, 52, 53, 54, 55, 56, 57, 11, 12, 58, 59, 60, 61, 292, 293, 294, 295, 592, 593, 612, 613, 614, 615, 616, 626, 630, 631] (by decide +kernel) (by decide +kernel)
set_option maxRecDepth 20000 in
theorem gL_law_X8_digits : GoodIn wsL_law (wsV RL 48 RX8 yX8_digits wsX8_digits) := goodIn_app (goodIn_of _ (by decide +kernel)) ggL_law_X8_digits
set_option maxRecDepth 20000 in
theorem ggL_law_X9_digits : GoodIn wsL_law wsX9_digits := goodIn_r _ [299, 300, 280, 281, 5, 282, 283, 146, 147, 148, 142, 143, 144, 145, 301, 302, 303, 304, 279, 94, 284, 285, 286, 287, 594, 595, 596, 597, 598, 599, 600, 601, 602, 603, 604, 605, 606, 607, 608, 609, 610, 611] (by decide +kernel) (by decide +kernel)
set_option maxRecDepth 20000 in
theorem gL_law_X9_digits : GoodIn wsL_law (wsV RL 52 RX9 yX9_digits wsX9_digits) := goodIn_app (goodIn_of _ (by decide +kernel)) ggL_law_X9_digits
set_option maxRecDepth 20000 in
theorem ggL_law_X8_last : GoodIn wsL_law wsX8_last := goodIn_r _ [308, 112, 156, 16, 265, 266, 2, 267, 268, 113, 114, 115, 269, 49, 50, 29, 51, 47, 46, 52, 53, 54, 55, 56, 57, 11, 12, 58, 59, 60, 61, 309, 310, 311, 312, 592, 593, 612, 613, 614, 615, 616, 626, 630, 631] (by decide +kernel) (by decide +kernel)
set_option maxRecDepth 20000 in
theorem gL_law_X8_last : GoodIn wsL_law (wsV RL 53 RX8 yX8_last wsX8_last) := goodIn_app (goodIn_of _ (by decide +kernel)) ggL_law_X8_last
set_option maxRecDepth 20000 in
theorem ggL_law_X9_last : GoodIn wsL_law wsX9_last := goodIn_r _ [316, 145, 166, 280, 281, 5, 282, 283, 146, 147, 148, 301, 302, 303, 304, 300, 279, 94, 284, 285, 286, 287, 594, 595, 596, 597, 598, 599, 600, 601, 602, 603, 604, 605, 606, 607, 608, 609, 610, 611] (by decide +kernel) (by decide +kernel)
set_option maxRecDepth 20000 in
theorem gL_law_X9_last : GoodIn wsL_law (wsV RL 57 RX9 yX9_last wsX9_last) := goodIn_app (goodIn_of _ (by decide +kernel)) ggL_law_X9_last
set_option maxRecDepth 20000 in
theorem ggL_law_X8_times : GoodIn wsL_law wsX8_times := goodIn_r _ [320, 16, 265, 266, 2, 267, 268, 113, 114, 115, 109, 110, 111, 112, 321, 322, 323, 29, 324, 325, 326, 327, 328, 329, 49, 50, 51, 47, 46, 52, 53, 54, 55, 56, 57, 11, 12, 58, 59, 60, 61, 330, 310, 311, 312, 135, 136, 137, 592, 593, 612, 613, 614, 615, 616, 626, 630, 631] (by decide +kernel) (by decide +kernel)
set_option maxRecDepth 20000 in
theorem gL_law_X8_times : GoodIn wsL_law (wsV RL 58 RX8 yX8_times wsX8_times) := goodIn_app (goodIn_of _ (by decide +kernel)) ggL_law_X8_times
set_option maxRecDepth 20000 in
theorem ggL_law_X9_times : GoodIn wsL_law wsX9_times := goodIn_r _ [334, 280, 281, 5, 282, 283, 146, 147, 148, 142, 143, 144, 145, 335, 336, 337, 338, 301, 302, 303, 304, 300, 279, 94, 284, 285, 286, 287, 594, 595, 596, 597, 598, 599, 600, 601, 602, 603, 604, 605, 606, 607, 608, 609, 610, 611] (by decide +kernel) (by decide +kernel)
set_option maxRecDepth 20000 in
theorem gL_law_X9_times : GoodIn wsL_law (wsV RL 62 RX9 yX9_times wsX9_times) := goodIn_app (goodIn_of _ (by decide +kernel)) ggL_law_X9_times
set_option maxRecDepth 20000 in
theorem ggL_law_X8_timesMove : GoodIn wsL_law wsX8_timesMove := goodIn_r _ [342, 156, 16, 265, 266, 2, 267, 268, 113, 114, 115, 109, 110, 111, 112, 343, 326, 327, 29, 328, 329, 49, 50, 51, 47, 46, 52, 53, 54, 55, 56, 57, 11, 12, 58, 59, 60, 61, 330, 310, 311, 312, 592, 593, 612, 613, 614, 615, 616, 626, 630, 631] (by decide +kernel) (by decide +kernel)
set_option maxRecDepth 20000 in
theorem gL_law_X8_timesMove : GoodIn wsL_law (wsV RL 63 RX8 yX8_timesMove wsX8_timesMove) := goodIn_app (goodIn_of _ (by decide +kernel)) ggL_law_X8_timesMove
set_option maxRecDepth 20000 in
theorem ggL_law_X9_timesMove : GoodIn wsL_law wsX9_timesMove := goodIn_r _ [347, 166, 280, 281, 5, 282, 283, 146, 147, 148, 142, 143, 144, 145, 335, 336, 337, 338, 301, 302, 303, 304, 300, 279, 94, 284, 285, 286, 287, 594, 595, 596, 597, 598, 599, 600, 601, 602, 603, 604, 605, 606, 607, 608, 609, 610, 611] (by decide +kernel) (by decide +kernel)
set_option maxRecDepth 20000 in
theorem gL_law_X9_timesMove : GoodIn wsL_law (wsV RL 67 RX9 yX9_timesMove wsX9_timesMove) := goodIn_app (goodIn_of _ (by decide +kernel)) ggL_law_X9_timesMove
set_option maxRecDepth 20000 in
theorem ggL_law_X8_byAll : GoodIn wsL_law wsX8_byAll := goodIn_r _ [351, 16, 352, 353, 2, 354, 355, 112, 356, 113, 114, 115, 109, 110, 111, 265, 266, 267, 268, 357, 358, 359, 15, 360, 361, 26, 25, 362, 363, 136, 137, 364, 365, 366, 367, 11, 12, 368, 58, 369, 370, 371, 372, 373, 374, 375, 376, 377, 378, 379, 380, 381, 382, 383, 384, 385, 386, 387, 122, 388, 389, 390, 391, 392, 393, 394, 395, 396, 397, 398, 135, 592, 593, 612, 613, 614, 615, 616, 632, 633] (by decide +kernel) (by decide +kernel)
set_option maxRecDepth 20000 in
theorem gL_law_X8_byAll : GoodIn wsL_law (wsV RL 68 RX8 yX8_byAll wsX8_byAll) := goodIn_app (goodIn_of _ (by decide +kernel)) ggL_law_X8_byAll
set_option maxRecDepth 20000 in
theorem ggL_law_X9_byAll : GoodIn wsL_law wsX9_byAll := goodIn_r _ [402, 403, 404, 146, 147, 5, 148, 405, 406, 407, 408, 96, 95, 409, 410, 411, 412, 413, 414, 415, 416, 417, 418, 419, 420, 98, 97, 421, 422, 423, 424, 594, 595, 596, 597, 598, 599, 600, 601, 602, 603, 604, 605, 606, 607, 608, 609, 610, 611] (by decide +kernel) (by decide +kernel)
set_option maxRecDepth 20000 in
theorem gL_law_X9_byAll : GoodIn wsL_law (wsV RL 72 RX9 yX9_byAll wsX9_byAll) := goodIn_app (goodIn_of _ (by decide +kernel)) ggL_law_X9_byAll
set_option maxRecDepth 20000 in
theorem ggL_law_X8_lostUpTo : GoodIn wsL_law wsX8_lostUpTo := goodIn_r _ [428, 16, 429, 430, 2, 431, 113, 114, 115, 357, 358, 359, 15, 360, 361, 26, 25, 362, 363, 136, 137, 364, 365, 366, 367, 11, 12, 368, 58, 369, 370, 371, 372, 373, 374, 375, 376, 377, 378, 379, 380, 381, 382, 383, 384, 385, 386, 387, 122, 388, 389, 390, 391, 392, 393, 394, 432, 433, 434, 435, 436, 437, 438, 439, 440, 441, 442, 592, 593, 612, 613, 614, 615, 616, 632, 633] (by decide +kernel) (by decide +kernel)
set_option maxRecDepth 20000 in
theorem gL_law_X8_lostUpTo : GoodIn wsL_law (wsV RL 73 RX8 yX8_lostUpTo wsX8_lostUpTo) := goodIn_app (goodIn_of _ (by decide +kernel)) ggL_law_X8_lostUpTo
set_option maxRecDepth 20000 in
theorem ggL_law_X9_lostUpTo : GoodIn wsL_law wsX9_lostUpTo := goodIn_r _ [446, 404, 403, 146, 147, 5, 148, 417, 418, 419, 420, 98, 97, 421, 422, 423, 424, 405, 406, 407, 408, 96, 95, 409, 410, 411, 412, 413, 414, 415, 416, 594, 595, 596, 597, 598, 599, 600, 601, 602, 603, 604, 605, 606, 607, 608, 609, 610, 611] (by decide +kernel) (by decide +kernel)
set_option maxRecDepth 20000 in
theorem gL_law_X9_lostUpTo : GoodIn wsL_law (wsV RL 77 RX9 yX9_lostUpTo wsX9_lostUpTo) := goodIn_app (goodIn_of _ (by decide +kernel)) ggL_law_X9_lostUpTo
set_option maxRecDepth 20000 in
theorem ggL_law_X8_timesByAll : GoodIn wsL_law wsX8_timesByAll := goodIn_r _ [450, 355, 265, 266, 2, 267, 268, 113, 114, 115, 451, 452, 29, 453, 82, 454, 135, 136, 137] (by decide +kernel) (by decide +kernel)
set_option maxRecDepth 20000 in
theorem gL_law_X8_timesByAll : GoodIn wsL_law (wsV RL 78 RX8 yX8_timesByAll wsX8_timesByAll) := goodIn_app (goodIn_of _ (by decide +kernel)) ggL_law_X8_timesByAll
set_option maxRecDepth 20000 in
theorem ggL_law_X9_timesByAll : GoodIn wsL_law wsX9_timesByAll := goodIn_r _ [458, 403, 99, 280, 281, 5, 282, 283, 146, 147, 148, 594, 595, 596, 597, 598, 599, 600, 601, 602, 603, 604, 605, 606, 607, 608, 609, 610, 611] (by decide +kernel) (by decide +kernel)
set_option maxRecDepth 20000 in
theorem gL_law_X9_timesByAll : GoodIn wsL_law (wsV RL 82 RX9 yX9_timesByAll wsX9_timesByAll) := goodIn_app (goodIn_of _ (by decide +kernel)) ggL_law_X9_timesByAll
set_option maxRecDepth 20000 in
theorem ggL_law_X8_board : GoodIn wsL_law wsX8_board := goodIn_r _ [462, 20, 352, 353, 2, 354, 355, 112, 356, 113, 114, 115, 109, 110, 111, 265, 266, 267, 268, 463, 464, 465, 19, 466, 87, 467, 468, 81, 469, 592, 593, 617, 618, 619, 620, 621, 622, 623, 624, 625] (by decide +kernel) (by decide +kernel)
set_option maxRecDepth 20000 in
theorem gL_law_X8_board : GoodIn wsL_law (wsV RL 83 RX8 yX8_board wsX8_board) := goodIn_app (goodIn_of _ (by decide +kernel)) ggL_law_X8_board
set_option maxRecDepth 20000 in
theorem ggL_law_X9_board : GoodIn wsL_law wsX9_board := goodIn_r _ [473, 404, 403, 145, 474, 283, 100, 475, 476, 477, 101, 102, 103, 146, 147, 5, 148, 594, 595, 596, 597, 598, 599, 600, 601, 602, 603, 604, 605, 606, 607, 608, 609, 610, 611] (by decide +kernel) (by decide +kernel)
set_option maxRecDepth 20000 in
theorem gL_law_X9_board : GoodIn wsL_law (wsV RL 87 RX9 yX9_board wsX9_board) := goodIn_app (goodIn_of _ (by decide +kernel)) ggL_law_X9_board
set_option maxRecDepth 20000 in
theorem ggL_law_X8_move : GoodIn wsL_law wsX8_move := goodIn_r _ [481, 20, 482, 483, 484, 19, 485, 87, 486, 487, 488, 489, 113, 114, 2, 115, 490, 491, 492, 493, 469, 81, 494, 495, 496, 497, 498, 499, 500, 501, 502, 121, 122, 123, 503, 468, 84, 504, 125, 126, 505, 506, 507, 508, 83, 86, 509, 510, 511, 512, 88, 467, 513, 322, 323, 29, 324, 325, 326, 327, 328, 329, 49, 50, 51, 47, 46, 52, 53, 54, 55, 56, 57, 11, 12, 58, 59, 60, 61, 330, 310, 311, 312, 514, 358, 359, 15, 360, 361, 26, 25, 362, 363, 136, 137, 364, 365, 366, 367, 368, 369, 370, 371, 372, 373, 374, 375, 376, 377, 378, 379, 380, 381, 382, 383, 384, 385, 386, 387, 388, 389, 390, 391, 392, 393, 394, 515, 396, 397, 398, 516, 117, 118, 37, 119, 120, 124, 71, 127, 128, 129, 33, 130, 66, 131, 132, 133, 134, 517, 172, 173, 41, 174, 175, 176, 177, 178, 179, 76, 180, 181, 182, 183, 518, 519, 520, 521, 522, 523, 524, 525, 592, 593, 617, 618, 619, 620, 621, 622, 623, 624, 625, 612, 613, 614, 615, 616, 626, 630, 631, 632, 633, 628, 627, 629] (by decide +kernel) (by decide +kernel)
set_option maxRecDepth 20000 in
theorem gL_law_X8_move : GoodIn wsL_law (wsV RL 88 RX8 yX8_move wsX8_move) := goodIn_app (goodIn_of _ (by decide +kernel)) ggL_law_X8_move
set_option maxRecDepth 20000 in
theorem ggL_law_X9_move : GoodIn wsL_law wsX9_move := goodIn_r _ [529, 100, 104, 474, 101, 477, 145, 476, 102, 103, 146, 147, 5, 148, 530, 531, 532, 533, 534, 535, 536, 537, 538, 539, 540, 541, 542, 543, 544, 545, 475, 405, 406, 407, 408, 96, 95, 409, 410, 411, 412, 413, 414, 415, 416, 149, 150, 151, 188, 189, 190, 191, 192, 193, 194, 195, 93, 335, 336, 337, 338, 301, 302, 303, 304, 300, 279, 94, 284, 285, 286, 287, 417, 418, 419, 420, 98, 97, 421, 422, 423, 424, 594, 595, 596, 597, 598, 599, 600, 601, 602, 603, 604, 605, 606, 607, 608, 609, 610, 611] (by decide +kernel) (by decide +kernel)
set_option maxRecDepth 20000 in
theorem gL_law_X9_move : GoodIn wsL_law (wsV RL 91 RX9 yX9_move wsX9_move) := goodIn_app (goodIn_of _ (by decide +kernel)) ggL_law_X9_move
set_option maxRecDepth 20000 in
theorem ggL_law_X8_undo : GoodIn wsL_law wsX8_undo := goodIn_r _ [549, 20, 550, 551, 552, 19, 553, 469, 83, 84, 518, 519, 520, 521, 81, 486, 487, 488, 489, 87, 494, 495, 496, 497, 554, 555, 556, 557, 592, 593, 617, 618, 619, 620, 621, 622, 623, 624, 625] (by decide +kernel) (by decide +kernel)
set_option maxRecDepth 20000 in
theorem gL_law_X8_undo : GoodIn wsL_law (wsV RL 92 RX8 yX8_undo wsX8_undo) := goodIn_app (goodIn_of _ (by decide +kernel)) ggL_law_X8_undo
set_option maxRecDepth 20000 in
theorem ggL_law_X9_undo : GoodIn wsL_law wsX9_undo := goodIn_r _ [561, 477, 594, 595, 596, 597, 598, 599, 600, 601, 602, 603, 604, 605, 606, 607, 608, 609, 610, 611] (by decide +kernel) (by decide +kernel)
set_option maxRecDepth 20000 in
theorem gL_law_X9_undo : GoodIn wsL_law (wsV RL 96 RX9 yX9_undo wsX9_undo) := goodIn_app (goodIn_of _ (by decide +kernel)) ggL_law_X9_undo
set_option maxRecDepth 20000 in
theorem ggL_law_X8_about : GoodIn wsL_law wsX8_about := goodIn_r _ [565, 20, 566, 567, 568, 19, 569, 81, 469, 87, 570, 498, 499, 500, 501, 502, 121, 122, 123, 503, 468, 84, 504, 125, 126, 509, 510, 511, 512, 88, 467, 513, 322, 323, 29, 324, 325, 326, 327, 328, 329, 49, 50, 51, 47, 46, 52, 53, 54, 55, 56, 57, 11, 12, 58, 59, 60, 61, 330, 310, 311, 312, 514, 358, 359, 15, 360, 361, 26, 25, 362, 363, 114, 2, 115, 136, 137, 364, 365, 366, 367, 368, 369, 370, 371, 372, 373, 374, 375, 376, 377, 378, 379, 380, 381, 382, 383, 384, 385, 386, 387, 388, 389, 390, 391, 392, 393, 394, 515, 396, 397, 398, 516, 117, 118, 37, 119, 120, 124, 71, 127, 128, 129, 33, 130, 66, 131, 132, 133, 134, 517, 172, 173, 41, 174, 175, 176, 177, 178, 179, 76, 180, 181, 182, 183, 571, 572, 573, 574, 86, 592, 593, 617, 618, 619, 620, 621, 622, 623, 624, 625, 612, 613, 614, 615, 616, 626, 630, 631, 632, 633, 628, 627, 629] (by decide +kernel) (by decide +kernel)
set_option maxRecDepth 20000 in
theorem gL_law_X8_about : GoodIn wsL_law (wsV RL 97 RX8 yX8_about wsX8_about) := goodIn_app (goodIn_of _ (by decide +kernel)) ggL_law_X8_about
set_option maxRecDepth 20000 in
theorem ggL_law_X9_about : GoodIn wsL_law wsX9_about := goodIn_r _ [578, 102, 477, 103, 100, 166, 538, 539, 540, 5, 541, 101, 542, 543, 544, 545, 475, 476, 405, 406, 407, 408, 96, 95, 409, 410, 411, 412, 413, 414, 415, 416, 149, 150, 151, 104, 188, 189, 190, 191, 192, 193, 194, 195, 93, 335, 336, 337, 338, 301, 302, 303, 304, 300, 279, 94, 284, 285, 286, 287, 145, 417, 418, 419, 420, 98, 97, 421, 422, 423, 424, 594, 595, 596, 597, 598, 599, 600, 601, 602, 603, 604, 605, 606, 607, 608, 609, 610, 611] (by decide +kernel) (by decide +kernel)
set_option maxRecDepth 20000 in
theorem gL_law_X9_about : GoodIn wsL_law (wsV RL 101 RX9 yX9_about wsX9_about) := goodIn_app (goodIn_of _ (by decide +kernel)) ggL_law_X9_about
set_option maxRecDepth 20000 in
theorem ggL_law_X8_digest : GoodIn wsL_law wsX8_digest := goodIn_r _ [582, 583, 584, 20, 566, 567, 568, 19, 569, 81, 469, 87, 570, 498, 499, 500, 501, 502, 121, 122, 123, 503, 468, 84, 504, 125, 126, 509, 510, 511, 512, 88, 467, 513, 322, 323, 29, 324, 325, 326, 327, 328, 329, 49, 50, 51, 47, 46, 52, 53, 54, 55, 56, 57, 11, 12, 58, 59, 60, 61, 330, 310, 311, 312, 514, 358, 359, 15, 360, 361, 26, 25, 362, 363, 114, 2, 115, 136, 137, 364, 365, 366, 367, 368, 369, 370, 371, 372, 373, 374, 375, 376, 377, 378, 379, 380, 381, 382, 383, 384, 385, 386, 387, 388, 389, 390, 391, 392, 393, 394, 515, 396, 397, 398, 516, 117, 118, 37, 119, 120, 124, 71, 127, 128, 129, 33, 130, 66, 131, 132, 133, 134, 517, 172, 173, 41, 174, 175, 176, 177, 178, 179, 76, 180, 181, 182, 183, 571, 572, 573, 574, 86, 592, 593, 617, 618, 619, 620, 621, 622, 623, 624, 625, 612, 613, 614, 615, 616, 626, 630, 631, 632, 633, 628, 627, 629] (by decide +kernel) (by decide +kernel)
set_option maxRecDepth 20000 in
theorem gL_law_X8_digest : GoodIn wsL_law (wsV RL 102 RX8 yX8_digest wsX8_digest) := goodIn_app (goodIn_of _ (by decide +kernel)) ggL_law_X8_digest
set_option maxRecDepth 20000 in
theorem ggL_law_X9_digest : GoodIn wsL_law wsX9_digest := goodIn_r _ [588, 589, 590, 591, 576, 577, 5, 578, 102, 477, 103, 100, 166, 538, 539, 540, 541, 101, 542, 543, 544, 545, 475, 476, 405, 406, 407, 408, 96, 95, 409, 410, 411, 412, 413, 414, 415, 416, 149, 150, 151, 104, 188, 189, 190, 191, 192, 193, 194, 195, 93, 335, 336, 337, 338, 301, 302, 303, 304, 300, 279, 94, 284, 285, 286, 287, 145, 417, 418, 419, 420, 98, 97, 421, 422, 423, 424, 594, 595, 596, 597, 598, 599, 600, 601, 602, 603, 604, 605, 606, 607, 608, 609, 610, 611] (by decide +kernel) (by decide +kernel)
set_option maxRecDepth 20000 in
theorem gL_law_X9_digest : GoodIn wsL_law (wsV RL 106 RX9 yX9_digest wsX9_digest) := goodIn_app (goodIn_of _ (by decide +kernel)) ggL_law_X9_digest
