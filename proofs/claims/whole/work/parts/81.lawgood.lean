set_option maxRecDepth 20000 in
theorem ggL_law_X4_init : GoodIn wsL_law wsX4_init := goodIn_r _ [9, 10, 11, 12, 13, 14, 15, 16, 17, 18, 19, 20, 21, 22, 23, 24, 25, 26, 27, 28, 29, 30, 31, 32, 33, 34, 35, 36, 37, 38, 39, 40, 41, 42, 43, 44, 45, 46, 47, 48, 49, 50, 51, 52, 53, 54, 55, 56, 57, 58, 59, 60, 61, 62, 63, 64, 65, 66, 599, 600, 601, 602, 603, 604, 563, 564, 565, 566, 567, 605, 606, 607, 608, 609, 610, 611, 612, 613, 614, 615, 616, 617, 618, 619, 620, 621, 622, 623, 624, 625, 626, 627, 628, 629, 630] (by decide +kernel) (by decide +kernel)
set_option maxRecDepth 20000 in
theorem gL_law_X4_init : GoodIn wsL_law (wsX4_init) := ggL_law_X4_init
set_option maxRecDepth 20000 in
theorem ggL_law_X5_init : GoodIn wsL_law wsX5_init := goodIn_r _ [69, 70, 11, 12, 32, 71, 72, 73, 74, 75, 76, 77, 78, 79, 80, 81, 82, 83, 84, 85, 86, 87, 88, 89, 568, 569, 570, 571, 572, 573, 574, 575, 576, 577, 578, 579, 580, 581, 582, 583, 584, 585, 586, 587, 588, 589, 590, 591, 592, 593, 594, 595, 596, 597, 598] (by decide +kernel) (by decide +kernel)
set_option maxRecDepth 20000 in
theorem gL_law_X5_init : GoodIn wsL_law (wsX5_init) := ggL_law_X5_init
set_option maxRecDepth 20000 in
theorem ggL_law_L_row : GoodIn wsL_law wsL_row := goodIn_ca (goodIn_ca (goodIn_r _ [93, 94, 95, 96, 97, 98, 2, 99, 100, 101, 102, 103, 16, 104, 105, 106, 107, 20, 108, 109, 110, 111, 112, 113, 114, 15, 115, 116, 33, 117, 34, 35, 36, 37, 563, 564, 565, 566, 567, 599, 600, 601, 602, 603, 604, 605, 606, 607, 608, 609, 610, 611, 612, 613, 614, 615] (by decide +kernel) (by decide +kernel)) (goodIn_sub (fun _ h => List.mem_append_left _ (List.mem_append_left _ (List.mem_append_left _ (List.mem_append_right _ h)))) (by decide +kernel))) (goodIn_sub (fun _ h => List.mem_append_left _ (List.mem_append_left _ (List.mem_append_right _ h))) (by decide +kernel))
set_option maxRecDepth 20000 in
theorem gL_law_L_row : GoodIn wsL_law (va_wsS RL 78 yL_row wsL_row) := goodIn_app (goodIn_of _ (by decide +kernel)) ggL_law_L_row
set_option maxRecDepth 20000 in
theorem ggL_law_X5_row : GoodIn wsL_law wsX5_row := goodIn_r _ [121, 122, 123, 71, 124, 125, 5, 126, 127, 128, 129, 130, 131, 568, 569, 570, 571, 572, 573, 574, 575, 576, 577, 578, 579, 580, 581, 582, 583, 584, 585, 586, 587, 588, 589, 590, 591, 592, 593, 594, 595, 596, 597, 598] (by decide +kernel) (by decide +kernel)
set_option maxRecDepth 20000 in
theorem gL_law_X5_row : GoodIn wsL_law (wsV RL 83 RX5 yX5_row wsX5_row) := goodIn_app (goodIn_of _ (by decide +kernel)) ggL_law_X5_row
set_option maxRecDepth 20000 in
theorem ggL_law_X5_thrown : GoodIn wsL_law wsX5_thrown := goodIn_r _ [135, 131, 568, 569, 570, 571, 572, 573, 574, 575, 576, 577, 578, 579, 580, 581, 582, 583, 584, 585, 586, 587, 588, 589, 590, 591, 592, 593, 594, 595, 596, 597, 598] (by decide +kernel) (by decide +kernel)
set_option maxRecDepth 20000 in
theorem gL_law_X5_thrown : GoodIn wsL_law (wsV RL 84 RX5 yX5_thrown wsX5_thrown) := goodIn_app (goodIn_of _ (by decide +kernel)) ggL_law_X5_thrown
set_option maxRecDepth 20000 in
theorem ggL_law_L_undo : GoodIn wsL_law wsL_undo := goodIn_ca (goodIn_r _ [138, 94, 139, 140, 141, 2, 142, 100, 101, 16, 104, 105, 106, 107, 20, 143, 15, 144, 145, 117, 563, 564, 565, 566, 567, 599, 600, 601, 602, 603, 604, 605, 606, 607, 608, 609, 610, 611, 612, 613, 614, 615] (by decide +kernel) (by decide +kernel)) (goodIn_sub (fun _ h => List.mem_append_left _ (List.mem_append_left _ (List.mem_append_left _ (List.mem_append_right _ h)))) (by decide +kernel))
set_option maxRecDepth 20000 in
theorem gL_law_L_undo : GoodIn wsL_law (va_wsS RL 88 yL_undo wsL_undo) := goodIn_app (goodIn_of _ (by decide +kernel)) ggL_law_L_undo
set_option maxRecDepth 20000 in
theorem ggL_law_X5_undo : GoodIn wsL_law wsX5_undo := goodIn_r _ [149, 122, 123, 127, 128, 129, 5, 130, 131, 568, 569, 570, 571, 572, 573, 574, 575, 576, 577, 578, 579, 580, 581, 582, 583, 584, 585, 586, 587, 588, 589, 590, 591, 592, 593, 594, 595, 596, 597, 598] (by decide +kernel) (by decide +kernel)
set_option maxRecDepth 20000 in
theorem gL_law_X5_undo : GoodIn wsL_law (wsV RL 91 RX5 yX5_undo wsX5_undo) := goodIn_app (goodIn_of _ (by decide +kernel)) ggL_law_X5_undo
set_option maxRecDepth 20000 in
theorem ggL_law_X4_witness : GoodIn wsL_law wsX4_witness := goodIn_r _ [153, 16, 154, 15, 155, 156, 157, 158, 159, 160, 117, 161, 162, 163, 164, 33, 34, 35, 36, 563, 564, 565, 566, 567, 599, 600, 601, 602, 603, 604] (by decide +kernel) (by decide +kernel)
set_option maxRecDepth 20000 in
theorem gL_law_X4_witness : GoodIn wsL_law (wsV RL 92 RX4 yX4_witness wsX4_witness) := goodIn_app (goodIn_of _ (by decide +kernel)) ggL_law_X4_witness
set_option maxRecDepth 20000 in
theorem ggL_law_X5_witness : GoodIn wsL_law wsX5_witness := goodIn_r _ [168, 131, 169, 170, 171, 5, 172, 123, 173, 174, 175, 176, 71, 568, 569, 570, 571, 572, 573, 574, 575, 576, 577, 578, 579, 580, 581, 582, 583, 584, 585, 586, 587, 588, 589, 590, 591, 592, 593, 594, 595, 596, 597, 598] (by decide +kernel) (by decide +kernel)
set_option maxRecDepth 20000 in
theorem gL_law_X5_witness : GoodIn wsL_law (wsV RL 95 RX5 yX5_witness wsX5_witness) := goodIn_app (goodIn_of _ (by decide +kernel)) ggL_law_X5_witness
set_option maxRecDepth 20000 in
theorem ggL_law_L_quota : GoodIn wsL_law wsL_quota := goodIn_ca (goodIn_ca (goodIn_r _ [179, 94, 95, 180, 181, 182, 2, 183, 100, 101, 102, 103, 20, 184, 111, 112, 113, 563, 564, 565, 566, 567, 605, 606, 607, 608, 609, 610, 611, 612, 613, 614, 615] (by decide +kernel) (by decide +kernel)) (goodIn_sub (fun _ h => List.mem_append_left _ (List.mem_append_left _ (List.mem_append_left _ (List.mem_append_right _ h)))) (by decide +kernel))) (goodIn_sub (fun _ h => List.mem_append_left _ (List.mem_append_left _ (List.mem_append_right _ h))) (by decide +kernel))
set_option maxRecDepth 20000 in
theorem gL_law_L_quota : GoodIn wsL_law (va_wsS RL 96 yL_quota wsL_quota) := goodIn_app (goodIn_of _ (by decide +kernel)) ggL_law_L_quota
set_option maxRecDepth 20000 in
theorem ggL_law_X5_quota : GoodIn wsL_law wsX5_quota := goodIn_r _ [188, 122, 189, 124, 125, 5, 126, 127, 128, 129, 130, 131, 568, 569, 570, 571, 572, 573, 574, 575, 576, 577, 578, 579, 580, 581, 582, 583, 584, 585, 586, 587, 588, 589, 590, 591, 592, 593, 594, 595, 596, 597, 598] (by decide +kernel) (by decide +kernel)
set_option maxRecDepth 20000 in
theorem gL_law_X5_quota : GoodIn wsL_law (wsV RL 99 RX5 yX5_quota wsX5_quota) := goodIn_app (goodIn_of _ (by decide +kernel)) ggL_law_X5_quota
set_option maxRecDepth 20000 in
theorem ggL_law_L_terms : GoodIn wsL_law wsL_terms := goodIn_ca (goodIn_ca (goodIn_r _ [192, 94, 95, 193, 194, 195, 2, 196, 100, 101, 102, 103, 24, 111, 112, 113, 197, 23, 198, 199, 53, 54, 55, 563, 564, 565, 566, 567, 616, 617, 618, 619, 620, 621, 622, 623, 624, 625, 626, 627] (by decide +kernel) (by decide +kernel)) (goodIn_sub (fun _ h => List.mem_append_left _ (List.mem_append_left _ (List.mem_append_left _ (List.mem_append_right _ h)))) (by decide +kernel))) (goodIn_sub (fun _ h => List.mem_append_left _ (List.mem_append_left _ (List.mem_append_right _ h))) (by decide +kernel))
set_option maxRecDepth 20000 in
theorem gL_law_L_terms : GoodIn wsL_law (va_wsS RL 100 yL_terms wsL_terms) := goodIn_app (goodIn_of _ (by decide +kernel)) ggL_law_L_terms
set_option maxRecDepth 20000 in
theorem ggL_law_X5_terms : GoodIn wsL_law wsX5_terms := goodIn_r _ [203, 204, 205, 86, 87, 124, 125, 5, 126, 127, 128, 129, 130, 131, 568, 569, 570, 571, 572, 573, 574, 575, 576, 577, 578, 579, 580, 581, 582, 583, 584, 585, 586, 587, 588, 589, 590, 591, 592, 593, 594, 595, 596, 597, 598] (by decide +kernel) (by decide +kernel)
set_option maxRecDepth 20000 in
theorem gL_law_X5_terms : GoodIn wsL_law (wsV RL 103 RX5 yX5_terms wsX5_terms) := goodIn_app (goodIn_of _ (by decide +kernel)) ggL_law_X5_terms
set_option maxRecDepth 20000 in
theorem ggL_law_L_layer : GoodIn wsL_law wsL_layer := goodIn_ca (goodIn_ca (goodIn_r _ [208, 94, 95, 209, 210, 211, 2, 212, 100, 101, 102, 103, 24, 111, 112, 113, 213, 23, 214, 215, 56, 57, 58, 59, 563, 564, 565, 566, 567, 616, 617, 618, 619, 620, 621, 622, 623, 624, 625, 626, 627] (by decide +kernel) (by decide +kernel)) (goodIn_sub (fun _ h => List.mem_append_left _ (List.mem_append_left _ (List.mem_append_left _ (List.mem_append_right _ h)))) (by decide +kernel))) (goodIn_sub (fun _ h => List.mem_append_left _ (List.mem_append_left _ (List.mem_append_right _ h))) (by decide +kernel))
set_option maxRecDepth 20000 in
theorem gL_law_L_layer : GoodIn wsL_law (va_wsS RL 104 yL_layer wsL_layer) := goodIn_app (goodIn_of _ (by decide +kernel)) ggL_law_L_layer
set_option maxRecDepth 20000 in
theorem ggL_law_X5_layer : GoodIn wsL_law wsX5_layer := goodIn_r _ [219, 204, 88, 220, 221, 222, 124, 125, 5, 126, 127, 128, 129, 130, 131, 568, 569, 570, 571, 572, 573, 574, 575, 576, 577, 578, 579, 580, 581, 582, 583, 584, 585, 586, 587, 588, 589, 590, 591, 592, 593, 594, 595, 596, 597, 598] (by decide +kernel) (by decide +kernel)
set_option maxRecDepth 20000 in
theorem gL_law_X5_layer : GoodIn wsL_law (wsV RL 107 RX5 yX5_layer wsX5_layer) := goodIn_app (goodIn_of _ (by decide +kernel)) ggL_law_X5_layer
set_option maxRecDepth 20000 in
theorem ggL_law_L_bind : GoodIn wsL_law wsL_bind := goodIn_ca (goodIn_ca (goodIn_ca (goodIn_r _ [225, 94, 95, 226, 227, 228, 229, 2, 230, 100, 101, 102, 103, 20, 231, 232, 233, 234, 16, 104, 105, 106, 107, 154, 15, 155, 156, 157, 158, 159, 160, 117, 161, 162, 163, 164, 33, 34, 35, 36, 235, 19, 236, 237, 238, 239, 240, 241, 242, 243, 244, 111, 112, 113, 245, 246, 247, 248, 249, 250, 41, 251, 42, 252, 253, 254, 255, 43, 44, 256, 257, 258, 259, 45, 46, 47, 48, 260, 261, 262, 263, 264, 265, 184, 28, 266, 267, 268, 269, 270, 271, 272, 273, 274, 275, 276, 277, 278, 279, 280, 49, 281, 282, 283, 284, 285, 286, 287, 37, 288, 289, 290, 291, 292, 293, 294, 295, 27, 296, 297, 298, 299, 300, 301, 302, 303, 304, 305, 306, 307, 308, 65, 66, 309, 310, 311, 563, 564, 565, 566, 567, 605, 606, 607, 608, 609, 610, 611, 612, 613, 614, 615, 599, 600, 601, 602, 603, 604, 628, 629, 630] (by decide +kernel) (by decide +kernel)) (goodIn_sub (fun _ h => List.mem_append_left _ (List.mem_append_left _ (List.mem_append_left _ (List.mem_append_right _ h)))) (by decide +kernel))) (goodIn_sub (fun _ h => List.mem_append_left _ (List.mem_append_left _ (List.mem_append_right _ h))) (by decide +kernel))) (goodIn_sub (fun _ h => List.mem_append_left _ (List.mem_append_right _ h)) (by decide +kernel))
set_option maxRecDepth 20000 in
theorem gL_law_L_bind : GoodIn wsL_law (va_wsS RL 108 yL_bind wsL_bind) := goodIn_app (goodIn_of _ (by decide +kernel)) ggL_law_L_bind
set_option maxRecDepth 20000 in
theorem ggL_law_X5_bind : GoodIn wsL_law wsX5_bind := goodIn_r _ [315, 122, 316, 72, 73, 317, 131, 124, 125, 5, 126, 318, 319, 320, 169, 170, 171, 172, 123, 173, 174, 175, 176, 71, 127, 128, 129, 130, 321, 322, 323, 324, 325, 326, 327, 74, 75, 76, 77, 78, 328, 329, 330, 331, 332, 189, 333, 334, 335, 336, 337, 338, 339, 340, 341, 342, 343, 344, 79, 345, 346, 347, 348, 349, 350, 351, 352, 353, 354, 355, 356, 357, 358, 359, 360, 83, 84, 85, 361, 362, 363, 364, 365, 366, 367, 368, 80, 81, 82, 568, 569, 570, 571, 572, 573, 574, 575, 576, 577, 578, 579, 580, 581, 582, 583, 584, 585, 586, 587, 588, 589, 590, 591, 592, 593, 594, 595, 596, 597, 598] (by decide +kernel) (by decide +kernel)
set_option maxRecDepth 20000 in
theorem gL_law_X5_bind : GoodIn wsL_law (wsV RL 110 RX5 yX5_bind wsX5_bind) := goodIn_app (goodIn_of _ (by decide +kernel)) ggL_law_X5_bind
set_option maxRecDepth 20000 in
theorem ggL_law_L_change : GoodIn wsL_law wsL_change := goodIn_ca (goodIn_ca (goodIn_ca (goodIn_ca (goodIn_r _ [371, 372, 95, 94, 226, 373, 374, 375, 2, 376, 377, 378, 102, 103, 100, 101, 20, 379, 380, 381, 382, 242, 243, 244, 111, 112, 113, 383, 19, 384, 385, 41, 42, 245, 246, 247, 386, 387, 388, 238, 389, 281, 282, 283, 284, 44, 43, 45, 47, 46, 48, 235, 236, 237, 390, 391, 392, 393, 257, 258, 259, 260, 261, 262, 263, 264, 265, 184, 28, 266, 267, 268, 252, 253, 254, 255, 269, 270, 271, 272, 273, 274, 275, 276, 277, 278, 279, 280, 49, 285, 15, 286, 287, 117, 37, 161, 162, 163, 164, 33, 34, 35, 36, 288, 289, 290, 291, 292, 293, 294, 295, 27, 296, 297, 298, 299, 300, 301, 302, 303, 304, 305, 306, 307, 308, 65, 66, 394, 395, 396, 563, 564, 565, 566, 567, 605, 606, 607, 608, 609, 610, 611, 612, 613, 614, 615, 599, 600, 601, 602, 603, 604, 628, 629, 630] (by decide +kernel) (by decide +kernel)) (goodIn_sub (fun _ h => List.mem_append_right _ h) (by decide +kernel))) (goodIn_sub (fun _ h => List.mem_append_left _ (List.mem_append_left _ (List.mem_append_right _ h))) (by decide +kernel))) (goodIn_sub (fun _ h => List.mem_append_left _ (List.mem_append_left _ (List.mem_append_left _ (List.mem_append_right _ h)))) (by decide +kernel))) (goodIn_sub (fun _ h => List.mem_append_left _ (List.mem_append_right _ h)) (by decide +kernel))
set_option maxRecDepth 20000 in
theorem gL_law_L_change : GoodIn wsL_law (va_wsS RL 111 yL_change wsL_change) := goodIn_app (goodIn_of _ (by decide +kernel)) ggL_law_L_change
set_option maxRecDepth 20000 in
theorem ggL_law_X5_change : GoodIn wsL_law wsX5_change := goodIn_r _ [400, 316, 401, 402, 403, 5, 404, 122, 124, 125, 126, 405, 406, 407, 408, 72, 73, 318, 319, 320, 409, 410, 411, 412, 341, 342, 343, 344, 79, 75, 76, 74, 77, 345, 346, 347, 348, 127, 128, 129, 130, 131, 324, 325, 326, 327, 78, 413, 414, 415, 416, 328, 329, 330, 331, 332, 189, 333, 334, 335, 336, 337, 338, 339, 340, 349, 350, 351, 352, 317, 353, 354, 355, 356, 123, 71, 173, 174, 175, 176, 357, 358, 359, 360, 83, 84, 85, 361, 362, 363, 364, 365, 366, 367, 368, 80, 81, 82, 568, 569, 570, 571, 572, 573, 574, 575, 576, 577, 578, 579, 580, 581, 582, 583, 584, 585, 586, 587, 588, 589, 590, 591, 592, 593, 594, 595, 596, 597, 598] (by decide +kernel) (by decide +kernel)
set_option maxRecDepth 20000 in
theorem gL_law_X5_change : GoodIn wsL_law (wsV RL 114 RX5 yX5_change wsX5_change) := goodIn_app (goodIn_of _ (by decide +kernel)) ggL_law_X5_change
set_option maxRecDepth 20000 in
theorem ggL_law_L_cancel : GoodIn wsL_law wsL_cancel := goodIn_ca (goodIn_ca (goodIn_ca (goodIn_ca (goodIn_r _ [419, 372, 95, 94, 226, 420, 421, 422, 2, 423, 377, 378, 102, 103, 100, 101, 20, 379, 380, 381, 382, 242, 243, 244, 383, 19, 384, 385, 41, 42, 386, 387, 388, 238, 389, 281, 282, 283, 284, 44, 43, 45, 47, 46, 48, 112, 113, 235, 236, 237, 390, 391, 392, 393, 257, 258, 259, 260, 261, 262, 263, 264, 265, 184, 28, 266, 267, 268, 252, 253, 254, 255, 269, 270, 271, 272, 273, 274, 275, 276, 277, 278, 279, 280, 49, 285, 15, 286, 287, 117, 37, 161, 162, 163, 164, 33, 34, 35, 36, 288, 289, 290, 291, 292, 293, 294, 295, 27, 296, 297, 298, 299, 300, 301, 302, 303, 304, 305, 306, 307, 308, 65, 66, 394, 395, 396, 563, 564, 565, 566, 567, 605, 606, 607, 608, 609, 610, 611, 612, 613, 614, 615, 599, 600, 601, 602, 603, 604, 628, 629, 630] (by decide +kernel) (by decide +kernel)) (goodIn_sub (fun _ h => List.mem_append_right _ h) (by decide +kernel))) (goodIn_sub (fun _ h => List.mem_append_left _ (List.mem_append_left _ (List.mem_append_right _ h))) (by decide +kernel))) (goodIn_sub (fun _ h => List.mem_append_left _ (List.mem_append_left _ (List.mem_append_left _ (List.mem_append_right _ h)))) (by decide +kernel))) (goodIn_sub (fun _ h => List.mem_append_left _ (List.mem_append_right _ h)) (by decide +kernel))
set_option maxRecDepth 20000 in
theorem gL_law_L_cancel : GoodIn wsL_law (va_wsS RL 115 yL_cancel wsL_cancel) := goodIn_app (goodIn_of _ (by decide +kernel)) ggL_law_L_cancel
set_option maxRecDepth 20000 in
theorem ggL_law_X5_cancel : GoodIn wsL_law wsX5_cancel := goodIn_r _ [427, 428, 429, 430, 5, 431, 316, 401, 402, 403, 404, 122, 405, 406, 407, 408, 72, 73, 409, 410, 411, 412, 341, 342, 343, 344, 79, 75, 76, 74, 77, 345, 346, 347, 348, 127, 128, 129, 130, 131, 324, 325, 326, 327, 78, 413, 414, 415, 416, 328, 329, 330, 331, 332, 189, 333, 334, 335, 336, 337, 338, 339, 340, 349, 350, 351, 352, 317, 353, 354, 355, 356, 123, 71, 173, 174, 175, 176, 357, 358, 359, 360, 83, 84, 85, 361, 362, 363, 364, 365, 366, 367, 368, 80, 81, 82, 568, 569, 570, 571, 572, 573, 574, 575, 576, 577, 578, 579, 580, 581, 582, 583, 584, 585, 586, 587, 588, 589, 590, 591, 592, 593, 594, 595, 596, 597, 598] (by decide +kernel) (by decide +kernel)
set_option maxRecDepth 20000 in
theorem gL_law_X5_cancel : GoodIn wsL_law (wsV RL 118 RX5 yX5_cancel wsX5_cancel) := goodIn_app (goodIn_of _ (by decide +kernel)) ggL_law_X5_cancel
set_option maxRecDepth 20000 in
theorem ggL_law_L_reinstate : GoodIn wsL_law wsL_reinstate := goodIn_ca (goodIn_ca (goodIn_ca (goodIn_ca (goodIn_r _ [434, 372, 95, 94, 226, 435, 436, 437, 2, 438, 377, 378, 102, 103, 100, 101, 20, 379, 380, 381, 382, 242, 243, 244, 383, 19, 384, 385, 41, 42, 386, 387, 388, 238, 389, 281, 282, 283, 284, 44, 43, 45, 47, 46, 48, 112, 113, 235, 236, 237, 390, 391, 392, 393, 257, 258, 259, 260, 261, 262, 263, 264, 265, 184, 28, 266, 267, 268, 252, 253, 254, 255, 269, 270, 271, 272, 273, 274, 275, 276, 277, 278, 279, 280, 49, 285, 15, 286, 287, 117, 37, 161, 162, 163, 164, 33, 34, 35, 36, 288, 289, 290, 291, 292, 293, 294, 295, 27, 296, 297, 298, 299, 300, 301, 302, 303, 304, 305, 306, 307, 308, 65, 66, 394, 395, 396, 563, 564, 565, 566, 567, 605, 606, 607, 608, 609, 610, 611, 612, 613, 614, 615, 599, 600, 601, 602, 603, 604, 628, 629, 630] (by decide +kernel) (by decide +kernel)) (goodIn_sub (fun _ h => List.mem_append_right _ h) (by decide +kernel))) (goodIn_sub (fun _ h => List.mem_append_left _ (List.mem_append_left _ (List.mem_append_right _ h))) (by decide +kernel))) (goodIn_sub (fun _ h => List.mem_append_left _ (List.mem_append_left _ (List.mem_append_left _ (List.mem_append_right _ h)))) (by decide +kernel))) (goodIn_sub (fun _ h => List.mem_append_left _ (List.mem_append_right _ h)) (by decide +kernel))
set_option maxRecDepth 20000 in
theorem gL_law_L_reinstate : GoodIn wsL_law (va_wsS RL 119 yL_reinstate wsL_reinstate) := goodIn_app (goodIn_of _ (by decide +kernel)) ggL_law_L_reinstate
set_option maxRecDepth 20000 in
theorem ggL_law_X5_reinstate : GoodIn wsL_law wsX5_reinstate := goodIn_r _ [442, 428, 429, 430, 5, 431, 316, 401, 402, 403, 404, 122, 405, 406, 407, 408, 72, 73, 409, 410, 411, 412, 341, 342, 343, 344, 79, 75, 76, 74, 77, 345, 346, 347, 348, 127, 128, 129, 130, 131, 324, 325, 326, 327, 78, 413, 414, 415, 416, 328, 329, 330, 331, 332, 189, 333, 334, 335, 336, 337, 338, 339, 340, 349, 350, 351, 352, 317, 353, 354, 355, 356, 123, 71, 173, 174, 175, 176, 357, 358, 359, 360, 83, 84, 85, 361, 362, 363, 364, 365, 366, 367, 368, 80, 81, 82, 568, 569, 570, 571, 572, 573, 574, 575, 576, 577, 578, 579, 580, 581, 582, 583, 584, 585, 586, 587, 588, 589, 590, 591, 592, 593, 594, 595, 596, 597, 598] (by decide +kernel) (by decide +kernel)
set_option maxRecDepth 20000 in
theorem gL_law_X5_reinstate : GoodIn wsL_law (wsV RL 122 RX5 yX5_reinstate wsX5_reinstate) := goodIn_app (goodIn_of _ (by decide +kernel)) ggL_law_X5_reinstate
set_option maxRecDepth 20000 in
theorem ggL_law_L_claim : GoodIn wsL_law wsL_claim := goodIn_ca (goodIn_ca (goodIn_ca (goodIn_ca (goodIn_r _ [445, 372, 95, 94, 226, 446, 447, 448, 2, 449, 377, 378, 102, 103, 100, 101, 20, 24, 184, 379, 380, 381, 382, 242, 243, 244, 239, 240, 241, 111, 112, 113, 386, 19, 387, 388, 238, 389, 383, 384, 385, 41, 42, 281, 282, 283, 284, 44, 43, 45, 47, 46, 48, 450, 23, 451, 452, 55, 60, 53, 453, 454, 254, 455, 54, 456, 253, 255, 288, 289, 290, 291, 292, 293, 294, 457, 458, 459, 57, 58, 460, 56, 461, 462, 463, 464, 465, 466, 467, 468, 264, 265, 28, 295, 27, 296, 297, 298, 299, 300, 301, 302, 303, 304, 305, 306, 307, 308, 65, 66, 469, 470, 471, 472, 61, 563, 564, 565, 566, 567, 616, 617, 618, 619, 620, 621, 622, 623, 624, 625, 626, 627, 605, 606, 607, 608, 609, 610, 611, 612, 613, 614, 615, 628, 629, 630] (by decide +kernel) (by decide +kernel)) (goodIn_sub (fun _ h => List.mem_append_right _ h) (by decide +kernel))) (goodIn_sub (fun _ h => List.mem_append_left _ (List.mem_append_left _ (List.mem_append_right _ h))) (by decide +kernel))) (goodIn_sub (fun _ h => List.mem_append_left _ (List.mem_append_left _ (List.mem_append_left _ (List.mem_append_right _ h)))) (by decide +kernel))) (goodIn_sub (fun _ h => List.mem_append_left _ (List.mem_append_right _ h)) (by decide +kernel))
set_option maxRecDepth 20000 in
theorem gL_law_L_claim : GoodIn wsL_law (va_wsS RL 123 yL_claim wsL_claim) := goodIn_app (goodIn_of _ (by decide +kernel)) ggL_law_L_claim
set_option maxRecDepth 20000 in
theorem ggL_law_X5_claim : GoodIn wsL_law wsX5_claim := goodIn_r _ [476, 204, 205, 86, 87, 189, 88, 220, 221, 332, 222, 131, 89, 401, 402, 403, 5, 404, 122, 124, 125, 126, 409, 410, 411, 412, 405, 406, 407, 408, 72, 73, 341, 342, 343, 344, 79, 316, 75, 76, 74, 77, 345, 346, 347, 348, 127, 128, 129, 130, 321, 322, 323, 477, 478, 479, 480, 357, 358, 359, 360, 83, 84, 85, 364, 365, 366, 367, 368, 80, 81, 82, 568, 569, 570, 571, 572, 573, 574, 575, 576, 577, 578, 579, 580, 581, 582, 583, 584, 585, 586, 587, 588, 589, 590, 591, 592, 593, 594, 595, 596, 597, 598] (by decide +kernel) (by decide +kernel)
set_option maxRecDepth 20000 in
theorem gL_law_X5_claim : GoodIn wsL_law (wsV RL 126 RX5 yX5_claim wsX5_claim) := goodIn_app (goodIn_of _ (by decide +kernel)) ggL_law_X5_claim
set_option maxRecDepth 20000 in
theorem ggL_law_X4_count : GoodIn wsL_law wsX4_count := goodIn_r _ [484, 20, 24, 28, 16, 563, 564, 565, 566, 567, 605, 606, 607, 608, 609, 610, 611, 612, 613, 614, 615, 616, 617, 618, 619, 620, 621, 622, 623, 624, 625, 626, 627, 628, 629, 630, 599, 600, 601, 602, 603, 604] (by decide +kernel) (by decide +kernel)
set_option maxRecDepth 20000 in
theorem gL_law_X4_count : GoodIn wsL_law (wsV RL 127 RX4 yX4_count wsX4_count) := goodIn_app (goodIn_of _ (by decide +kernel)) ggL_law_X4_count
set_option maxRecDepth 20000 in
theorem ggL_law_X5_count : GoodIn wsL_law wsX5_count := goodIn_r _ [488, 131, 122, 316, 204, 368, 123, 568, 569, 570, 571, 572, 573, 574, 575, 576, 577, 578, 579, 580, 581, 582, 583, 584, 585, 586, 587, 588, 589, 590, 591, 592, 593, 594, 595, 596, 597, 598] (by decide +kernel) (by decide +kernel)
set_option maxRecDepth 20000 in
theorem gL_law_X5_count : GoodIn wsL_law (wsV RL 130 RX5 yX5_count wsX5_count) := goodIn_app (goodIn_of _ (by decide +kernel)) ggL_law_X5_count
set_option maxRecDepth 20000 in
theorem ggL_law_L_fact : GoodIn wsL_law wsL_fact := goodIn_ca (goodIn_r _ [491, 372, 492, 493, 494, 2, 495, 377, 378, 20, 379, 380, 381, 382, 242, 243, 244, 111, 112, 113, 496, 19, 497, 498, 238, 252, 253, 254, 255, 499, 454, 455, 383, 384, 385, 41, 42, 270, 271, 272, 43, 278, 279, 280, 49, 281, 282, 283, 284, 44, 45, 47, 46, 48, 285, 15, 286, 287, 117, 37, 161, 162, 163, 164, 33, 34, 35, 36, 563, 564, 565, 566, 567, 605, 606, 607, 608, 609, 610, 611, 612, 613, 614, 615, 599, 600, 601, 602, 603, 604] (by decide +kernel) (by decide +kernel)) (goodIn_sub (fun _ h => List.mem_append_right _ h) (by decide +kernel))
set_option maxRecDepth 20000 in
theorem gL_law_L_fact : GoodIn wsL_law (va_wsS RL 131 yL_fact wsL_fact) := goodIn_app (goodIn_of _ (by decide +kernel)) ggL_law_L_fact
set_option maxRecDepth 20000 in
theorem ggL_law_X5_fact : GoodIn wsL_law wsX5_fact := goodIn_r _ [503, 401, 402, 403, 5, 404, 122, 124, 125, 126, 127, 128, 129, 130, 131, 405, 406, 407, 408, 72, 73, 504, 505, 506, 507, 79, 341, 342, 343, 344, 316, 75, 76, 74, 77, 337, 338, 339, 340, 345, 346, 347, 348, 349, 350, 351, 352, 78, 317, 353, 354, 355, 356, 123, 71, 173, 174, 175, 176, 568, 569, 570, 571, 572, 573, 574, 575, 576, 577, 578, 579, 580, 581, 582, 583, 584, 585, 586, 587, 588, 589, 590, 591, 592, 593, 594, 595, 596, 597, 598] (by decide +kernel) (by decide +kernel)
set_option maxRecDepth 20000 in
theorem gL_law_X5_fact : GoodIn wsL_law (wsV RL 133 RX5 yX5_fact wsX5_fact) := goodIn_app (goodIn_of _ (by decide +kernel)) ggL_law_X5_fact
set_option maxRecDepth 20000 in
theorem ggL_law_L_written : GoodIn wsL_law wsL_written := goodIn_ca (goodIn_r _ [510, 372, 511, 512, 513, 2, 514, 377, 378, 20, 379, 380, 381, 382, 242, 243, 244, 496, 19, 497, 498, 238, 252, 253, 254, 255, 499, 454, 455, 266, 267, 268, 42, 41, 269, 270, 271, 272, 43, 273, 274, 275, 276, 45, 46, 277, 278, 279, 280, 49, 281, 282, 283, 284, 44, 47, 48, 112, 113, 285, 15, 286, 287, 117, 37, 161, 162, 163, 164, 33, 34, 35, 36, 563, 564, 565, 566, 567, 605, 606, 607, 608, 609, 610, 611, 612, 613, 614, 615, 599, 600, 601, 602, 603, 604] (by decide +kernel) (by decide +kernel)) (goodIn_sub (fun _ h => List.mem_append_right _ h) (by decide +kernel))
set_option maxRecDepth 20000 in
theorem gL_law_L_written : GoodIn wsL_law (va_wsS RL 134 yL_written wsL_written) := goodIn_app (goodIn_of _ (by decide +kernel)) ggL_law_L_written
set_option maxRecDepth 20000 in
theorem ggL_law_X5_written : GoodIn wsL_law wsX5_written := goodIn_r _ [518, 401, 402, 403, 5, 404, 122, 127, 128, 129, 130, 131, 333, 334, 335, 336, 72, 73, 337, 338, 339, 340, 341, 342, 343, 344, 79, 316, 75, 76, 74, 77, 345, 346, 347, 348, 349, 350, 351, 352, 78, 317, 353, 354, 355, 356, 123, 71, 173, 174, 175, 176, 568, 569, 570, 571, 572, 573, 574, 575, 576, 577, 578, 579, 580, 581, 582, 583, 584, 585, 586, 587, 588, 589, 590, 591, 592, 593, 594, 595, 596, 597, 598] (by decide +kernel) (by decide +kernel)
set_option maxRecDepth 20000 in
theorem gL_law_X5_written : GoodIn wsL_law (wsV RL 136 RX5 yX5_written wsX5_written) := goodIn_app (goodIn_of _ (by decide +kernel)) ggL_law_X5_written
set_option maxRecDepth 20000 in
theorem ggL_law_L_earned : GoodIn wsL_law wsL_earned := goodIn_ca (goodIn_r _ [521, 372, 522, 523, 524, 2, 525, 377, 378, 20, 379, 380, 381, 382, 242, 243, 244, 496, 19, 497, 498, 238, 252, 253, 254, 255, 499, 454, 455, 266, 267, 268, 42, 41, 269, 270, 271, 272, 43, 273, 274, 275, 276, 45, 46, 277, 278, 279, 280, 49, 281, 282, 283, 284, 44, 47, 48, 112, 113, 285, 15, 286, 287, 117, 37, 161, 162, 163, 164, 33, 34, 35, 36, 563, 564, 565, 566, 567, 605, 606, 607, 608, 609, 610, 611, 612, 613, 614, 615, 599, 600, 601, 602, 603, 604] (by decide +kernel) (by decide +kernel)) (goodIn_sub (fun _ h => List.mem_append_right _ h) (by decide +kernel))
set_option maxRecDepth 20000 in
theorem gL_law_L_earned : GoodIn wsL_law (va_wsS RL 137 yL_earned wsL_earned) := goodIn_app (goodIn_of _ (by decide +kernel)) ggL_law_L_earned
set_option maxRecDepth 20000 in
theorem ggL_law_X5_earned : GoodIn wsL_law wsX5_earned := goodIn_r _ [529, 401, 402, 403, 5, 404, 122, 127, 128, 129, 130, 131, 333, 334, 335, 336, 72, 73, 337, 338, 339, 340, 341, 342, 343, 344, 79, 316, 75, 76, 74, 77, 345, 346, 347, 348, 349, 350, 351, 352, 78, 317, 353, 354, 355, 356, 123, 71, 173, 174, 175, 176, 568, 569, 570, 571, 572, 573, 574, 575, 576, 577, 578, 579, 580, 581, 582, 583, 584, 585, 586, 587, 588, 589, 590, 591, 592, 593, 594, 595, 596, 597, 598] (by decide +kernel) (by decide +kernel)
set_option maxRecDepth 20000 in
theorem gL_law_X5_earned : GoodIn wsL_law (wsV RL 139 RX5 yX5_earned wsX5_earned) := goodIn_app (goodIn_of _ (by decide +kernel)) ggL_law_X5_earned
set_option maxRecDepth 20000 in
theorem ggL_law_L_settled : GoodIn wsL_law wsL_settled := goodIn_ca (goodIn_r _ [532, 372, 533, 534, 535, 2, 536, 377, 378, 24, 242, 243, 244, 563, 564, 565, 566, 567, 616, 617, 618, 619, 620, 621, 622, 623, 624, 625, 626, 627] (by decide +kernel) (by decide +kernel)) (goodIn_sub (fun _ h => List.mem_append_right _ h) (by decide +kernel))
set_option maxRecDepth 20000 in
theorem gL_law_L_settled : GoodIn wsL_law (va_wsS RL 140 yL_settled wsL_settled) := goodIn_app (goodIn_of _ (by decide +kernel)) ggL_law_L_settled
set_option maxRecDepth 20000 in
theorem ggL_law_X5_settled : GoodIn wsL_law wsX5_settled := goodIn_r _ [540, 204, 89, 124, 125, 5, 126, 127, 128, 129, 130, 131, 568, 569, 570, 571, 572, 573, 574, 575, 576, 577, 578, 579, 580, 581, 582, 583, 584, 585, 586, 587, 588, 589, 590, 591, 592, 593, 594, 595, 596, 597, 598] (by decide +kernel) (by decide +kernel)
set_option maxRecDepth 20000 in
theorem gL_law_X5_settled : GoodIn wsL_law (wsV RL 142 RX5 yX5_settled wsX5_settled) := goodIn_app (goodIn_of _ (by decide +kernel)) ggL_law_X5_settled
set_option maxRecDepth 20000 in
theorem ggL_law_L_posting : GoodIn wsL_law wsL_posting := goodIn_ca (goodIn_r _ [543, 372, 544, 545, 546, 2, 547, 377, 378, 28, 242, 243, 244, 563, 564, 565, 566, 567, 628, 629, 630] (by decide +kernel) (by decide +kernel)) (goodIn_sub (fun _ h => List.mem_append_right _ h) (by decide +kernel))
set_option maxRecDepth 20000 in
theorem gL_law_L_posting : GoodIn wsL_law (va_wsS RL 143 yL_posting wsL_posting) := goodIn_app (goodIn_of _ (by decide +kernel)) ggL_law_L_posting
set_option maxRecDepth 20000 in
theorem ggL_law_X5_posting : GoodIn wsL_law wsX5_posting := goodIn_r _ [551, 368, 80, 81, 82, 124, 125, 5, 126, 127, 128, 129, 130, 131, 568, 569, 570, 571, 572, 573, 574, 575, 576, 577, 578, 579, 580, 581, 582, 583, 584, 585, 586, 587, 588, 589, 590, 591, 592, 593, 594, 595, 596, 597, 598] (by decide +kernel) (by decide +kernel)
set_option maxRecDepth 20000 in
theorem gL_law_X5_posting : GoodIn wsL_law (wsV RL 145 RX5 yX5_posting wsX5_posting) := goodIn_app (goodIn_of _ (by decide +kernel)) ggL_law_X5_posting
set_option maxRecDepth 20000 in
theorem ggL_law_L_balance : GoodIn wsL_law wsL_balance := goodIn_ca (goodIn_r _ [554, 372, 555, 556, 557, 2, 558, 377, 378, 28, 242, 243, 244, 563, 564, 565, 566, 567, 628, 629, 630] (by decide +kernel) (by decide +kernel)) (goodIn_sub (fun _ h => List.mem_append_right _ h) (by decide +kernel))
set_option maxRecDepth 20000 in
theorem gL_law_L_balance : GoodIn wsL_law (va_wsS RL 146 yL_balance wsL_balance) := goodIn_app (goodIn_of _ (by decide +kernel)) ggL_law_L_balance
set_option maxRecDepth 20000 in
theorem ggL_law_X5_balance : GoodIn wsL_law wsX5_balance := goodIn_r _ [562, 368, 81, 82, 80, 124, 125, 5, 126, 127, 128, 129, 130, 131, 568, 569, 570, 571, 572, 573, 574, 575, 576, 577, 578, 579, 580, 581, 582, 583, 584, 585, 586, 587, 588, 589, 590, 591, 592, 593, 594, 595, 596, 597, 598] (by decide +kernel) (by decide +kernel)
set_option maxRecDepth 20000 in
theorem gL_law_X5_balance : GoodIn wsL_law (wsV RL 149 RX5 yX5_balance wsX5_balance) := goodIn_app (goodIn_of _ (by decide +kernel)) ggL_law_X5_balance

