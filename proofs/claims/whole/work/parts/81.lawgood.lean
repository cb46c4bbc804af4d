set_option maxRecDepth 20000 in
theorem ggL_law_X4_init : GoodIn wsL_law wsX4_init := goodIn_r _ [9, 10, 11, 12, 13, 14, 15, 16, 17, 18, 19, 20, 21, 22, 23, 24, 25, 26, 27, 28, 29, 30, 31, 32, 33, 34, 35, 36, 37, 38, 39, 40, 41, 42, 43, 44, 45, 46, 47, 48, 49, 50, 51, 52, 53, 54, 55, 56, 57, 58, 59, 60, 61, 62, 63, 64, 65, 598, 599, 600, 601, 602, 603, 562, 563, 564, 565, 566, 604, 605, 606, 607, 608, 609, 610, 611, 612, 613, 614, 615, 616, 617, 618, 619, 620, 621, 622, 623, 624, 625, 626, 627, 628] (by decide +kernel) (by decide +kernel)
set_option maxRecDepth 20000 in
theorem gL_law_X4_init : GoodIn wsL_law (wsX4_init) := ggL_law_X4_init
set_option maxRecDepth 20000 in
theorem ggL_law_X5_init : GoodIn wsL_law wsX5_init := goodIn_r _ [68, 69, 11, 12, 32, 70, 71, 72, 73, 74, 75, 76, 77, 78, 79, 80, 81, 82, 83, 84, 85, 86, 87, 88, 567, 568, 569, 570, 571, 572, 573, 574, 575, 576, 577, 578, 579, 580, 581, 582, 583, 584, 585, 586, 587, 588, 589, 590, 591, 592, 593, 594, 595, 596, 597] (by decide +kernel) (by decide +kernel)
set_option maxRecDepth 20000 in
theorem gL_law_X5_init : GoodIn wsL_law (wsX5_init) := ggL_law_X5_init
set_option maxRecDepth 20000 in
theorem ggL_law_L_row : GoodIn wsL_law wsL_row := goodIn_ca (goodIn_ca (goodIn_r _ [92, 93, 94, 95, 96, 97, 2, 98, 99, 100, 101, 102, 16, 103, 104, 105, 106, 20, 107, 108, 109, 110, 111, 112, 113, 15, 114, 115, 33, 116, 34, 35, 36, 37, 562, 563, 564, 565, 566, 598, 599, 600, 601, 602, 603, 604, 605, 606, 607, 608, 609, 610, 611, 612, 613] (by decide +kernel) (by decide +kernel)) (goodIn_sub (fun _ h => List.mem_append_left _ (List.mem_append_left _ (List.mem_append_left _ (List.mem_append_right _ h)))) (by decide +kernel))) (goodIn_sub (fun _ h => List.mem_append_left _ (List.mem_append_left _ (List.mem_append_right _ h))) (by decide +kernel))
set_option maxRecDepth 20000 in
theorem gL_law_L_row : GoodIn wsL_law (va_wsS RL 78 yL_row wsL_row) := goodIn_app (goodIn_of _ (by decide +kernel)) ggL_law_L_row
set_option maxRecDepth 20000 in
theorem ggL_law_X5_row : GoodIn wsL_law wsX5_row := goodIn_r _ [120, 121, 122, 70, 123, 124, 5, 125, 126, 127, 128, 129, 130, 567, 568, 569, 570, 571, 572, 573, 574, 575, 576, 577, 578, 579, 580, 581, 582, 583, 584, 585, 586, 587, 588, 589, 590, 591, 592, 593, 594, 595, 596, 597] (by decide +kernel) (by decide +kernel)
set_option maxRecDepth 20000 in
theorem gL_law_X5_row : GoodIn wsL_law (wsV RL 83 RX5 yX5_row wsX5_row) := goodIn_app (goodIn_of _ (by decide +kernel)) ggL_law_X5_row
set_option maxRecDepth 20000 in
theorem ggL_law_X5_thrown : GoodIn wsL_law wsX5_thrown := goodIn_r _ [134, 130, 567, 568, 569, 570, 571, 572, 573, 574, 575, 576, 577, 578, 579, 580, 581, 582, 583, 584, 585, 586, 587, 588, 589, 590, 591, 592, 593, 594, 595, 596, 597] (by decide +kernel) (by decide +kernel)
set_option maxRecDepth 20000 in
theorem gL_law_X5_thrown : GoodIn wsL_law (wsV RL 84 RX5 yX5_thrown wsX5_thrown) := goodIn_app (goodIn_of _ (by decide +kernel)) ggL_law_X5_thrown
set_option maxRecDepth 20000 in
theorem ggL_law_L_undo : GoodIn wsL_law wsL_undo := goodIn_ca (goodIn_r _ [137, 93, 138, 139, 140, 2, 141, 99, 100, 16, 103, 104, 105, 106, 20, 142, 15, 143, 144, 116, 562, 563, 564, 565, 566, 598, 599, 600, 601, 602, 603, 604, 605, 606, 607, 608, 609, 610, 611, 612, 613] (by decide +kernel) (by decide +kernel)) (goodIn_sub (fun _ h => List.mem_append_left _ (List.mem_append_left _ (List.mem_append_left _ (List.mem_append_right _ h)))) (by decide +kernel))
set_option maxRecDepth 20000 in
theorem gL_law_L_undo : GoodIn wsL_law (va_wsS RL 88 yL_undo wsL_undo) := goodIn_app (goodIn_of _ (by decide +kernel)) ggL_law_L_undo
set_option maxRecDepth 20000 in
theorem ggL_law_X5_undo : GoodIn wsL_law wsX5_undo := goodIn_r _ [148, 121, 122, 126, 127, 128, 5, 129, 130, 567, 568, 569, 570, 571, 572, 573, 574, 575, 576, 577, 578, 579, 580, 581, 582, 583, 584, 585, 586, 587, 588, 589, 590, 591, 592, 593, 594, 595, 596, 597] (by decide +kernel) (by decide +kernel)
set_option maxRecDepth 20000 in
theorem gL_law_X5_undo : GoodIn wsL_law (wsV RL 91 RX5 yX5_undo wsX5_undo) := goodIn_app (goodIn_of _ (by decide +kernel)) ggL_law_X5_undo
set_option maxRecDepth 20000 in
theorem ggL_law_X4_witness : GoodIn wsL_law wsX4_witness := goodIn_r _ [152, 16, 153, 15, 154, 155, 156, 157, 158, 159, 116, 160, 161, 162, 163, 33, 34, 35, 36, 562, 563, 564, 565, 566, 598, 599, 600, 601, 602, 603] (by decide +kernel) (by decide +kernel)
set_option maxRecDepth 20000 in
theorem gL_law_X4_witness : GoodIn wsL_law (wsV RL 92 RX4 yX4_witness wsX4_witness) := goodIn_app (goodIn_of _ (by decide +kernel)) ggL_law_X4_witness
set_option maxRecDepth 20000 in
theorem ggL_law_X5_witness : GoodIn wsL_law wsX5_witness := goodIn_r _ [167, 130, 168, 169, 170, 5, 171, 122, 172, 173, 174, 175, 70, 567, 568, 569, 570, 571, 572, 573, 574, 575, 576, 577, 578, 579, 580, 581, 582, 583, 584, 585, 586, 587, 588, 589, 590, 591, 592, 593, 594, 595, 596, 597] (by decide +kernel) (by decide +kernel)
set_option maxRecDepth 20000 in
theorem gL_law_X5_witness : GoodIn wsL_law (wsV RL 95 RX5 yX5_witness wsX5_witness) := goodIn_app (goodIn_of _ (by decide +kernel)) ggL_law_X5_witness
set_option maxRecDepth 20000 in
theorem ggL_law_L_quota : GoodIn wsL_law wsL_quota := goodIn_ca (goodIn_ca (goodIn_r _ [178, 93, 94, 179, 180, 181, 2, 182, 99, 100, 101, 102, 20, 183, 110, 111, 112, 562, 563, 564, 565, 566, 604, 605, 606, 607, 608, 609, 610, 611, 612, 613] (by decide +kernel) (by decide +kernel)) (goodIn_sub (fun _ h => List.mem_append_left _ (List.mem_append_left _ (List.mem_append_left _ (List.mem_append_right _ h)))) (by decide +kernel))) (goodIn_sub (fun _ h => List.mem_append_left _ (List.mem_append_left _ (List.mem_append_right _ h))) (by decide +kernel))
set_option maxRecDepth 20000 in
theorem gL_law_L_quota : GoodIn wsL_law (va_wsS RL 96 yL_quota wsL_quota) := goodIn_app (goodIn_of _ (by decide +kernel)) ggL_law_L_quota
set_option maxRecDepth 20000 in
theorem ggL_law_X5_quota : GoodIn wsL_law wsX5_quota := goodIn_r _ [187, 121, 188, 123, 124, 5, 125, 126, 127, 128, 129, 130, 567, 568, 569, 570, 571, 572, 573, 574, 575, 576, 577, 578, 579, 580, 581, 582, 583, 584, 585, 586, 587, 588, 589, 590, 591, 592, 593, 594, 595, 596, 597] (by decide +kernel) (by decide +kernel)
set_option maxRecDepth 20000 in
theorem gL_law_X5_quota : GoodIn wsL_law (wsV RL 99 RX5 yX5_quota wsX5_quota) := goodIn_app (goodIn_of _ (by decide +kernel)) ggL_law_X5_quota
set_option maxRecDepth 20000 in
theorem ggL_law_L_terms : GoodIn wsL_law wsL_terms := goodIn_ca (goodIn_ca (goodIn_r _ [191, 93, 94, 192, 193, 194, 2, 195, 99, 100, 101, 102, 24, 110, 111, 112, 196, 23, 197, 198, 52, 53, 54, 562, 563, 564, 565, 566, 614, 615, 616, 617, 618, 619, 620, 621, 622, 623, 624, 625] (by decide +kernel) (by decide +kernel)) (goodIn_sub (fun _ h => List.mem_append_left _ (List.mem_append_left _ (List.mem_append_left _ (List.mem_append_right _ h)))) (by decide +kernel))) (goodIn_sub (fun _ h => List.mem_append_left _ (List.mem_append_left _ (List.mem_append_right _ h))) (by decide +kernel))
set_option maxRecDepth 20000 in
theorem gL_law_L_terms : GoodIn wsL_law (va_wsS RL 100 yL_terms wsL_terms) := goodIn_app (goodIn_of _ (by decide +kernel)) ggL_law_L_terms
set_option maxRecDepth 20000 in
theorem ggL_law_X5_terms : GoodIn wsL_law wsX5_terms := goodIn_r _ [202, 203, 204, 85, 86, 123, 124, 5, 125, 126, 127, 128, 129, 130, 567, 568, 569, 570, 571, 572, 573, 574, 575, 576, 577, 578, 579, 580, 581, 582, 583, 584, 585, 586, 587, 588, 589, 590, 591, 592, 593, 594, 595, 596, 597] (by decide +kernel) (by decide +kernel)
set_option maxRecDepth 20000 in
theorem gL_law_X5_terms : GoodIn wsL_law (wsV RL 103 RX5 yX5_terms wsX5_terms) := goodIn_app (goodIn_of _ (by decide +kernel)) ggL_law_X5_terms
set_option maxRecDepth 20000 in
theorem ggL_law_L_layer : GoodIn wsL_law wsL_layer := goodIn_ca (goodIn_ca (goodIn_r _ [207, 93, 94, 208, 209, 210, 2, 211, 99, 100, 101, 102, 24, 110, 111, 112, 212, 23, 213, 214, 55, 56, 57, 58, 562, 563, 564, 565, 566, 614, 615, 616, 617, 618, 619, 620, 621, 622, 623, 624, 625] (by decide +kernel) (by decide +kernel)) (goodIn_sub (fun _ h => List.mem_append_left _ (List.mem_append_left _ (List.mem_append_left _ (List.mem_append_right _ h)))) (by decide +kernel))) (goodIn_sub (fun _ h => List.mem_append_left _ (List.mem_append_left _ (List.mem_append_right _ h))) (by decide +kernel))
set_option maxRecDepth 20000 in
theorem gL_law_L_layer : GoodIn wsL_law (va_wsS RL 104 yL_layer wsL_layer) := goodIn_app (goodIn_of _ (by decide +kernel)) ggL_law_L_layer
set_option maxRecDepth 20000 in
theorem ggL_law_X5_layer : GoodIn wsL_law wsX5_layer := goodIn_r _ [218, 203, 87, 219, 220, 221, 123, 124, 5, 125, 126, 127, 128, 129, 130, 567, 568, 569, 570, 571, 572, 573, 574, 575, 576, 577, 578, 579, 580, 581, 582, 583, 584, 585, 586, 587, 588, 589, 590, 591, 592, 593, 594, 595, 596, 597] (by decide +kernel) (by decide +kernel)
set_option maxRecDepth 20000 in
theorem gL_law_X5_layer : GoodIn wsL_law (wsV RL 107 RX5 yX5_layer wsX5_layer) := goodIn_app (goodIn_of _ (by decide +kernel)) ggL_law_X5_layer
set_option maxRecDepth 20000 in
theorem ggL_law_L_bind : GoodIn wsL_law wsL_bind := goodIn_ca (goodIn_ca (goodIn_ca (goodIn_r _ [224, 93, 94, 225, 226, 227, 228, 2, 229, 99, 100, 101, 102, 20, 230, 231, 232, 233, 16, 103, 104, 105, 106, 153, 15, 154, 155, 156, 157, 158, 159, 116, 160, 161, 162, 163, 33, 34, 35, 36, 234, 19, 235, 236, 237, 238, 239, 240, 241, 242, 243, 110, 111, 112, 244, 245, 246, 247, 248, 249, 41, 250, 42, 251, 252, 253, 254, 43, 44, 255, 256, 257, 258, 45, 46, 47, 48, 259, 260, 261, 262, 263, 264, 183, 28, 265, 266, 267, 268, 269, 270, 271, 272, 273, 274, 275, 276, 277, 278, 279, 280, 281, 282, 283, 284, 285, 286, 37, 287, 288, 289, 290, 291, 292, 293, 294, 27, 295, 296, 297, 298, 299, 300, 301, 302, 303, 304, 305, 306, 307, 64, 65, 308, 309, 310, 562, 563, 564, 565, 566, 604, 605, 606, 607, 608, 609, 610, 611, 612, 613, 598, 599, 600, 601, 602, 603, 626, 627, 628] (by decide +kernel) (by decide +kernel)) (goodIn_sub (fun _ h => List.mem_append_left _ (List.mem_append_left _ (List.mem_append_left _ (List.mem_append_right _ h)))) (by decide +kernel))) (goodIn_sub (fun _ h => List.mem_append_left _ (List.mem_append_left _ (List.mem_append_right _ h))) (by decide +kernel))) (goodIn_sub (fun _ h => List.mem_append_left _ (List.mem_append_right _ h)) (by decide +kernel))
set_option maxRecDepth 20000 in
theorem gL_law_L_bind : GoodIn wsL_law (va_wsS RL 108 yL_bind wsL_bind) := goodIn_app (goodIn_of _ (by decide +kernel)) ggL_law_L_bind
set_option maxRecDepth 20000 in
theorem ggL_law_X5_bind : GoodIn wsL_law wsX5_bind := goodIn_r _ [314, 121, 315, 71, 72, 316, 130, 123, 124, 5, 125, 317, 318, 319, 168, 169, 170, 171, 122, 172, 173, 174, 175, 70, 126, 127, 128, 129, 320, 321, 322, 323, 324, 325, 326, 73, 74, 75, 76, 77, 327, 328, 329, 330, 331, 188, 332, 333, 334, 335, 336, 337, 338, 339, 340, 341, 342, 343, 78, 344, 345, 346, 347, 348, 349, 350, 351, 352, 353, 354, 355, 356, 357, 358, 359, 82, 83, 84, 360, 361, 362, 363, 364, 365, 366, 367, 79, 80, 81, 567, 568, 569, 570, 571, 572, 573, 574, 575, 576, 577, 578, 579, 580, 581, 582, 583, 584, 585, 586, 587, 588, 589, 590, 591, 592, 593, 594, 595, 596, 597] (by decide +kernel) (by decide +kernel)
set_option maxRecDepth 20000 in
theorem gL_law_X5_bind : GoodIn wsL_law (wsV RL 110 RX5 yX5_bind wsX5_bind) := goodIn_app (goodIn_of _ (by decide +kernel)) ggL_law_X5_bind
set_option maxRecDepth 20000 in
theorem ggL_law_L_change : GoodIn wsL_law wsL_change := goodIn_ca (goodIn_ca (goodIn_ca (goodIn_ca (goodIn_r _ [370, 371, 94, 93, 225, 372, 373, 374, 2, 375, 376, 377, 101, 102, 99, 100, 20, 378, 379, 380, 381, 241, 242, 243, 110, 111, 112, 382, 19, 383, 384, 41, 42, 244, 245, 246, 385, 386, 387, 237, 388, 280, 281, 282, 283, 44, 43, 45, 47, 46, 48, 234, 235, 236, 389, 390, 391, 392, 256, 257, 258, 259, 260, 261, 262, 263, 264, 16, 183, 28, 265, 266, 267, 251, 252, 253, 254, 268, 269, 270, 271, 272, 273, 274, 275, 276, 277, 278, 279, 284, 15, 285, 286, 116, 37, 160, 161, 162, 163, 33, 34, 35, 36, 287, 288, 289, 290, 291, 292, 293, 294, 27, 295, 296, 297, 298, 299, 300, 301, 302, 303, 304, 305, 306, 307, 64, 65, 393, 394, 395, 562, 563, 564, 565, 566, 604, 605, 606, 607, 608, 609, 610, 611, 612, 613, 598, 599, 600, 601, 602, 603, 626, 627, 628] (by decide +kernel) (by decide +kernel)) (goodIn_sub (fun _ h => List.mem_append_right _ h) (by decide +kernel))) (goodIn_sub (fun _ h => List.mem_append_left _ (List.mem_append_left _ (List.mem_append_right _ h))) (by decide +kernel))) (goodIn_sub (fun _ h => List.mem_append_left _ (List.mem_append_left _ (List.mem_append_left _ (List.mem_append_right _ h)))) (by decide +kernel))) (goodIn_sub (fun _ h => List.mem_append_left _ (List.mem_append_right _ h)) (by decide +kernel))
set_option maxRecDepth 20000 in
theorem gL_law_L_change : GoodIn wsL_law (va_wsS RL 111 yL_change wsL_change) := goodIn_app (goodIn_of _ (by decide +kernel)) ggL_law_L_change
set_option maxRecDepth 20000 in
theorem ggL_law_X5_change : GoodIn wsL_law wsX5_change := goodIn_r _ [399, 315, 400, 401, 402, 5, 403, 121, 123, 124, 125, 404, 405, 406, 407, 71, 72, 317, 318, 319, 408, 409, 410, 411, 340, 341, 342, 343, 78, 74, 75, 73, 76, 344, 345, 346, 347, 126, 127, 128, 129, 130, 323, 324, 325, 326, 77, 412, 413, 414, 415, 327, 328, 329, 330, 331, 188, 332, 333, 334, 335, 336, 337, 338, 339, 348, 349, 350, 351, 316, 352, 353, 354, 355, 122, 70, 172, 173, 174, 175, 356, 357, 358, 359, 82, 83, 84, 360, 361, 362, 363, 364, 365, 366, 367, 79, 80, 81, 567, 568, 569, 570, 571, 572, 573, 574, 575, 576, 577, 578, 579, 580, 581, 582, 583, 584, 585, 586, 587, 588, 589, 590, 591, 592, 593, 594, 595, 596, 597] (by decide +kernel) (by decide +kernel)
set_option maxRecDepth 20000 in
theorem gL_law_X5_change : GoodIn wsL_law (wsV RL 114 RX5 yX5_change wsX5_change) := goodIn_app (goodIn_of _ (by decide +kernel)) ggL_law_X5_change
set_option maxRecDepth 20000 in
theorem ggL_law_L_cancel : GoodIn wsL_law wsL_cancel := goodIn_ca (goodIn_ca (goodIn_ca (goodIn_ca (goodIn_r _ [418, 371, 94, 93, 225, 419, 420, 421, 2, 422, 376, 377, 101, 102, 99, 100, 20, 378, 379, 380, 381, 241, 242, 243, 382, 19, 383, 384, 41, 42, 385, 386, 387, 237, 388, 280, 281, 282, 283, 44, 43, 45, 47, 46, 48, 111, 112, 234, 235, 236, 389, 390, 391, 392, 256, 257, 258, 259, 260, 261, 262, 263, 264, 16, 183, 28, 265, 266, 267, 251, 252, 253, 254, 268, 269, 270, 271, 272, 273, 274, 275, 276, 277, 278, 279, 284, 15, 285, 286, 116, 37, 160, 161, 162, 163, 33, 34, 35, 36, 287, 288, 289, 290, 291, 292, 293, 294, 27, 295, 296, 297, 298, 299, 300, 301, 302, 303, 304, 305, 306, 307, 64, 65, 393, 394, 395, 562, 563, 564, 565, 566, 604, 605, 606, 607, 608, 609, 610, 611, 612, 613, 598, 599, 600, 601, 602, 603, 626, 627, 628] (by decide +kernel) (by decide +kernel)) (goodIn_sub (fun _ h => List.mem_append_right _ h) (by decide +kernel))) (goodIn_sub (fun _ h => List.mem_append_left _ (List.mem_append_left _ (List.mem_append_right _ h))) (by decide +kernel))) (goodIn_sub (fun _ h => List.mem_append_left _ (List.mem_append_left _ (List.mem_append_left _ (List.mem_append_right _ h)))) (by decide +kernel))) (goodIn_sub (fun _ h => List.mem_append_left _ (List.mem_append_right _ h)) (by decide +kernel))
set_option maxRecDepth 20000 in
theorem gL_law_L_cancel : GoodIn wsL_law (va_wsS RL 115 yL_cancel wsL_cancel) := goodIn_app (goodIn_of _ (by decide +kernel)) ggL_law_L_cancel
set_option maxRecDepth 20000 in
theorem ggL_law_X5_cancel : GoodIn wsL_law wsX5_cancel := goodIn_r _ [426, 427, 428, 429, 5, 430, 315, 400, 401, 402, 403, 121, 404, 405, 406, 407, 71, 72, 408, 409, 410, 411, 340, 341, 342, 343, 78, 74, 75, 73, 76, 344, 345, 346, 347, 126, 127, 128, 129, 130, 323, 324, 325, 326, 77, 412, 413, 414, 415, 327, 328, 329, 330, 331, 188, 332, 333, 334, 335, 336, 337, 338, 339, 348, 349, 350, 351, 316, 352, 353, 354, 355, 122, 70, 172, 173, 174, 175, 356, 357, 358, 359, 82, 83, 84, 360, 361, 362, 363, 364, 365, 366, 367, 79, 80, 81, 567, 568, 569, 570, 571, 572, 573, 574, 575, 576, 577, 578, 579, 580, 581, 582, 583, 584, 585, 586, 587, 588, 589, 590, 591, 592, 593, 594, 595, 596, 597] (by decide +kernel) (by decide +kernel)
set_option maxRecDepth 20000 in
theorem gL_law_X5_cancel : GoodIn wsL_law (wsV RL 118 RX5 yX5_cancel wsX5_cancel) := goodIn_app (goodIn_of _ (by decide +kernel)) ggL_law_X5_cancel
set_option maxRecDepth 20000 in
theorem ggL_law_L_reinstate : GoodIn wsL_law wsL_reinstate := goodIn_ca (goodIn_ca (goodIn_ca (goodIn_ca (goodIn_r _ [433, 371, 94, 93, 225, 434, 435, 436, 2, 437, 376, 377, 101, 102, 99, 100, 20, 378, 379, 380, 381, 241, 242, 243, 382, 19, 383, 384, 41, 42, 385, 386, 387, 237, 388, 280, 281, 282, 283, 44, 43, 45, 47, 46, 48, 111, 112, 234, 235, 236, 389, 390, 391, 392, 256, 257, 258, 259, 260, 261, 262, 263, 264, 16, 183, 28, 265, 266, 267, 251, 252, 253, 254, 268, 269, 270, 271, 272, 273, 274, 275, 276, 277, 278, 279, 284, 15, 285, 286, 116, 37, 160, 161, 162, 163, 33, 34, 35, 36, 287, 288, 289, 290, 291, 292, 293, 294, 27, 295, 296, 297, 298, 299, 300, 301, 302, 303, 304, 305, 306, 307, 64, 65, 393, 394, 395, 562, 563, 564, 565, 566, 604, 605, 606, 607, 608, 609, 610, 611, 612, 613, 598, 599, 600, 601, 602, 603, 626, 627, 628] (by decide +kernel) (by decide +kernel)) (goodIn_sub (fun _ h => List.mem_append_right _ h) (by decide +kernel))) (goodIn_sub (fun _ h => List.mem_append_left _ (List.mem_append_left _ (List.mem_append_right _ h))) (by decide +kernel))) (goodIn_sub (fun _ h => List.mem_append_left _ (List.mem_append_left _ (List.mem_append_left _ (List.mem_append_right _ h)))) (by decide +kernel))) (goodIn_sub (fun _ h => List.mem_append_left _ (List.mem_append_right _ h)) (by decide +kernel))
set_option maxRecDepth 20000 in
theorem gL_law_L_reinstate : GoodIn wsL_law (va_wsS RL 119 yL_reinstate wsL_reinstate) := goodIn_app (goodIn_of _ (by decide +kernel)) ggL_law_L_reinstate
set_option maxRecDepth 20000 in
theorem ggL_law_X5_reinstate : GoodIn wsL_law wsX5_reinstate := goodIn_r _ [441, 427, 428, 429, 5, 430, 315, 400, 401, 402, 403, 121, 404, 405, 406, 407, 71, 72, 408, 409, 410, 411, 340, 341, 342, 343, 78, 74, 75, 73, 76, 344, 345, 346, 347, 126, 127, 128, 129, 130, 323, 324, 325, 326, 77, 412, 413, 414, 415, 327, 328, 329, 330, 331, 188, 332, 333, 334, 335, 336, 337, 338, 339, 348, 349, 350, 351, 316, 352, 353, 354, 355, 122, 70, 172, 173, 174, 175, 356, 357, 358, 359, 82, 83, 84, 360, 361, 362, 363, 364, 365, 366, 367, 79, 80, 81, 567, 568, 569, 570, 571, 572, 573, 574, 575, 576, 577, 578, 579, 580, 581, 582, 583, 584, 585, 586, 587, 588, 589, 590, 591, 592, 593, 594, 595, 596, 597] (by decide +kernel) (by decide +kernel)
set_option maxRecDepth 20000 in
theorem gL_law_X5_reinstate : GoodIn wsL_law (wsV RL 122 RX5 yX5_reinstate wsX5_reinstate) := goodIn_app (goodIn_of _ (by decide +kernel)) ggL_law_X5_reinstate
set_option maxRecDepth 20000 in
theorem ggL_law_L_claim : GoodIn wsL_law wsL_claim := goodIn_ca (goodIn_ca (goodIn_ca (goodIn_ca (goodIn_r _ [444, 371, 94, 93, 225, 445, 446, 447, 2, 448, 376, 377, 101, 102, 99, 100, 20, 24, 183, 378, 379, 380, 381, 241, 242, 243, 238, 239, 240, 110, 111, 112, 385, 19, 386, 387, 237, 388, 382, 383, 384, 41, 42, 280, 281, 282, 283, 44, 43, 45, 47, 46, 48, 449, 23, 450, 451, 54, 59, 52, 452, 453, 253, 454, 53, 455, 252, 254, 287, 288, 289, 290, 291, 292, 293, 456, 457, 458, 56, 57, 459, 55, 460, 461, 462, 463, 464, 465, 466, 467, 263, 264, 28, 294, 27, 295, 296, 297, 298, 299, 300, 301, 302, 303, 304, 305, 306, 307, 64, 65, 468, 469, 470, 471, 60, 562, 563, 564, 565, 566, 614, 615, 616, 617, 618, 619, 620, 621, 622, 623, 624, 625, 604, 605, 606, 607, 608, 609, 610, 611, 612, 613, 626, 627, 628] (by decide +kernel) (by decide +kernel)) (goodIn_sub (fun _ h => List.mem_append_right _ h) (by decide +kernel))) (goodIn_sub (fun _ h => List.mem_append_left _ (List.mem_append_left _ (List.mem_append_right _ h))) (by decide +kernel))) (goodIn_sub (fun _ h => List.mem_append_left _ (List.mem_append_left _ (List.mem_append_left _ (List.mem_append_right _ h)))) (by decide +kernel))) (goodIn_sub (fun _ h => List.mem_append_left _ (List.mem_append_right _ h)) (by decide +kernel))
set_option maxRecDepth 20000 in
theorem gL_law_L_claim : GoodIn wsL_law (va_wsS RL 123 yL_claim wsL_claim) := goodIn_app (goodIn_of _ (by decide +kernel)) ggL_law_L_claim
set_option maxRecDepth 20000 in
theorem ggL_law_X5_claim : GoodIn wsL_law wsX5_claim := goodIn_r _ [475, 203, 204, 85, 86, 188, 87, 219, 220, 331, 221, 130, 88, 400, 401, 402, 5, 403, 121, 123, 124, 125, 408, 409, 410, 411, 404, 405, 406, 407, 71, 72, 340, 341, 342, 343, 78, 315, 74, 75, 73, 76, 344, 345, 346, 347, 126, 127, 128, 129, 320, 321, 322, 476, 477, 478, 479, 356, 357, 358, 359, 82, 83, 84, 363, 364, 365, 366, 367, 79, 80, 81, 567, 568, 569, 570, 571, 572, 573, 574, 575, 576, 577, 578, 579, 580, 581, 582, 583, 584, 585, 586, 587, 588, 589, 590, 591, 592, 593, 594, 595, 596, 597] (by decide +kernel) (by decide +kernel)
set_option maxRecDepth 20000 in
theorem gL_law_X5_claim : GoodIn wsL_law (wsV RL 126 RX5 yX5_claim wsX5_claim) := goodIn_app (goodIn_of _ (by decide +kernel)) ggL_law_X5_claim
set_option maxRecDepth 20000 in
theorem ggL_law_X4_count : GoodIn wsL_law wsX4_count := goodIn_r _ [483, 20, 24, 28, 16, 562, 563, 564, 565, 566, 604, 605, 606, 607, 608, 609, 610, 611, 612, 613, 614, 615, 616, 617, 618, 619, 620, 621, 622, 623, 624, 625, 626, 627, 628, 598, 599, 600, 601, 602, 603] (by decide +kernel) (by decide +kernel)
set_option maxRecDepth 20000 in
theorem gL_law_X4_count : GoodIn wsL_law (wsV RL 127 RX4 yX4_count wsX4_count) := goodIn_app (goodIn_of _ (by decide +kernel)) ggL_law_X4_count
set_option maxRecDepth 20000 in
theorem ggL_law_X5_count : GoodIn wsL_law wsX5_count := goodIn_r _ [487, 130, 121, 315, 203, 367, 122, 567, 568, 569, 570, 571, 572, 573, 574, 575, 576, 577, 578, 579, 580, 581, 582, 583, 584, 585, 586, 587, 588, 589, 590, 591, 592, 593, 594, 595, 596, 597] (by decide +kernel) (by decide +kernel)
set_option maxRecDepth 20000 in
theorem gL_law_X5_count : GoodIn wsL_law (wsV RL 130 RX5 yX5_count wsX5_count) := goodIn_app (goodIn_of _ (by decide +kernel)) ggL_law_X5_count
set_option maxRecDepth 20000 in
theorem ggL_law_L_fact : GoodIn wsL_law wsL_fact := goodIn_ca (goodIn_r _ [490, 371, 491, 492, 493, 2, 494, 376, 377, 20, 16, 378, 379, 380, 381, 241, 242, 243, 110, 111, 112, 495, 19, 496, 497, 237, 251, 252, 253, 254, 498, 453, 454, 382, 383, 384, 41, 42, 269, 270, 271, 43, 277, 278, 279, 280, 281, 282, 283, 44, 45, 47, 46, 48, 284, 15, 285, 286, 116, 37, 160, 161, 162, 163, 33, 34, 35, 36, 562, 563, 564, 565, 566, 604, 605, 606, 607, 608, 609, 610, 611, 612, 613, 598, 599, 600, 601, 602, 603] (by decide +kernel) (by decide +kernel)) (goodIn_sub (fun _ h => List.mem_append_right _ h) (by decide +kernel))
set_option maxRecDepth 20000 in
theorem gL_law_L_fact : GoodIn wsL_law (va_wsS RL 131 yL_fact wsL_fact) := goodIn_app (goodIn_of _ (by decide +kernel)) ggL_law_L_fact
set_option maxRecDepth 20000 in
theorem ggL_law_X5_fact : GoodIn wsL_law wsX5_fact := goodIn_r _ [502, 400, 401, 402, 5, 403, 121, 123, 124, 125, 126, 127, 128, 129, 130, 404, 405, 406, 407, 71, 72, 503, 504, 505, 506, 78, 340, 341, 342, 343, 315, 74, 75, 73, 76, 336, 337, 338, 339, 344, 345, 346, 347, 348, 349, 350, 351, 77, 316, 352, 353, 354, 355, 122, 70, 172, 173, 174, 175, 567, 568, 569, 570, 571, 572, 573, 574, 575, 576, 577, 578, 579, 580, 581, 582, 583, 584, 585, 586, 587, 588, 589, 590, 591, 592, 593, 594, 595, 596, 597] (by decide +kernel) (by decide +kernel)
set_option maxRecDepth 20000 in
theorem gL_law_X5_fact : GoodIn wsL_law (wsV RL 133 RX5 yX5_fact wsX5_fact) := goodIn_app (goodIn_of _ (by decide +kernel)) ggL_law_X5_fact
set_option maxRecDepth 20000 in
theorem ggL_law_L_written : GoodIn wsL_law wsL_written := goodIn_ca (goodIn_r _ [509, 371, 510, 511, 512, 2, 513, 376, 377, 20, 16, 378, 379, 380, 381, 241, 242, 243, 495, 19, 496, 497, 237, 251, 252, 253, 254, 498, 453, 454, 265, 266, 267, 42, 41, 268, 269, 270, 271, 43, 272, 273, 274, 275, 45, 46, 276, 277, 278, 279, 280, 281, 282, 283, 44, 47, 48, 111, 112, 284, 15, 285, 286, 116, 37, 160, 161, 162, 163, 33, 34, 35, 36, 562, 563, 564, 565, 566, 604, 605, 606, 607, 608, 609, 610, 611, 612, 613, 598, 599, 600, 601, 602, 603] (by decide +kernel) (by decide +kernel)) (goodIn_sub (fun _ h => List.mem_append_right _ h) (by decide +kernel))
set_option maxRecDepth 20000 in
theorem gL_law_L_written : GoodIn wsL_law (va_wsS RL 134 yL_written wsL_written) := goodIn_app (goodIn_of _ (by decide +kernel)) ggL_law_L_written
set_option maxRecDepth 20000 in
theorem ggL_law_X5_written : GoodIn wsL_law wsX5_written := goodIn_r _ [517, 400, 401, 402, 5, 403, 121, 126, 127, 128, 129, 130, 332, 333, 334, 335, 71, 72, 336, 337, 338, 339, 340, 341, 342, 343, 78, 315, 74, 75, 73, 76, 344, 345, 346, 347, 348, 349, 350, 351, 77, 316, 352, 353, 354, 355, 122, 70, 172, 173, 174, 175, 567, 568, 569, 570, 571, 572, 573, 574, 575, 576, 577, 578, 579, 580, 581, 582, 583, 584, 585, 586, 587, 588, 589, 590, 591, 592, 593, 594, 595, 596, 597] (by decide +kernel) (by decide +kernel)
set_option maxRecDepth 20000 in
theorem gL_law_X5_written : GoodIn wsL_law (wsV RL 136 RX5 yX5_written wsX5_written) := goodIn_app (goodIn_of _ (by decide +kernel)) ggL_law_X5_written
set_option maxRecDepth 20000 in
theorem ggL_law_L_earned : GoodIn wsL_law wsL_earned := goodIn_ca (goodIn_r _ [520, 371, 521, 522, 523, 2, 524, 376, 377, 20, 16, 378, 379, 380, 381, 241, 242, 243, 495, 19, 496, 497, 237, 251, 252, 253, 254, 498, 453, 454, 265, 266, 267, 42, 41, 268, 269, 270, 271, 43, 272, 273, 274, 275, 45, 46, 276, 277, 278, 279, 280, 281, 282, 283, 44, 47, 48, 111, 112, 284, 15, 285, 286, 116, 37, 160, 161, 162, 163, 33, 34, 35, 36, 562, 563, 564, 565, 566, 604, 605, 606, 607, 608, 609, 610, 611, 612, 613, 598, 599, 600, 601, 602, 603] (by decide +kernel) (by decide +kernel)) (goodIn_sub (fun _ h => List.mem_append_right _ h) (by decide +kernel))
set_option maxRecDepth 20000 in
theorem gL_law_L_earned : GoodIn wsL_law (va_wsS RL 137 yL_earned wsL_earned) := goodIn_app (goodIn_of _ (by decide +kernel)) ggL_law_L_earned
set_option maxRecDepth 20000 in
theorem ggL_law_X5_earned : GoodIn wsL_law wsX5_earned := goodIn_r _ [528, 400, 401, 402, 5, 403, 121, 126, 127, 128, 129, 130, 332, 333, 334, 335, 71, 72, 336, 337, 338, 339, 340, 341, 342, 343, 78, 315, 74, 75, 73, 76, 344, 345, 346, 347, 348, 349, 350, 351, 77, 316, 352, 353, 354, 355, 122, 70, 172, 173, 174, 175, 567, 568, 569, 570, 571, 572, 573, 574, 575, 576, 577, 578, 579, 580, 581, 582, 583, 584, 585, 586, 587, 588, 589, 590, 591, 592, 593, 594, 595, 596, 597] (by decide +kernel) (by decide +kernel)
set_option maxRecDepth 20000 in
theorem gL_law_X5_earned : GoodIn wsL_law (wsV RL 139 RX5 yX5_earned wsX5_earned) := goodIn_app (goodIn_of _ (by decide +kernel)) ggL_law_X5_earned
set_option maxRecDepth 20000 in
theorem ggL_law_L_settled : GoodIn wsL_law wsL_settled := goodIn_ca (goodIn_r _ [531, 371, 532, 533, 534, 2, 535, 376, 377, 24, 241, 242, 243, 562, 563, 564, 565, 566, 614, 615, 616, 617, 618, 619, 620, 621, 622, 623, 624, 625] (by decide +kernel) (by decide +kernel)) (goodIn_sub (fun _ h => List.mem_append_right _ h) (by decide +kernel))
set_option maxRecDepth 20000 in
theorem gL_law_L_settled : GoodIn wsL_law (va_wsS RL 140 yL_settled wsL_settled) := goodIn_app (goodIn_of _ (by decide +kernel)) ggL_law_L_settled
set_option maxRecDepth 20000 in
theorem ggL_law_X5_settled : GoodIn wsL_law wsX5_settled := goodIn_r _ [539, 203, 88, 123, 124, 5, 125, 126, 127, 128, 129, 130, 567, 568, 569, 570, 571, 572, 573, 574, 575, 576, 577, 578, 579, 580, 581, 582, 583, 584, 585, 586, 587, 588, 589, 590, 591, 592, 593, 594, 595, 596, 597] (by decide +kernel) (by decide +kernel)
set_option maxRecDepth 20000 in
theorem gL_law_X5_settled : GoodIn wsL_law (wsV RL 142 RX5 yX5_settled wsX5_settled) := goodIn_app (goodIn_of _ (by decide +kernel)) ggL_law_X5_settled
set_option maxRecDepth 20000 in
theorem ggL_law_L_posting : GoodIn wsL_law wsL_posting := goodIn_ca (goodIn_r _ [542, 371, 543, 544, 545, 2, 546, 376, 377, 28, 241, 242, 243, 562, 563, 564, 565, 566, 626, 627, 628] (by decide +kernel) (by decide +kernel)) (goodIn_sub (fun _ h => List.mem_append_right _ h) (by decide +kernel))
set_option maxRecDepth 20000 in
theorem gL_law_L_posting : GoodIn wsL_law (va_wsS RL 143 yL_posting wsL_posting) := goodIn_app (goodIn_of _ (by decide +kernel)) ggL_law_L_posting
set_option maxRecDepth 20000 in
theorem ggL_law_X5_posting : GoodIn wsL_law wsX5_posting := goodIn_r _ [550, 367, 79, 80, 81, 123, 124, 5, 125, 126, 127, 128, 129, 130, 567, 568, 569, 570, 571, 572, 573, 574, 575, 576, 577, 578, 579, 580, 581, 582, 583, 584, 585, 586, 587, 588, 589, 590, 591, 592, 593, 594, 595, 596, 597] (by decide +kernel) (by decide +kernel)
set_option maxRecDepth 20000 in
theorem gL_law_X5_posting : GoodIn wsL_law (wsV RL 145 RX5 yX5_posting wsX5_posting) := goodIn_app (goodIn_of _ (by decide +kernel)) ggL_law_X5_posting
set_option maxRecDepth 20000 in
theorem ggL_law_L_balance : GoodIn wsL_law wsL_balance := goodIn_ca (goodIn_r _ [553, 371, 554, 555, 556, 2, 557, 376, 377, 28, 241, 242, 243, 562, 563, 564, 565, 566, 626, 627, 628] (by decide +kernel) (by decide +kernel)) (goodIn_sub (fun _ h => List.mem_append_right _ h) (by decide +kernel))
set_option maxRecDepth 20000 in
theorem gL_law_L_balance : GoodIn wsL_law (va_wsS RL 146 yL_balance wsL_balance) := goodIn_app (goodIn_of _ (by decide +kernel)) ggL_law_L_balance
set_option maxRecDepth 20000 in
theorem ggL_law_X5_balance : GoodIn wsL_law wsX5_balance := goodIn_r _ [561, 367, 80, 81, 79, 123, 124, 5, 125, 126, 127, 128, 129, 130, 567, 568, 569, 570, 571, 572, 573, 574, 575, 576, 577, 578, 579, 580, 581, 582, 583, 584, 585, 586, 587, 588, 589, 590, 591, 592, 593, 594, 595, 596, 597] (by decide +kernel) (by decide +kernel)
set_option maxRecDepth 20000 in
theorem gL_law_X5_balance : GoodIn wsL_law (wsV RL 149 RX5 yX5_balance wsX5_balance) := goodIn_app (goodIn_of _ (by decide +kernel)) ggL_law_X5_balance
