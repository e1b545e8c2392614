set_option maxRecDepth 20000 in
theorem ggL_law_X4_init : GoodIn wsL_law wsX4_init := goodIn_r _ [10, 11, 12, 13, 14, 15, 16, 17, 18, 19, 20, 21, 22, 23, 24, 25, 26, 27, 28, 29, 30, 31, 32, 33, 34, 35, 36, 37, 38, 39, 40, 41, 42, 43, 44, 45, 46, 47, 48, 49, 50, 51, 52, 562, 563, 564, 565, 542, 543, 544, 545, 546, 566, 567, 568, 569, 570, 571, 572, 573, 574, 575, 576, 577] (by decide +kernel) (by decide +kernel)
set_option maxRecDepth 20000 in
theorem gL_law_X4_init : GoodIn wsL_law (wsX4_init) := ggL_law_X4_init
set_option maxRecDepth 20000 in
theorem ggL_law_X5_init : GoodIn wsL_law wsX5_init := goodIn_r _ [55, 56, 12, 13, 30, 57, 46, 58, 59, 60, 61, 62, 63, 64, 65, 66, 67, 68, 547, 548, 549, 550, 551, 552, 553, 554, 555, 556, 557, 558, 559, 560, 561] (by decide +kernel) (by decide +kernel)
set_option maxRecDepth 20000 in
theorem gL_law_X5_init : GoodIn wsL_law (wsX5_init) := ggL_law_X5_init
set_option maxRecDepth 20000 in
theorem ggL_law_L_login : GoodIn wsL_law wsL_login := goodIn_ca (goodIn_r _ [72, 73, 74, 75, 76, 2, 77, 17, 21, 27, 25, 78, 79, 80, 81, 82, 83, 16, 84, 85, 36, 86, 87, 88, 89, 90, 91, 24, 92, 93, 47, 94, 20, 95, 96, 97, 98, 99, 100, 42, 101, 102, 103, 104, 105, 106, 107, 108, 109, 110, 111, 112, 113, 542, 543, 544, 545, 546, 566, 567, 568, 569, 571, 572, 573, 574, 575, 576, 577, 562, 563, 564, 565, 570] (by decide +kernel) (by decide +kernel)) (goodIn_sub (fun _ h => List.mem_append_left _ (List.mem_append_right _ h)) (by decide +kernel))
set_option maxRecDepth 20000 in
theorem gL_law_L_login : GoodIn wsL_law (va_wsS RL 85 yL_login wsL_login) := goodIn_app (goodIn_of _ (by decide +kernel)) ggL_law_L_login
set_option maxRecDepth 20000 in
theorem ggL_law_X5_login : GoodIn wsL_law wsX5_login := goodIn_r _ [117, 118, 59, 119, 120, 58, 57, 61, 121, 122, 123, 5, 124, 125, 126, 127, 128, 547, 548, 549, 550, 551, 552, 553, 554, 555, 556, 557, 558, 559, 560, 561] (by decide +kernel) (by decide +kernel)
set_option maxRecDepth 20000 in
theorem gL_law_X5_login : GoodIn wsL_law (wsV RL 90 RX5 yX5_login wsX5_login) := goodIn_app (goodIn_of _ (by decide +kernel)) ggL_law_X5_login
set_option maxRecDepth 20000 in
theorem ggL_law_X5_thrown : GoodIn wsL_law wsX5_thrown := goodIn_r _ [132, 118, 547, 548, 549, 550, 551, 552, 553, 554, 555, 556, 557, 558, 559, 560, 561] (by decide +kernel) (by decide +kernel)
set_option maxRecDepth 20000 in
theorem gL_law_X5_thrown : GoodIn wsL_law (wsV RL 91 RX5 yX5_thrown wsX5_thrown) := goodIn_app (goodIn_of _ (by decide +kernel)) ggL_law_X5_thrown
set_option maxRecDepth 20000 in
theorem ggL_law_L_power : GoodIn wsL_law wsL_power := goodIn_ca (goodIn_r _ [135, 73, 136, 137, 138, 2, 139, 17, 78, 79, 80, 81, 82, 140, 16, 141, 142, 36, 143, 86, 542, 543, 544, 545, 546, 562, 563, 564, 565] (by decide +kernel) (by decide +kernel)) (goodIn_sub (fun _ h => List.mem_append_left _ (List.mem_append_right _ h)) (by decide +kernel))
set_option maxRecDepth 20000 in
theorem gL_law_L_power : GoodIn wsL_law (va_wsS RL 95 yL_power wsL_power) := goodIn_app (goodIn_of _ (by decide +kernel)) ggL_law_L_power
set_option maxRecDepth 20000 in
theorem ggL_law_X5_power : GoodIn wsL_law wsX5_power := goodIn_r _ [147, 118, 59, 119, 547, 548, 549, 550, 551, 552, 553, 554, 555, 556, 557, 558, 559, 560, 561] (by decide +kernel) (by decide +kernel)
set_option maxRecDepth 20000 in
theorem gL_law_X5_power : GoodIn wsL_law (wsV RL 98 RX5 yX5_power wsX5_power) := goodIn_app (goodIn_of _ (by decide +kernel)) ggL_law_X5_power
set_option maxRecDepth 20000 in
theorem ggL_law_L_name : GoodIn wsL_law wsL_name := goodIn_ca (goodIn_r _ [150, 151, 152, 153, 154, 2, 155, 156, 157, 158, 159, 27, 160, 161, 162, 163, 164, 571, 572, 573, 574, 575, 576, 577, 542, 543, 544, 545, 546] (by decide +kernel) (by decide +kernel)) (goodIn_sub (fun _ h => List.mem_append_right _ h) (by decide +kernel))
set_option maxRecDepth 20000 in
theorem gL_law_L_name : GoodIn wsL_law (va_wsS RL 101 yL_name wsL_name) := goodIn_app (goodIn_of _ (by decide +kernel)) ggL_law_L_name
set_option maxRecDepth 20000 in
theorem ggL_law_X5_name : GoodIn wsL_law wsX5_name := goodIn_r _ [168, 60, 169, 61, 170, 171, 172, 5, 173, 118, 547, 548, 549, 550, 551, 552, 553, 554, 555, 556, 557, 558, 559, 560, 561] (by decide +kernel) (by decide +kernel)
set_option maxRecDepth 20000 in
theorem gL_law_X5_name : GoodIn wsL_law (wsV RL 104 RX5 yX5_name wsX5_name) := goodIn_app (goodIn_of _ (by decide +kernel)) ggL_law_X5_name
set_option maxRecDepth 20000 in
theorem ggL_law_L_open : GoodIn wsL_law wsL_open := goodIn_ca (goodIn_r _ [176, 151, 177, 178, 179, 2, 180, 21, 156, 157, 158, 159, 27, 160, 161, 162, 163, 164, 181, 20, 182, 183, 97, 98, 99, 100, 42, 184, 185, 186, 187, 188, 189, 190, 191, 192, 105, 106, 107, 193, 194, 195, 542, 543, 544, 545, 546, 571, 572, 573, 574, 575, 576, 577, 566, 567, 568, 569, 562, 563, 564, 565] (by decide +kernel) (by decide +kernel)) (goodIn_sub (fun _ h => List.mem_append_right _ h) (by decide +kernel))
set_option maxRecDepth 20000 in
theorem gL_law_L_open : GoodIn wsL_law (va_wsS RL 105 yL_open wsL_open) := goodIn_app (goodIn_of _ (by decide +kernel)) ggL_law_L_open
set_option maxRecDepth 20000 in
theorem ggL_law_X5_open : GoodIn wsL_law wsX5_open := goodIn_r _ [199, 61, 64, 65, 57, 170, 171, 172, 5, 173, 118, 200, 201, 202, 203, 204, 205, 206, 207, 120, 60, 208, 209, 210, 211, 62, 63, 66, 547, 548, 549, 550, 551, 552, 553, 554, 555, 556, 557, 558, 559, 560, 561] (by decide +kernel) (by decide +kernel)
set_option maxRecDepth 20000 in
theorem gL_law_X5_open : GoodIn wsL_law (wsV RL 107 RX5 yX5_open wsX5_open) := goodIn_app (goodIn_of _ (by decide +kernel)) ggL_law_X5_open
set_option maxRecDepth 20000 in
theorem ggL_law_L_make : GoodIn wsL_law wsL_make := goodIn_ca (goodIn_r _ [214, 151, 215, 216, 217, 2, 218, 21, 156, 157, 158, 159, 27, 160, 161, 162, 163, 164, 219, 20, 220, 221, 222, 94, 95, 96, 97, 98, 99, 100, 42, 223, 224, 225, 226, 227, 29, 228, 229, 230, 231, 232, 52, 233, 234, 235, 40, 188, 236, 237, 238, 239, 240, 16, 241, 242, 36, 143, 35, 86, 542, 543, 544, 545, 546, 571, 572, 573, 574, 575, 576, 577, 566, 567, 568, 569, 562, 563, 564, 565] (by decide +kernel) (by decide +kernel)) (goodIn_sub (fun _ h => List.mem_append_right _ h) (by decide +kernel))
set_option maxRecDepth 20000 in
theorem gL_law_L_make : GoodIn wsL_law (va_wsS RL 108 yL_make wsL_make) := goodIn_app (goodIn_of _ (by decide +kernel)) ggL_law_L_make
set_option maxRecDepth 20000 in
theorem ggL_law_X5_make : GoodIn wsL_law wsX5_make := goodIn_r _ [246, 64, 65, 170, 171, 172, 5, 173, 118, 247, 248, 249, 250, 62, 63, 66, 61, 57, 120, 60, 251, 252, 253, 254, 121, 122, 123, 124, 255, 256, 257, 258, 59, 119, 547, 548, 549, 550, 551, 552, 553, 554, 555, 556, 557, 558, 559, 560, 561] (by decide +kernel) (by decide +kernel)
set_option maxRecDepth 20000 in
theorem gL_law_X5_make : GoodIn wsL_law (wsV RL 110 RX5 yX5_make wsX5_make) := goodIn_app (goodIn_of _ (by decide +kernel)) ggL_law_X5_make
set_option maxRecDepth 20000 in
theorem ggL_law_L_close : GoodIn wsL_law wsL_close := goodIn_ca (goodIn_r _ [261, 151, 262, 263, 264, 2, 265, 156, 157, 158, 159, 27, 160, 161, 162, 163, 164, 266, 267, 268, 269, 21, 181, 20, 182, 183, 97, 98, 99, 100, 42, 184, 185, 186, 187, 188, 270, 271, 272, 40, 273, 16, 274, 275, 35, 236, 237, 238, 239, 240, 241, 242, 36, 143, 86, 571, 572, 573, 574, 575, 576, 577, 542, 543, 544, 545, 546, 566, 567, 568, 569, 562, 563, 564, 565] (by decide +kernel) (by decide +kernel)) (goodIn_sub (fun _ h => List.mem_append_right _ h) (by decide +kernel))
set_option maxRecDepth 20000 in
theorem gL_law_L_close : GoodIn wsL_law (va_wsS RL 111 yL_close wsL_close) := goodIn_app (goodIn_of _ (by decide +kernel)) ggL_law_L_close
set_option maxRecDepth 20000 in
theorem ggL_law_X5_close : GoodIn wsL_law wsX5_close := goodIn_r _ [279, 61, 170, 171, 172, 5, 173, 118, 280, 281, 282, 283, 62, 57, 63, 66, 200, 201, 202, 203, 204, 205, 206, 207, 120, 60, 255, 256, 257, 258, 59, 119, 547, 548, 549, 550, 551, 552, 553, 554, 555, 556, 557, 558, 559, 560, 561] (by decide +kernel) (by decide +kernel)
set_option maxRecDepth 20000 in
theorem gL_law_X5_close : GoodIn wsL_law (wsV RL 113 RX5 yX5_close wsX5_close) := goodIn_app (goodIn_of _ (by decide +kernel)) ggL_law_X5_close
set_option maxRecDepth 20000 in
theorem ggL_law_L_erase : GoodIn wsL_law wsL_erase := goodIn_ca (goodIn_r _ [286, 151, 287, 288, 289, 2, 290, 21, 156, 157, 158, 159, 27, 160, 161, 162, 163, 164, 291, 20, 292, 293, 294, 193, 194, 195, 97, 98, 99, 100, 42, 184, 185, 186, 187, 188, 295, 296, 297, 298, 25, 105, 106, 107, 299, 24, 300, 301, 47, 302, 303, 304, 40, 273, 16, 274, 275, 35, 240, 241, 242, 36, 143, 86, 305, 306, 307, 542, 543, 544, 545, 546, 566, 567, 568, 569, 562, 563, 564, 565, 571, 572, 573, 574, 575, 576, 577, 570] (by decide +kernel) (by decide +kernel)) (goodIn_sub (fun _ h => List.mem_append_right _ h) (by decide +kernel))
set_option maxRecDepth 20000 in
theorem gL_law_L_erase : GoodIn wsL_law (va_wsS RL 114 yL_erase wsL_erase) := goodIn_app (goodIn_of _ (by decide +kernel)) ggL_law_L_erase
set_option maxRecDepth 20000 in
theorem ggL_law_X5_erase : GoodIn wsL_law wsX5_erase := goodIn_r _ [311, 57, 58, 170, 171, 172, 5, 173, 118, 312, 313, 314, 315, 204, 205, 206, 207, 120, 60, 255, 256, 257, 258, 59, 119, 547, 548, 549, 550, 551, 552, 553, 554, 555, 556, 557, 558, 559, 560, 561] (by decide +kernel) (by decide +kernel)
set_option maxRecDepth 20000 in
theorem gL_law_X5_erase : GoodIn wsL_law (wsV RL 116 RX5 yX5_erase wsX5_erase) := goodIn_app (goodIn_of _ (by decide +kernel)) ggL_law_X5_erase
set_option maxRecDepth 20000 in
theorem ggL_law_L_rename : GoodIn wsL_law wsL_rename := goodIn_ca (goodIn_r _ [318, 151, 319, 320, 321, 2, 322, 21, 156, 157, 158, 159, 27, 160, 161, 162, 163, 164, 291, 20, 292, 293, 294, 193, 194, 195, 97, 98, 99, 100, 42, 184, 185, 186, 187, 188, 323, 324, 325, 40, 273, 16, 274, 275, 35, 240, 241, 242, 36, 143, 86, 305, 306, 307, 542, 543, 544, 545, 546, 566, 567, 568, 569, 562, 563, 564, 565, 571, 572, 573, 574, 575, 576, 577] (by decide +kernel) (by decide +kernel)) (goodIn_sub (fun _ h => List.mem_append_right _ h) (by decide +kernel))
set_option maxRecDepth 20000 in
theorem gL_law_L_rename : GoodIn wsL_law (va_wsS RL 117 yL_rename wsL_rename) := goodIn_app (goodIn_of _ (by decide +kernel)) ggL_law_L_rename
set_option maxRecDepth 20000 in
theorem ggL_law_X5_rename : GoodIn wsL_law wsX5_rename := goodIn_r _ [329, 118, 68, 57, 60, 312, 313, 314, 5, 315, 204, 205, 206, 207, 120, 255, 256, 257, 258, 59, 119, 547, 548, 549, 550, 551, 552, 553, 554, 555, 556, 557, 558, 559, 560, 561] (by decide +kernel) (by decide +kernel)
set_option maxRecDepth 20000 in
theorem gL_law_X5_rename : GoodIn wsL_law (wsV RL 120 RX5 yX5_rename wsX5_rename) := goodIn_app (goodIn_of _ (by decide +kernel)) ggL_law_X5_rename
set_option maxRecDepth 20000 in
theorem ggL_law_L_guard : GoodIn wsL_law wsL_guard := goodIn_ca (goodIn_r _ [332, 151, 333, 334, 335, 2, 336, 21, 156, 157, 158, 159, 27, 160, 161, 162, 163, 164, 185, 20, 186, 187, 188, 97, 98, 99, 100, 42, 337, 338, 339, 40, 273, 16, 274, 275, 35, 240, 241, 242, 36, 143, 86, 305, 306, 307, 542, 543, 544, 545, 546, 566, 567, 568, 569, 571, 572, 573, 574, 575, 576, 577, 562, 563, 564, 565] (by decide +kernel) (by decide +kernel)) (goodIn_sub (fun _ h => List.mem_append_right _ h) (by decide +kernel))
set_option maxRecDepth 20000 in
theorem gL_law_L_guard : GoodIn wsL_law (va_wsS RL 121 yL_guard wsL_guard) := goodIn_app (goodIn_of _ (by decide +kernel)) ggL_law_L_guard
set_option maxRecDepth 20000 in
theorem ggL_law_X5_guard : GoodIn wsL_law wsX5_guard := goodIn_r _ [343, 57, 170, 171, 172, 5, 173, 118, 312, 313, 314, 315, 204, 205, 206, 207, 120, 60, 255, 256, 257, 258, 59, 119, 547, 548, 549, 550, 551, 552, 553, 554, 555, 556, 557, 558, 559, 560, 561] (by decide +kernel) (by decide +kernel)
set_option maxRecDepth 20000 in
theorem gL_law_X5_guard : GoodIn wsL_law (wsV RL 124 RX5 yX5_guard wsX5_guard) := goodIn_app (goodIn_of _ (by decide +kernel)) ggL_law_X5_guard
set_option maxRecDepth 20000 in
theorem ggL_law_L_search : GoodIn wsL_law wsL_search := goodIn_ca (goodIn_ca (goodIn_r _ [346, 151, 73, 347, 348, 349, 2, 350, 21, 156, 157, 158, 159, 27, 160, 161, 162, 163, 164, 78, 79, 80, 81, 82, 351, 20, 352, 353, 184, 185, 186, 187, 188, 97, 98, 99, 100, 42, 542, 543, 544, 545, 546, 566, 567, 568, 569, 571, 572, 573, 574, 575, 576, 577, 562, 563, 564, 565] (by decide +kernel) (by decide +kernel)) (goodIn_sub (fun _ h => List.mem_append_right _ h) (by decide +kernel))) (goodIn_sub (fun _ h => List.mem_append_left _ (List.mem_append_right _ h)) (by decide +kernel))
set_option maxRecDepth 20000 in
theorem gL_law_L_search : GoodIn wsL_law (va_wsS RL 125 yL_search wsL_search) := goodIn_app (goodIn_of _ (by decide +kernel)) ggL_law_L_search
set_option maxRecDepth 20000 in
theorem ggL_law_X5_search : GoodIn wsL_law wsX5_search := goodIn_r _ [357, 118, 200, 201, 202, 5, 203, 57, 204, 205, 206, 207, 120, 60, 547, 548, 549, 550, 551, 552, 553, 554, 555, 556, 557, 558, 559, 560, 561] (by decide +kernel) (by decide +kernel)
set_option maxRecDepth 20000 in
theorem gL_law_X5_search : GoodIn wsL_law (wsV RL 127 RX5 yX5_search wsX5_search) := goodIn_app (goodIn_of _ (by decide +kernel)) ggL_law_X5_search
set_option maxRecDepth 20000 in
theorem ggL_law_L_read : GoodIn wsL_law wsL_read := goodIn_ca (goodIn_r _ [360, 151, 361, 362, 363, 2, 364, 156, 157, 158, 159, 27, 160, 161, 162, 163, 164, 365, 366, 367, 368, 369, 370, 371, 372, 21, 266, 267, 268, 269, 181, 20, 182, 183, 97, 98, 99, 100, 42, 184, 185, 186, 187, 188, 270, 271, 272, 40, 273, 16, 274, 275, 35, 236, 237, 238, 239, 240, 241, 242, 36, 143, 86, 189, 190, 191, 192, 105, 106, 107, 373, 374, 375, 376, 219, 220, 221, 222, 94, 95, 96, 223, 224, 225, 226, 227, 29, 228, 229, 230, 231, 232, 52, 233, 234, 235, 377, 378, 379, 380, 381, 382, 383, 384, 25, 17, 31, 385, 386, 387, 388, 389, 24, 390, 391, 47, 392, 393, 394, 395, 396, 397, 398, 542, 543, 544, 545, 546, 571, 572, 573, 574, 575, 576, 577, 566, 567, 568, 569, 562, 563, 564, 565, 570] (by decide +kernel) (by decide +kernel)) (goodIn_sub (fun _ h => List.mem_append_right _ h) (by decide +kernel))
set_option maxRecDepth 20000 in
theorem gL_law_L_read : GoodIn wsL_law (va_wsS RL 128 yL_read wsL_read) := goodIn_app (goodIn_of _ (by decide +kernel)) ggL_law_L_read
set_option maxRecDepth 20000 in
theorem ggL_law_X5_read : GoodIn wsL_law wsX5_read := goodIn_r _ [402, 403, 404, 405, 5, 406, 61, 64, 62, 170, 171, 172, 173, 118, 407, 408, 409, 410, 280, 281, 282, 283, 57, 63, 66, 200, 201, 202, 203, 204, 205, 206, 207, 120, 60, 255, 256, 257, 258, 59, 119, 208, 209, 210, 211, 247, 248, 249, 250, 251, 252, 253, 254, 121, 122, 123, 124, 411, 412, 413, 414, 65, 58, 67, 415, 416, 417, 418, 547, 548, 549, 550, 551, 552, 553, 554, 555, 556, 557, 558, 559, 560, 561] (by decide +kernel) (by decide +kernel)
set_option maxRecDepth 20000 in
theorem gL_law_X5_read : GoodIn wsL_law (wsV RL 130 RX5 yX5_read wsX5_read) := goodIn_app (goodIn_of _ (by decide +kernel)) ggL_law_X5_read
set_option maxRecDepth 20000 in
theorem ggL_law_L_write : GoodIn wsL_law wsL_write := goodIn_ca (goodIn_r _ [421, 151, 422, 423, 424, 2, 425, 156, 157, 158, 159, 27, 160, 161, 162, 163, 164, 365, 366, 367, 368, 369, 370, 371, 372, 21, 266, 267, 268, 269, 181, 20, 182, 183, 97, 98, 99, 100, 42, 184, 185, 186, 187, 188, 270, 271, 272, 40, 273, 16, 274, 275, 35, 236, 237, 238, 239, 240, 241, 242, 36, 143, 86, 189, 190, 191, 192, 105, 106, 107, 373, 374, 375, 376, 219, 220, 221, 222, 94, 95, 96, 223, 224, 225, 226, 227, 29, 228, 229, 230, 231, 232, 52, 233, 234, 235, 377, 378, 379, 380, 381, 382, 383, 384, 25, 17, 31, 385, 386, 387, 388, 389, 24, 390, 391, 47, 392, 393, 394, 395, 396, 397, 398, 542, 543, 544, 545, 546, 571, 572, 573, 574, 575, 576, 577, 566, 567, 568, 569, 562, 563, 564, 565, 570] (by decide +kernel) (by decide +kernel)) (goodIn_sub (fun _ h => List.mem_append_right _ h) (by decide +kernel))
set_option maxRecDepth 20000 in
theorem gL_law_L_write : GoodIn wsL_law (va_wsS RL 131 yL_write wsL_write) := goodIn_app (goodIn_of _ (by decide +kernel)) ggL_law_L_write
set_option maxRecDepth 20000 in
theorem ggL_law_X5_write : GoodIn wsL_law wsX5_write := goodIn_r _ [429, 403, 404, 405, 5, 406, 61, 64, 62, 170, 171, 172, 173, 118, 407, 408, 409, 410, 280, 281, 282, 283, 57, 63, 66, 200, 201, 202, 203, 204, 205, 206, 207, 120, 60, 255, 256, 257, 258, 59, 119, 208, 209, 210, 211, 247, 248, 249, 250, 251, 252, 253, 254, 121, 122, 123, 124, 411, 412, 413, 414, 65, 58, 67, 415, 416, 417, 418, 547, 548, 549, 550, 551, 552, 553, 554, 555, 556, 557, 558, 559, 560, 561] (by decide +kernel) (by decide +kernel)
set_option maxRecDepth 20000 in
theorem gL_law_X5_write : GoodIn wsL_law (wsV RL 133 RX5 yX5_write wsX5_write) := goodIn_app (goodIn_of _ (by decide +kernel)) ggL_law_X5_write
set_option maxRecDepth 20000 in
theorem ggL_law_L_at : GoodIn wsL_law wsL_at := goodIn_ca (goodIn_ca (goodIn_r _ [432, 151, 73, 433, 434, 435, 2, 436, 437, 156, 157, 158, 159, 27, 160, 161, 162, 163, 164, 78, 79, 80, 81, 82, 369, 370, 371, 372, 21, 266, 267, 268, 269, 181, 20, 182, 183, 97, 98, 99, 100, 42, 184, 185, 186, 187, 188, 270, 271, 272, 40, 273, 16, 274, 275, 35, 236, 237, 238, 239, 240, 241, 242, 36, 143, 86, 189, 190, 191, 192, 105, 106, 107, 373, 374, 375, 376, 219, 220, 221, 222, 94, 95, 96, 223, 224, 225, 226, 227, 29, 228, 229, 230, 231, 232, 52, 233, 234, 235, 377, 378, 379, 380, 381, 382, 383, 384, 25, 17, 31, 385, 386, 387, 388, 389, 24, 390, 391, 47, 392, 393, 394, 395, 396, 397, 398, 571, 572, 573, 574, 575, 576, 577, 542, 543, 544, 545, 546, 566, 567, 568, 569, 562, 563, 564, 565, 570] (by decide +kernel) (by decide +kernel)) (goodIn_sub (fun _ h => List.mem_append_right _ h) (by decide +kernel))) (goodIn_sub (fun _ h => List.mem_append_left _ (List.mem_append_right _ h)) (by decide +kernel))
set_option maxRecDepth 20000 in
theorem gL_law_L_at : GoodIn wsL_law (va_wsS RL 134 yL_at wsL_at) := goodIn_app (goodIn_of _ (by decide +kernel)) ggL_law_L_at
set_option maxRecDepth 20000 in
theorem ggL_law_X5_at : GoodIn wsL_law wsX5_at := goodIn_r _ [441, 442, 118, 61, 64, 407, 408, 409, 5, 410, 62, 280, 281, 282, 283, 57, 63, 66, 200, 201, 202, 203, 204, 205, 206, 207, 120, 60, 255, 256, 257, 258, 59, 119, 208, 209, 210, 211, 247, 248, 249, 250, 251, 252, 253, 254, 121, 122, 123, 124, 411, 412, 413, 414, 65, 58, 67, 415, 416, 417, 418, 547, 548, 549, 550, 551, 552, 553, 554, 555, 556, 557, 558, 559, 560, 561] (by decide +kernel) (by decide +kernel)
set_option maxRecDepth 20000 in
theorem gL_law_X5_at : GoodIn wsL_law (wsV RL 137 RX5 yX5_at wsX5_at) := goodIn_app (goodIn_of _ (by decide +kernel)) ggL_law_X5_at
set_option maxRecDepth 20000 in
theorem ggL_law_L_size : GoodIn wsL_law wsL_size := goodIn_ca (goodIn_r _ [445, 151, 446, 447, 448, 2, 449, 21, 156, 157, 158, 159, 27, 160, 161, 162, 163, 164, 450, 20, 451, 452, 453, 386, 387, 388, 184, 185, 186, 187, 188, 97, 98, 99, 100, 42, 542, 543, 544, 545, 546, 566, 567, 568, 569, 571, 572, 573, 574, 575, 576, 577, 562, 563, 564, 565] (by decide +kernel) (by decide +kernel)) (goodIn_sub (fun _ h => List.mem_append_right _ h) (by decide +kernel))
set_option maxRecDepth 20000 in
theorem gL_law_L_size : GoodIn wsL_law (va_wsS RL 138 yL_size wsL_size) := goodIn_app (goodIn_of _ (by decide +kernel)) ggL_law_L_size
set_option maxRecDepth 20000 in
theorem ggL_law_X5_size : GoodIn wsL_law wsX5_size := goodIn_r _ [457, 57, 170, 171, 172, 5, 173, 118, 204, 205, 206, 207, 120, 60, 547, 548, 549, 550, 551, 552, 553, 554, 555, 556, 557, 558, 559, 560, 561] (by decide +kernel) (by decide +kernel)
set_option maxRecDepth 20000 in
theorem gL_law_X5_size : GoodIn wsL_law (wsV RL 140 RX5 yX5_size wsX5_size) := goodIn_app (goodIn_of _ (by decide +kernel)) ggL_law_X5_size
set_option maxRecDepth 20000 in
theorem ggL_law_L_has : GoodIn wsL_law wsL_has := goodIn_ca (goodIn_ca (goodIn_r _ [460, 151, 73, 461, 462, 463, 2, 464, 156, 157, 158, 159, 27, 160, 161, 162, 163, 164, 78, 79, 80, 81, 82, 571, 572, 573, 574, 575, 576, 577, 542, 543, 544, 545, 546] (by decide +kernel) (by decide +kernel)) (goodIn_sub (fun _ h => List.mem_append_right _ h) (by decide +kernel))) (goodIn_sub (fun _ h => List.mem_append_left _ (List.mem_append_right _ h)) (by decide +kernel))
set_option maxRecDepth 20000 in
theorem gL_law_L_has : GoodIn wsL_law (va_wsS RL 141 yL_has wsL_has) := goodIn_app (goodIn_of _ (by decide +kernel)) ggL_law_L_has
set_option maxRecDepth 20000 in
theorem ggL_law_X5_has : GoodIn wsL_law wsX5_has := goodIn_r _ [468, 118, 61, 62, 63, 64, 66, 547, 548, 549, 550, 551, 552, 553, 554, 555, 556, 557, 558, 559, 560, 561] (by decide +kernel) (by decide +kernel)
set_option maxRecDepth 20000 in
theorem gL_law_X5_has : GoodIn wsL_law (wsV RL 143 RX5 yX5_has wsX5_has) := goodIn_app (goodIn_of _ (by decide +kernel)) ggL_law_X5_has
set_option maxRecDepth 20000 in
theorem ggL_law_L_set : GoodIn wsL_law wsL_set := goodIn_ca (goodIn_ca (goodIn_r _ [471, 151, 73, 472, 473, 474, 2, 475, 31, 160, 161, 162, 163, 164, 78, 79, 80, 81, 82, 542, 543, 544, 545, 546] (by decide +kernel) (by decide +kernel)) (goodIn_sub (fun _ h => List.mem_append_right _ h) (by decide +kernel))) (goodIn_sub (fun _ h => List.mem_append_left _ (List.mem_append_right _ h)) (by decide +kernel))
set_option maxRecDepth 20000 in
theorem gL_law_L_set : GoodIn wsL_law (va_wsS RL 144 yL_set wsL_set) := goodIn_app (goodIn_of _ (by decide +kernel)) ggL_law_L_set
set_option maxRecDepth 20000 in
theorem ggL_law_X5_set : GoodIn wsL_law wsX5_set := goodIn_r _ [479, 118, 67, 547, 548, 549, 550, 551, 552, 553, 554, 555, 556, 557, 558, 559, 560, 561] (by decide +kernel) (by decide +kernel)
set_option maxRecDepth 20000 in
theorem gL_law_X5_set : GoodIn wsL_law (wsV RL 146 RX5 yX5_set wsX5_set) := goodIn_app (goodIn_of _ (by decide +kernel)) ggL_law_X5_set
set_option maxRecDepth 20000 in
theorem ggL_law_L_buffer : GoodIn wsL_law wsL_buffer := goodIn_ca (goodIn_r _ [482, 151, 483, 484, 485, 2, 486, 31, 160, 161, 162, 163, 164, 542, 543, 544, 545, 546] (by decide +kernel) (by decide +kernel)) (goodIn_sub (fun _ h => List.mem_append_right _ h) (by decide +kernel))
set_option maxRecDepth 20000 in
theorem gL_law_L_buffer : GoodIn wsL_law (va_wsS RL 147 yL_buffer wsL_buffer) := goodIn_app (goodIn_of _ (by decide +kernel)) ggL_law_L_buffer
set_option maxRecDepth 20000 in
theorem ggL_law_X5_buffer : GoodIn wsL_law wsX5_buffer := goodIn_r _ [490, 118, 67, 547, 548, 549, 550, 551, 552, 553, 554, 555, 556, 557, 558, 559, 560, 561] (by decide +kernel) (by decide +kernel)
set_option maxRecDepth 20000 in
theorem gL_law_X5_buffer : GoodIn wsL_law (wsV RL 149 RX5 yX5_buffer wsX5_buffer) := goodIn_app (goodIn_of _ (by decide +kernel)) ggL_law_X5_buffer
set_option maxRecDepth 20000 in
theorem ggL_law_L_disk : GoodIn wsL_law wsL_disk := goodIn_ca (goodIn_r _ [493, 151, 494, 495, 496, 2, 497, 17, 160, 161, 162, 163, 164, 542, 543, 544, 545, 546, 562, 563, 564, 565] (by decide +kernel) (by decide +kernel)) (goodIn_sub (fun _ h => List.mem_append_right _ h) (by decide +kernel))
set_option maxRecDepth 20000 in
theorem gL_law_L_disk : GoodIn wsL_law (va_wsS RL 150 yL_disk wsL_disk) := goodIn_app (goodIn_of _ (by decide +kernel)) ggL_law_L_disk
set_option maxRecDepth 20000 in
theorem ggL_law_X5_disk : GoodIn wsL_law wsX5_disk := goodIn_r _ [501, 118, 57, 547, 548, 549, 550, 551, 552, 553, 554, 555, 556, 557, 558, 559, 560, 561] (by decide +kernel) (by decide +kernel)
set_option maxRecDepth 20000 in
theorem gL_law_X5_disk : GoodIn wsL_law (wsV RL 152 RX5 yX5_disk wsX5_disk) := goodIn_app (goodIn_of _ (by decide +kernel)) ggL_law_X5_disk
set_option maxRecDepth 20000 in
theorem ggL_law_L_spoil : GoodIn wsL_law wsL_spoil := goodIn_ca (goodIn_ca (goodIn_r _ [504, 151, 73, 505, 506, 507, 2, 508, 17, 160, 161, 162, 163, 164, 78, 79, 80, 81, 82, 542, 543, 544, 545, 546, 562, 563, 564, 565] (by decide +kernel) (by decide +kernel)) (goodIn_sub (fun _ h => List.mem_append_right _ h) (by decide +kernel))) (goodIn_sub (fun _ h => List.mem_append_left _ (List.mem_append_right _ h)) (by decide +kernel))
set_option maxRecDepth 20000 in
theorem gL_law_L_spoil : GoodIn wsL_law (va_wsS RL 153 yL_spoil wsL_spoil) := goodIn_app (goodIn_of _ (by decide +kernel)) ggL_law_L_spoil
set_option maxRecDepth 20000 in
theorem ggL_law_X5_spoil : GoodIn wsL_law wsX5_spoil := goodIn_r _ [512, 118, 57, 547, 548, 549, 550, 551, 552, 553, 554, 555, 556, 557, 558, 559, 560, 561] (by decide +kernel) (by decide +kernel)
set_option maxRecDepth 20000 in
theorem gL_law_X5_spoil : GoodIn wsL_law (wsV RL 156 RX5 yX5_spoil wsX5_spoil) := goodIn_app (goodIn_of _ (by decide +kernel)) ggL_law_X5_spoil
set_option maxRecDepth 20000 in
theorem ggL_law_L_told : GoodIn wsL_law wsL_told := goodIn_ca (goodIn_r _ [515, 73, 516, 517, 518, 2, 519, 25, 21, 17, 78, 79, 80, 81, 82, 111, 24, 112, 113, 47, 520, 20, 521, 522, 41, 523, 524, 525, 526, 222, 94, 95, 96, 97, 98, 99, 100, 42, 527, 528, 529, 530, 192, 105, 106, 107, 531, 532, 533, 542, 543, 544, 545, 546, 562, 563, 564, 565, 570, 566, 567, 568, 569] (by decide +kernel) (by decide +kernel)) (goodIn_sub (fun _ h => List.mem_append_left _ (List.mem_append_right _ h)) (by decide +kernel))
set_option maxRecDepth 20000 in
theorem gL_law_L_told : GoodIn wsL_law (va_wsS RL 157 yL_told wsL_told) := goodIn_app (goodIn_of _ (by decide +kernel)) ggL_law_L_told
set_option maxRecDepth 20000 in
theorem ggL_law_X5_told : GoodIn wsL_law wsX5_told := goodIn_r _ [537, 118, 119, 538, 539, 540, 5, 541, 57, 121, 122, 123, 124, 125, 126, 127, 128, 58, 547, 548, 549, 550, 551, 552, 553, 554, 555, 556, 557, 558, 559, 560, 561] (by decide +kernel) (by decide +kernel)
set_option maxRecDepth 20000 in
theorem gL_law_X5_told : GoodIn wsL_law (wsV RL 159 RX5 yX5_told wsX5_told) := goodIn_app (goodIn_of _ (by decide +kernel)) ggL_law_X5_told
