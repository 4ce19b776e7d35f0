/-! the law's calls, first half -/
set_option maxRecDepth 20000 in
theorem ggL_law_X6_init : GoodIn wsL_law wsX6_init := goodIn_r _ [10, 11, 12, 13, 14, 15, 16, 17, 18, 19, 20, 21, 22, 23, 24, 25, 26, 27, 28, 29, 30, 31, 32, 33, 34, 35, 36, 37, 38, 39, 40, 41, 42, 43, 44, 45, 46, 47, 48, 49, 50, 51, 52, 53, 54, 55, 56, 57, 58, 59, 60, 61, 62, 63, 64, 65, 66, 67, 68, 69, 70, 71, 72, 73, 74, 75, 76, 77, 78, 79, 80, 81, 82, 971, 972, 947, 948, 949, 950, 951, 952, 953, 954, 973, 974, 975, 976, 977, 978, 979, 980, 981, 982, 983, 984, 985, 986, 987, 988, 989, 990, 991, 992, 993, 994, 995, 996, 997] (by decide +kernel) (by decide +kernel)
set_option maxRecDepth 20000 in
theorem gL_law_X6_init : GoodIn wsL_law (wsX6_init) := ggL_law_X6_init
set_option maxRecDepth 20000 in
theorem ggL_law_X7_init : GoodIn wsL_law wsX7_init := goodIn_r _ [85, 86, 12, 13, 48, 87, 88, 89, 90, 91, 92, 36, 93, 94, 95, 5, 96, 955, 956, 957, 958, 959, 960, 961, 962, 963, 964, 965, 966, 967, 968, 969, 970] (by decide +kernel) (by decide +kernel)
set_option maxRecDepth 20000 in
theorem gL_law_X7_init : GoodIn wsL_law (wsX7_init) := ggL_law_X7_init
set_option maxRecDepth 20000 in
theorem ggL_law_L_append : GoodIn wsL_law wsL_append := goodIn_ca (goodIn_ca (goodIn_r _ [100, 101, 102, 103, 104, 105, 2, 106, 107, 108, 109, 110, 17, 111, 112, 113, 16, 114, 115, 116, 117, 118, 119, 43, 947, 948, 949, 950, 951, 952, 953, 954, 971, 972] (by decide +kernel) (by decide +kernel)) (goodIn_sub (fun _ h => List.mem_append_left _ (List.mem_append_left _ (List.mem_append_right _ h))) (by decide +kernel))) (goodIn_sub (fun _ h => List.mem_append_left _ (List.mem_append_right _ h)) (by decide +kernel))
set_option maxRecDepth 20000 in
theorem gL_law_L_append : GoodIn wsL_law (va_wsS RL 93 yL_append wsL_append) := goodIn_app (goodIn_of _ (by decide +kernel)) ggL_law_L_append
set_option maxRecDepth 20000 in
theorem ggL_law_X7_append : GoodIn wsL_law wsX7_append := goodIn_r _ [123, 124, 125, 87, 126, 127, 5, 128, 129, 130, 131, 132, 133, 955, 956, 957, 958, 959, 960, 961, 962, 963, 964, 965, 966, 967, 968, 969, 970] (by decide +kernel) (by decide +kernel)
set_option maxRecDepth 20000 in
theorem gL_law_X7_append : GoodIn wsL_law (wsV RL 98 RX7 yX7_append wsX7_append) := goodIn_app (goodIn_of _ (by decide +kernel)) ggL_law_X7_append
set_option maxRecDepth 20000 in
theorem ggL_law_X7_thrown : GoodIn wsL_law wsX7_thrown := goodIn_r _ [137, 133, 955, 956, 957, 958, 959, 960, 961, 962, 963, 964, 965, 966, 967, 968, 969, 970] (by decide +kernel) (by decide +kernel)
set_option maxRecDepth 20000 in
theorem gL_law_X7_thrown : GoodIn wsL_law (wsV RL 99 RX7 yX7_thrown wsX7_thrown) := goodIn_app (goodIn_of _ (by decide +kernel)) ggL_law_X7_thrown
set_option maxRecDepth 20000 in
theorem ggL_law_X6_clearText : GoodIn wsL_law wsX6_clearText := goodIn_r _ [141, 17, 142, 143, 144, 16, 145, 115, 947, 948, 949, 950, 951, 952, 953, 954, 971, 972] (by decide +kernel) (by decide +kernel)
set_option maxRecDepth 20000 in
theorem gL_law_X6_clearText : GoodIn wsL_law (wsV RL 102 RX6 yX6_clearText wsX6_clearText) := goodIn_app (goodIn_of _ (by decide +kernel)) ggL_law_X6_clearText
set_option maxRecDepth 20000 in
theorem ggL_law_X7_clearText : GoodIn wsL_law wsX7_clearText := goodIn_r _ [149, 133, 125, 955, 956, 957, 958, 959, 960, 961, 962, 963, 964, 965, 966, 967, 968, 969, 970] (by decide +kernel) (by decide +kernel)
set_option maxRecDepth 20000 in
theorem gL_law_X7_clearText : GoodIn wsL_law (wsV RL 105 RX7 yX7_clearText wsX7_clearText) := goodIn_app (goodIn_of _ (by decide +kernel)) ggL_law_X7_clearText
set_option maxRecDepth 20000 in
theorem ggL_law_X6_errorPosition : GoodIn wsL_law wsX6_errorPosition := goodIn_r _ [153, 17, 154, 155, 156, 16, 157, 115, 158, 159, 160, 161, 43, 162, 163, 164, 165, 166, 167, 947, 948, 949, 950, 951, 952, 953, 954, 971, 972] (by decide +kernel) (by decide +kernel)
set_option maxRecDepth 20000 in
theorem gL_law_X6_errorPosition : GoodIn wsL_law (wsV RL 106 RX6 yX6_errorPosition wsX6_errorPosition) := goodIn_app (goodIn_of _ (by decide +kernel)) ggL_law_X6_errorPosition
set_option maxRecDepth 20000 in
theorem ggL_law_X7_errorPosition : GoodIn wsL_law wsX7_errorPosition := goodIn_r _ [171, 133, 89, 172, 173, 174, 5, 175, 176, 177, 125, 87, 94, 95, 96, 178, 179, 180, 181, 126, 127, 128, 182, 183, 184, 185, 186, 187, 188, 189, 190, 191, 192, 193, 194, 195, 196, 197, 198, 199, 200, 201, 202, 203, 204, 205, 206, 207, 208, 209, 210, 211, 212, 213, 214, 215, 216, 217, 218, 219, 220, 221, 222, 223, 224, 225, 226, 227, 228, 229, 230, 231, 232, 233, 234, 235, 236, 237, 238, 239, 240, 241, 242, 243, 244, 245, 246, 247, 248, 249, 250, 251, 252, 253, 254, 255, 256, 257, 258, 259, 260, 261, 262, 263, 264, 265, 266, 267, 268, 955, 956, 957, 958, 959, 960, 961, 962, 963, 964, 965, 966, 967, 968, 969, 970] (by decide +kernel) (by decide +kernel)
set_option maxRecDepth 20000 in
theorem gL_law_X7_errorPosition : GoodIn wsL_law (wsV RL 109 RX7 yX7_errorPosition wsX7_errorPosition) := goodIn_app (goodIn_of _ (by decide +kernel)) ggL_law_X7_errorPosition
set_option maxRecDepth 20000 in
theorem ggL_law_L_load : GoodIn wsL_law wsL_load := goodIn_ca (goodIn_r _ [271, 102, 272, 273, 274, 2, 275, 109, 110, 17, 21, 30, 34, 37, 154, 155, 156, 16, 157, 115, 158, 159, 160, 161, 43, 162, 163, 164, 165, 166, 167, 276, 277, 278, 20, 279, 49, 50, 51, 52, 53, 280, 281, 282, 283, 284, 285, 286, 287, 288, 289, 290, 29, 291, 292, 293, 294, 295, 296, 297, 298, 299, 300, 301, 302, 303, 304, 305, 58, 55, 306, 307, 308, 57, 309, 63, 64, 65, 310, 311, 312, 313, 314, 315, 316, 317, 318, 319, 320, 321, 322, 323, 324, 325, 326, 327, 328, 329, 330, 331, 332, 333, 334, 335, 336, 337, 338, 339, 340, 341, 342, 343, 344, 345, 346, 347, 348, 349, 350, 351, 352, 353, 354, 355, 356, 357, 358, 359, 360, 361, 362, 363, 364, 365, 366, 367, 368, 369, 370, 371, 372, 373, 374, 375, 376, 377, 378, 379, 380, 381, 382, 383, 384, 385, 386, 387, 388, 389, 390, 391, 392, 393, 394, 395, 396, 397, 398, 399, 400, 401, 402, 403, 404, 405, 406, 407, 408, 409, 410, 411, 412, 413, 414, 415, 416, 417, 418, 419, 420, 421, 422, 423, 424, 425, 426, 427, 428, 429, 430, 431, 432, 433, 434, 435, 436, 437, 438, 439, 440, 441, 442, 443, 444, 445, 446, 447, 448, 449, 450, 451, 452, 453, 454, 455, 456, 457, 458, 459, 460, 461, 462, 463, 464, 465, 466, 467, 468, 469, 470, 33, 471, 472, 947, 948, 949, 950, 951, 952, 953, 954, 971, 972, 973, 974, 975, 976, 977, 978, 979, 980, 986, 990, 991, 992, 993, 994, 995, 996, 997, 987, 988, 989] (by decide +kernel) (by decide +kernel)) (goodIn_sub (fun _ h => List.mem_append_left _ (List.mem_append_right _ h)) (by decide +kernel))
set_option maxRecDepth 20000 in
theorem gL_law_L_load : GoodIn wsL_law (va_wsS RL 110 yL_load wsL_load) := goodIn_app (goodIn_of _ (by decide +kernel)) ggL_law_L_load
set_option maxRecDepth 20000 in
theorem ggL_law_X7_load : GoodIn wsL_law wsX7_load := goodIn_r _ [476, 89, 88, 477, 93, 176, 172, 173, 174, 5, 175, 177, 125, 87, 94, 95, 96, 178, 179, 180, 181, 126, 127, 128, 182, 183, 184, 185, 186, 187, 188, 189, 190, 191, 192, 193, 194, 195, 196, 197, 198, 199, 200, 201, 202, 203, 204, 205, 206, 207, 208, 209, 210, 211, 212, 213, 214, 215, 216, 217, 218, 219, 220, 221, 222, 223, 224, 225, 226, 227, 228, 229, 230, 231, 232, 233, 234, 235, 236, 237, 238, 239, 240, 241, 242, 243, 244, 245, 246, 247, 248, 249, 250, 251, 252, 253, 254, 255, 256, 257, 258, 259, 260, 261, 262, 263, 264, 265, 266, 267, 268, 129, 130, 131, 132, 133, 478, 479, 480, 955, 956, 957, 958, 959, 960, 961, 962, 963, 964, 965, 966, 967, 968, 969, 970] (by decide +kernel) (by decide +kernel)
set_option maxRecDepth 20000 in
theorem gL_law_X7_load : GoodIn wsL_law (wsV RL 113 RX7 yX7_load wsX7_load) := goodIn_app (goodIn_of _ (by decide +kernel)) ggL_law_X7_load
set_option maxRecDepth 20000 in
theorem ggL_law_L_about : GoodIn wsL_law wsL_about := goodIn_ca (goodIn_r _ [483, 101, 484, 485, 486, 2, 487, 107, 108, 21, 488, 489, 490, 20, 491, 301, 492, 493, 494, 495, 305, 302, 496, 497, 498, 499, 303, 500, 501, 502, 503, 304, 504, 505, 506, 507, 508, 509, 510, 511, 58, 947, 948, 949, 950, 951, 952, 953, 954, 973, 974, 975, 976, 977, 978, 979, 980] (by decide +kernel) (by decide +kernel)) (goodIn_sub (fun _ h => List.mem_append_left _ (List.mem_append_left _ (List.mem_append_right _ h))) (by decide +kernel))
set_option maxRecDepth 20000 in
theorem gL_law_L_about : GoodIn wsL_law (va_wsS RL 114 yL_about wsL_about) := goodIn_app (goodIn_of _ (by decide +kernel)) ggL_law_L_about
set_option maxRecDepth 20000 in
theorem ggL_law_X7_about : GoodIn wsL_law wsX7_about := goodIn_r _ [515, 516, 88, 126, 127, 5, 128, 129, 130, 131, 132, 133, 955, 956, 957, 958, 959, 960, 961, 962, 963, 964, 965, 966, 967, 968, 969, 970] (by decide +kernel) (by decide +kernel)
set_option maxRecDepth 20000 in
theorem gL_law_X7_about : GoodIn wsL_law (wsV RL 116 RX7 yX7_about wsX7_about) := goodIn_app (goodIn_of _ (by decide +kernel)) ggL_law_X7_about
set_option maxRecDepth 20000 in
theorem ggL_law_L_tile : GoodIn wsL_law wsL_tile := goodIn_ca (goodIn_ca (goodIn_r _ [519, 520, 101, 521, 522, 523, 2, 524, 525, 526, 107, 108, 21, 527, 362, 363, 20, 364, 301, 431, 329, 330, 528, 370, 371, 372, 55, 529, 530, 531, 57, 532, 63, 533, 534, 535, 536, 64, 537, 538, 539, 540, 310, 947, 948, 949, 950, 951, 952, 953, 954, 973, 974, 975, 976, 977, 978, 979, 980, 990, 991, 992, 993, 994, 995, 996, 997] (by decide +kernel) (by decide +kernel)) (goodIn_sub (fun _ h => List.mem_append_right _ h) (by decide +kernel))) (goodIn_sub (fun _ h => List.mem_append_left _ (List.mem_append_left _ (List.mem_append_right _ h))) (by decide +kernel))
set_option maxRecDepth 20000 in
theorem gL_law_L_tile : GoodIn wsL_law (va_wsS RL 117 yL_tile wsL_tile) := goodIn_app (goodIn_of _ (by decide +kernel)) ggL_law_L_tile
set_option maxRecDepth 20000 in
theorem ggL_law_X7_tile : GoodIn wsL_law wsX7_tile := goodIn_r _ [544, 88, 545, 217, 218, 5, 219, 126, 127, 128, 546, 547, 548, 549, 129, 130, 131, 132, 133, 191, 192, 193, 955, 956, 957, 958, 959, 960, 961, 962, 963, 964, 965, 966, 967, 968, 969, 970] (by decide +kernel) (by decide +kernel)
set_option maxRecDepth 20000 in
theorem gL_law_X7_tile : GoodIn wsL_law (wsV RL 120 RX7 yX7_tile wsX7_tile) := goodIn_app (goodIn_of _ (by decide +kernel)) ggL_law_X7_tile
set_option maxRecDepth 20000 in
theorem ggL_law_L_player : GoodIn wsL_law wsL_player := goodIn_ca (goodIn_ca (goodIn_r _ [552, 520, 101, 553, 554, 555, 2, 556, 525, 526, 107, 108, 21, 527, 362, 363, 20, 364, 301, 528, 370, 371, 372, 55, 537, 538, 539, 57, 540, 310, 557, 449, 450, 451, 311, 558, 441, 442, 443, 65, 559, 560, 561, 562, 64, 440, 563, 564, 565, 566, 312, 567, 568, 569, 570, 313, 571, 572, 573, 574, 314, 575, 409, 410, 411, 49, 412, 413, 576, 415, 416, 417, 418, 419, 420, 421, 63, 422, 423, 424, 425, 426, 427, 428, 577, 429, 430, 431, 329, 330, 947, 948, 949, 950, 951, 952, 953, 954, 973, 974, 975, 976, 977, 978, 979, 980, 990, 991, 992, 993, 994, 995, 996, 997] (by decide +kernel) (by decide +kernel)) (goodIn_sub (fun _ h => List.mem_append_right _ h) (by decide +kernel))) (goodIn_sub (fun _ h => List.mem_append_left _ (List.mem_append_left _ (List.mem_append_right _ h))) (by decide +kernel))
set_option maxRecDepth 20000 in
theorem gL_law_L_player : GoodIn wsL_law (va_wsS RL 121 yL_player wsL_player) := goodIn_app (goodIn_of _ (by decide +kernel)) ggL_law_L_player
set_option maxRecDepth 20000 in
theorem ggL_law_X7_player : GoodIn wsL_law wsX7_player := goodIn_r _ [581, 88, 549, 217, 218, 5, 219, 126, 127, 128, 129, 130, 131, 132, 133, 191, 192, 193, 200, 201, 202, 582, 583, 584, 235, 236, 237, 238, 239, 240, 241, 242, 243, 244, 245, 246, 585, 586, 587, 955, 956, 957, 958, 959, 960, 961, 962, 963, 964, 965, 966, 967, 968, 969, 970] (by decide +kernel) (by decide +kernel)
set_option maxRecDepth 20000 in
theorem gL_law_X7_player : GoodIn wsL_law (wsV RL 124 RX7 yX7_player wsX7_player) := goodIn_app (goodIn_of _ (by decide +kernel)) ggL_law_X7_player
set_option maxRecDepth 20000 in
theorem ggL_law_L_setting : GoodIn wsL_law wsL_setting := goodIn_ca (goodIn_r _ [590, 101, 591, 592, 593, 2, 594, 107, 108, 21, 595, 412, 413, 575, 409, 410, 20, 411, 49, 947, 948, 949, 950, 951, 952, 953, 954, 973, 974, 975, 976, 977, 978, 979, 980] (by decide +kernel) (by decide +kernel)) (goodIn_sub (fun _ h => List.mem_append_left _ (List.mem_append_left _ (List.mem_append_right _ h))) (by decide +kernel))
set_option maxRecDepth 20000 in
theorem gL_law_L_setting : GoodIn wsL_law (va_wsS RL 125 yL_setting wsL_setting) := goodIn_app (goodIn_of _ (by decide +kernel)) ggL_law_L_setting
set_option maxRecDepth 20000 in
theorem ggL_law_X7_setting : GoodIn wsL_law wsX7_setting := goodIn_r _ [599, 545, 88, 126, 127, 5, 128, 129, 130, 131, 132, 133, 955, 956, 957, 958, 959, 960, 961, 962, 963, 964, 965, 966, 967, 968, 969, 970] (by decide +kernel) (by decide +kernel)
set_option maxRecDepth 20000 in
theorem gL_law_X7_setting : GoodIn wsL_law (wsV RL 127 RX7 yX7_setting wsX7_setting) := goodIn_app (goodIn_of _ (by decide +kernel)) ggL_law_X7_setting
set_option maxRecDepth 20000 in
theorem ggL_law_L_begin : GoodIn wsL_law wsL_begin := goodIn_ca (goodIn_r _ [602, 101, 603, 604, 605, 2, 606, 107, 108, 34, 21, 30, 607, 608, 609, 33, 610, 611, 81, 472, 612, 613, 614, 615, 616, 617, 618, 20, 619, 49, 50, 51, 52, 53, 55, 301, 302, 303, 304, 305, 58, 620, 621, 622, 57, 623, 63, 624, 64, 65, 310, 311, 312, 313, 314, 288, 289, 290, 29, 291, 292, 297, 298, 299, 300, 306, 307, 308, 309, 315, 316, 317, 318, 319, 320, 321, 322, 323, 324, 325, 326, 327, 328, 329, 330, 331, 332, 333, 334, 528, 370, 371, 372, 558, 441, 442, 443, 947, 948, 949, 950, 951, 952, 953, 954, 987, 988, 989, 973, 974, 975, 976, 977, 978, 979, 980, 990, 991, 992, 993, 994, 995, 996, 997, 986] (by decide +kernel) (by decide +kernel)) (goodIn_sub (fun _ h => List.mem_append_left _ (List.mem_append_left _ (List.mem_append_right _ h))) (by decide +kernel))
set_option maxRecDepth 20000 in
theorem gL_law_L_begin : GoodIn wsL_law (va_wsS RL 130 yL_begin wsL_begin) := goodIn_app (goodIn_of _ (by decide +kernel)) ggL_law_L_begin
set_option maxRecDepth 20000 in
theorem ggL_law_X7_begin : GoodIn wsL_law wsX7_begin := goodIn_r _ [628, 545, 629, 88, 126, 127, 5, 128, 129, 130, 131, 132, 133, 630, 631, 632, 633, 477, 91, 478, 479, 480, 182, 183, 184, 185, 186, 187, 188, 189, 190, 191, 192, 193, 194, 195, 196, 197, 198, 199, 200, 201, 202, 955, 956, 957, 958, 959, 960, 961, 962, 963, 964, 965, 966, 967, 968, 969, 970] (by decide +kernel) (by decide +kernel)
set_option maxRecDepth 20000 in
theorem gL_law_X7_begin : GoodIn wsL_law (wsV RL 133 RX7 yX7_begin wsX7_begin) := goodIn_app (goodIn_of _ (by decide +kernel)) ggL_law_X7_begin
set_option maxRecDepth 20000 in
theorem ggL_law_L_shift : GoodIn wsL_law wsL_shift := goodIn_ca (goodIn_ca (goodIn_ca (goodIn_r _ [636, 520, 101, 102, 637, 638, 639, 2, 640, 525, 526, 107, 108, 109, 110, 21, 34, 527, 362, 363, 20, 364, 301, 641, 365, 366, 642, 367, 368, 643, 354, 355, 356, 303, 302, 357, 358, 359, 360, 305, 361, 369, 370, 371, 372, 55, 373, 374, 375, 57, 376, 312, 313, 314, 607, 608, 609, 33, 610, 611, 81, 472, 612, 613, 614, 615, 616, 617, 618, 619, 49, 50, 51, 52, 53, 304, 58, 620, 621, 622, 623, 63, 624, 64, 65, 310, 311, 644, 378, 379, 380, 381, 382, 383, 384, 385, 386, 387, 388, 389, 390, 391, 528, 575, 409, 410, 411, 412, 413, 576, 415, 416, 417, 418, 419, 420, 421, 422, 423, 424, 425, 426, 427, 428, 645, 646, 647, 648, 649, 650, 651, 947, 948, 949, 950, 951, 952, 953, 954, 973, 974, 975, 976, 977, 978, 979, 980, 990, 991, 992, 993, 994, 995, 996, 997, 987, 988, 989] (by decide +kernel) (by decide +kernel)) (goodIn_sub (fun _ h => List.mem_append_right _ h) (by decide +kernel))) (goodIn_sub (fun _ h => List.mem_append_left _ (List.mem_append_left _ (List.mem_append_right _ h))) (by decide +kernel))) (goodIn_sub (fun _ h => List.mem_append_left _ (List.mem_append_right _ h)) (by decide +kernel))
set_option maxRecDepth 20000 in
theorem gL_law_L_shift : GoodIn wsL_law (va_wsS RL 134 yL_shift wsL_shift) := goodIn_app (goodIn_of _ (by decide +kernel)) ggL_law_L_shift
set_option maxRecDepth 20000 in
theorem ggL_law_X7_shift : GoodIn wsL_law wsX7_shift := goodIn_r _ [655, 88, 217, 218, 5, 219, 126, 127, 128, 656, 657, 658, 516, 211, 212, 213, 214, 215, 216, 220, 221, 222, 191, 192, 193, 129, 130, 131, 132, 133, 630, 631, 632, 633, 477, 91, 478, 479, 480, 223, 224, 225, 226, 227, 228, 229, 230, 231, 232, 233, 234, 235, 236, 237, 238, 239, 240, 241, 242, 243, 244, 245, 246, 247, 248, 249, 955, 956, 957, 958, 959, 960, 961, 962, 963, 964, 965, 966, 967, 968, 969, 970] (by decide +kernel) (by decide +kernel)
set_option maxRecDepth 20000 in
theorem gL_law_X7_shift : GoodIn wsL_law (wsV RL 136 RX7 yX7_shift wsX7_shift) := goodIn_app (goodIn_of _ (by decide +kernel)) ggL_law_X7_shift
set_option maxRecDepth 20000 in
theorem ggL_law_L_go : GoodIn wsL_law wsL_go := goodIn_ca (goodIn_ca (goodIn_r _ [661, 520, 102, 662, 663, 664, 2, 665, 525, 526, 109, 110, 21, 34, 431, 329, 330, 666, 397, 398, 20, 399, 302, 400, 401, 402, 403, 303, 357, 358, 359, 360, 301, 305, 404, 405, 406, 407, 361, 362, 363, 364, 369, 370, 371, 372, 55, 408, 409, 410, 411, 49, 412, 413, 414, 415, 416, 57, 417, 310, 418, 419, 420, 421, 63, 422, 423, 424, 425, 426, 427, 428, 429, 430, 607, 608, 609, 33, 610, 611, 81, 472, 612, 613, 614, 615, 616, 617, 618, 619, 50, 51, 52, 53, 304, 58, 620, 621, 622, 623, 624, 64, 65, 311, 312, 313, 314, 667, 433, 434, 435, 436, 437, 438, 439, 440, 441, 442, 443, 444, 445, 446, 447, 448, 449, 450, 451, 452, 453, 454, 455, 947, 948, 949, 950, 951, 952, 953, 954, 973, 974, 975, 976, 977, 978, 979, 980, 990, 991, 992, 993, 994, 995, 996, 997, 987, 988, 989] (by decide +kernel) (by decide +kernel)) (goodIn_sub (fun _ h => List.mem_append_right _ h) (by decide +kernel))) (goodIn_sub (fun _ h => List.mem_append_left _ (List.mem_append_right _ h)) (by decide +kernel))
set_option maxRecDepth 20000 in
theorem gL_law_L_go : GoodIn wsL_law (va_wsS RL 137 yL_go wsL_go) := goodIn_app (goodIn_of _ (by decide +kernel)) ggL_law_L_go
set_option maxRecDepth 20000 in
theorem ggL_law_X7_go : GoodIn wsL_law wsX7_go := goodIn_r _ [671, 88, 546, 547, 5, 548, 549, 126, 127, 128, 254, 255, 256, 214, 215, 216, 235, 236, 237, 238, 239, 240, 191, 192, 193, 241, 242, 243, 244, 245, 246, 129, 130, 131, 132, 133, 630, 631, 632, 633, 477, 91, 478, 479, 480, 257, 258, 259, 200, 201, 202, 260, 261, 262, 955, 956, 957, 958, 959, 960, 961, 962, 963, 964, 965, 966, 967, 968, 969, 970] (by decide +kernel) (by decide +kernel)
set_option maxRecDepth 20000 in
theorem gL_law_X7_go : GoodIn wsL_law (wsV RL 139 RX7 yX7_go wsX7_go) := goodIn_app (goodIn_of _ (by decide +kernel)) ggL_law_X7_go
set_option maxRecDepth 20000 in
theorem ggL_law_L_lock : GoodIn wsL_law wsL_lock := goodIn_ca (goodIn_ca (goodIn_r _ [674, 520, 102, 675, 676, 677, 2, 678, 525, 526, 109, 110, 21, 34, 641, 365, 366, 679, 401, 402, 20, 403, 303, 357, 358, 359, 360, 301, 305, 607, 608, 609, 33, 610, 611, 81, 472, 612, 613, 614, 615, 616, 617, 618, 619, 49, 50, 51, 52, 53, 55, 302, 304, 58, 620, 621, 622, 57, 623, 63, 624, 64, 65, 310, 311, 312, 313, 314, 680, 461, 462, 463, 369, 370, 371, 372, 464, 465, 466, 467, 444, 445, 446, 447, 448, 449, 450, 451, 408, 409, 410, 411, 412, 413, 452, 453, 454, 455, 492, 493, 494, 495, 947, 948, 949, 950, 951, 952, 953, 954, 973, 974, 975, 976, 977, 978, 979, 980, 987, 988, 989, 990, 991, 992, 993, 994, 995, 996, 997] (by decide +kernel) (by decide +kernel)) (goodIn_sub (fun _ h => List.mem_append_right _ h) (by decide +kernel))) (goodIn_sub (fun _ h => List.mem_append_left _ (List.mem_append_right _ h)) (by decide +kernel))
