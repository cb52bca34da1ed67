/-! ===== the law: what its calls ask ===== -/
set_option maxRecDepth 20000 in
theorem ggL_law_X6_day : GoodIn wsL_law wsX6_day := goodIn_r _ [187, 90, 158, 159, 5, 160, 91, 92, 93, 188, 189, 190, 191, 161, 162, 163, 164, 66, 65, 94, 95, 96, 97, 192, 193, 194, 195, 196, 197, 198, 199, 897, 898, 899, 900, 901, 902, 903, 904, 905, 906, 907, 908, 909] (by decide +kernel) (by decide +kernel)
set_option maxRecDepth 20000 in
theorem gL_law_X6_day : GoodIn wsL_law (wsV RL 111 RX6 yX6_day wsX6_day) := goodIn_app (goodIn_of _ (by decide +kernel)) ggL_law_X6_day
set_option maxRecDepth 20000 in
theorem ggL_law_L_date : GoodIn wsL_law wsL_date := goodIn_ca (goodIn_ca (goodIn_r _ [202, 77, 203, 204, 205, 206, 2, 207, 82, 83, 208, 209, 16, 210, 211, 212, 213, 177, 178, 179, 15, 180, 34, 33, 214, 215, 216, 217, 218, 219, 220, 221, 222, 223, 224, 225, 226, 227, 228, 229, 230, 231, 20, 232, 233, 234, 19, 235, 39, 38, 236, 237, 238, 239, 890, 891, 892, 893, 894, 895, 896, 910, 911, 912, 913] (by decide +kernel) (by decide +kernel)) (goodIn_sub (fun _ h => List.mem_append_left _ (List.mem_append_left _ (List.mem_append_right _ h))) (by decide +kernel))) (goodIn_sub (fun _ h => List.mem_append_left _ (List.mem_append_right _ h)) (by decide +kernel))
set_option maxRecDepth 20000 in
theorem gL_law_L_date : GoodIn wsL_law (va_wsS RL 112 yL_date wsL_date) := goodIn_app (goodIn_of _ (by decide +kernel)) ggL_law_L_date
set_option maxRecDepth 20000 in
theorem ggL_law_X6_date : GoodIn wsL_law wsX6_date := goodIn_r _ [243, 90, 244, 245, 246, 5, 247, 196, 197, 198, 199, 161, 162, 163, 164, 66, 65, 91, 92, 93, 94, 95, 96, 97, 248, 249, 250, 251, 252, 253, 254, 255, 256, 257, 258, 259, 188, 189, 190, 191, 260, 261, 262, 263, 264, 119, 67, 265, 266, 267, 268, 269, 270, 271, 272, 273, 274, 275, 276, 897, 898, 899, 900, 901, 902, 903, 904, 905, 906, 907, 908, 909] (by decide +kernel) (by decide +kernel)
set_option maxRecDepth 20000 in
theorem gL_law_X6_date : GoodIn wsL_law (wsV RL 114 RX6 yX6_date wsX6_date) := goodIn_app (goodIn_of _ (by decide +kernel)) ggL_law_X6_date
set_option maxRecDepth 20000 in
theorem ggL_law_L_line : GoodIn wsL_law wsL_line := goodIn_ca (goodIn_r _ [279, 77, 280, 281, 282, 2, 283, 82, 83, 16, 210, 211, 212, 213, 177, 178, 179, 15, 180, 34, 33, 214, 215, 216, 217, 218, 284, 285, 286, 287, 288, 289, 219, 220, 221, 222, 223, 224, 225, 226, 227, 890, 891, 892, 893, 894, 895, 896, 910, 911] (by decide +kernel) (by decide +kernel)) (goodIn_sub (fun _ h => List.mem_append_left _ (List.mem_append_left _ (List.mem_append_right _ h))) (by decide +kernel))
set_option maxRecDepth 20000 in
theorem gL_law_L_line : GoodIn wsL_law (va_wsS RL 115 yL_line wsL_line) := goodIn_app (goodIn_of _ (by decide +kernel)) ggL_law_L_line
set_option maxRecDepth 20000 in
theorem ggL_law_X6_line : GoodIn wsL_law wsX6_line := goodIn_r _ [293, 90, 294, 295, 296, 244, 245, 246, 5, 247, 196, 197, 198, 199, 161, 162, 163, 164, 66, 65, 91, 92, 93, 94, 95, 96, 97, 297, 298, 299, 300, 301, 302, 303, 304, 11, 12, 305, 306, 307, 308, 309, 310, 311, 312, 313, 314, 315, 316, 252, 253, 254, 255, 317, 318, 319, 320, 321, 322, 323, 324, 325, 326, 327, 328, 329, 330, 331, 332, 333, 334, 335, 336, 337, 338, 339, 340, 341, 342, 343, 344, 345, 346, 266, 267, 268, 347, 348, 349, 350, 351, 352, 353, 354, 355, 356, 357, 358, 359, 360, 361, 362, 363, 364, 365, 366, 367, 368, 369, 370, 371, 372, 373, 374, 375, 376, 377, 378, 379, 380, 381, 382, 383, 384, 385, 386, 387, 388, 389, 390, 391, 392, 393, 394, 395, 396, 397, 398, 399, 400, 401, 402, 403, 404, 405, 406, 407, 408, 409, 410, 411, 412, 413, 414, 415, 416, 417, 418, 419, 420, 421, 422, 423, 424, 425, 426, 427, 428, 429, 430, 431, 432, 433, 434, 435, 436, 437, 438, 439, 440, 441, 442, 443, 444, 445, 446, 447, 448, 449, 450, 256, 257, 258, 259, 188, 189, 190, 191, 451, 452, 453, 454, 455, 456, 457, 458, 459, 460, 461, 462, 463, 464, 465, 466, 467, 468, 469, 470, 471, 897, 898, 899, 900, 901, 902, 903, 904, 905, 906, 907, 908, 909, 919, 920, 921, 922] (by decide +kernel) (by decide +kernel)
set_option maxRecDepth 20000 in
theorem gL_law_X6_line : GoodIn wsL_law (wsV RL 117 RX6 yX6_line wsX6_line) := goodIn_app (goodIn_of _ (by decide +kernel)) ggL_law_X6_line
set_option maxRecDepth 20000 in
theorem ggL_law_L_moon : GoodIn wsL_law wsL_moon := goodIn_ca (goodIn_r _ [474, 77, 475, 476, 477, 2, 478, 82, 83, 20, 236, 237, 238, 19, 239, 39, 38, 890, 891, 892, 893, 894, 895, 896, 912, 913] (by decide +kernel) (by decide +kernel)) (goodIn_sub (fun _ h => List.mem_append_left _ (List.mem_append_left _ (List.mem_append_right _ h))) (by decide +kernel))
set_option maxRecDepth 20000 in
theorem gL_law_L_moon : GoodIn wsL_law (va_wsS RL 118 yL_moon wsL_moon) := goodIn_app (goodIn_of _ (by decide +kernel)) ggL_law_L_moon
set_option maxRecDepth 20000 in
theorem ggL_law_X6_moon : GoodIn wsL_law wsX6_moon := goodIn_r _ [482, 90, 91, 92, 5, 93, 269, 270, 271, 272, 273, 274, 275, 276, 119, 67, 94, 95, 96, 97, 897, 898, 899, 900, 901, 902, 903, 904, 905, 906, 907, 908, 909] (by decide +kernel) (by decide +kernel)
set_option maxRecDepth 20000 in
theorem gL_law_X6_moon : GoodIn wsL_law (wsV RL 121 RX6 yX6_moon wsX6_moon) := goodIn_app (goodIn_of _ (by decide +kernel)) ggL_law_X6_moon
set_option maxRecDepth 20000 in
theorem ggL_law_L_eclipses : GoodIn wsL_law wsL_eclipses := goodIn_ca (goodIn_r _ [485, 77, 486, 487, 488, 2, 489, 82, 83, 147, 148, 149, 490, 491, 492, 493, 20, 16, 24, 177, 178, 179, 15, 180, 34, 33, 232, 233, 234, 19, 235, 39, 38, 236, 237, 238, 239, 494, 495, 496, 497, 498, 499, 23, 500, 45, 44, 890, 891, 892, 893, 894, 895, 896, 910, 911, 912, 913, 914, 915] (by decide +kernel) (by decide +kernel)) (goodIn_sub (fun _ h => List.mem_append_left _ (List.mem_append_left _ (List.mem_append_right _ h))) (by decide +kernel))
set_option maxRecDepth 20000 in
theorem gL_law_L_eclipses : GoodIn wsL_law (va_wsS RL 122 yL_eclipses wsL_eclipses) := goodIn_app (goodIn_of _ (by decide +kernel)) ggL_law_L_eclipses
set_option maxRecDepth 20000 in
theorem ggL_law_X6_eclipses : GoodIn wsL_law wsX6_eclipses := goodIn_r _ [504, 90, 158, 159, 5, 160, 91, 92, 93, 505, 506, 507, 508, 196, 197, 198, 199, 161, 162, 163, 164, 66, 65, 509, 510, 511, 512, 260, 261, 262, 263, 264, 119, 67, 265, 266, 267, 268, 269, 270, 271, 272, 273, 274, 275, 276, 513, 514, 515, 516, 139, 69, 517, 362, 363, 94, 95, 96, 97, 897, 898, 899, 900, 901, 902, 903, 904, 905, 906, 907, 908, 909] (by decide +kernel) (by decide +kernel)
set_option maxRecDepth 20000 in
theorem gL_law_X6_eclipses : GoodIn wsL_law (wsV RL 124 RX6 yX6_eclipses wsX6_eclipses) := goodIn_app (goodIn_of _ (by decide +kernel)) ggL_law_X6_eclipses
set_option maxRecDepth 20000 in
theorem ggL_law_L_next : GoodIn wsL_law wsL_next := goodIn_ca (goodIn_r _ [520, 77, 521, 522, 523, 2, 524, 82, 83, 525, 266, 267, 268, 526, 362, 363, 210, 211, 212, 213, 16, 177, 178, 179, 15, 180, 34, 33, 527, 528, 529, 530, 20, 24, 232, 233, 234, 19, 235, 39, 38, 236, 237, 238, 239, 494, 495, 496, 497, 498, 499, 23, 500, 45, 44, 890, 891, 892, 893, 894, 895, 896, 910, 911, 912, 913, 914, 915] (by decide +kernel) (by decide +kernel)) (goodIn_sub (fun _ h => List.mem_append_left _ (List.mem_append_left _ (List.mem_append_right _ h))) (by decide +kernel))
set_option maxRecDepth 20000 in
theorem gL_law_L_next : GoodIn wsL_law (va_wsS RL 125 yL_next wsL_next) := goodIn_app (goodIn_of _ (by decide +kernel)) ggL_law_L_next
set_option maxRecDepth 20000 in
theorem ggL_law_X6_next : GoodIn wsL_law wsX6_next := goodIn_r _ [534, 90, 517, 362, 267, 363, 244, 245, 246, 5, 247, 196, 197, 198, 199, 161, 162, 163, 164, 66, 65, 91, 92, 93, 94, 95, 96, 97, 535, 536, 537, 538, 260, 261, 262, 263, 264, 119, 67, 265, 266, 268, 269, 270, 271, 272, 273, 274, 275, 276, 513, 514, 515, 516, 139, 69, 897, 898, 899, 900, 901, 902, 903, 904, 905, 906, 907, 908, 909] (by decide +kernel) (by decide +kernel)
set_option maxRecDepth 20000 in
theorem gL_law_X6_next : GoodIn wsL_law (wsV RL 127 RX6 yX6_next wsX6_next) := goodIn_app (goodIn_of _ (by decide +kernel)) ggL_law_X6_next
set_option maxRecDepth 20000 in
theorem ggL_law_L_observe : GoodIn wsL_law wsL_observe := goodIn_ca (goodIn_r _ [541, 77, 542, 543, 544, 2, 545, 82, 83, 546, 20, 547, 548, 549, 550, 551, 19, 552, 553, 233, 234, 235, 39, 38, 554, 237, 238, 239, 236, 555, 556, 557, 558, 559, 560, 362, 267, 363, 561, 266, 268, 890, 891, 892, 893, 894, 895, 896, 912, 913] (by decide +kernel) (by decide +kernel)) (goodIn_sub (fun _ h => List.mem_append_left _ (List.mem_append_left _ (List.mem_append_right _ h))) (by decide +kernel))
set_option maxRecDepth 20000 in
theorem gL_law_L_observe : GoodIn wsL_law (va_wsS RL 128 yL_observe wsL_observe) := goodIn_app (goodIn_of _ (by decide +kernel)) ggL_law_L_observe
set_option maxRecDepth 20000 in
theorem ggL_law_X6_observe : GoodIn wsL_law wsX6_observe := goodIn_r _ [565, 90, 566, 567, 568, 119, 117, 517, 362, 267, 363, 265, 266, 268, 67, 91, 92, 5, 93, 94, 95, 96, 97, 260, 261, 262, 263, 264, 269, 270, 271, 272, 273, 274, 275, 276, 897, 898, 899, 900, 901, 902, 903, 904, 905, 906, 907, 908, 909] (by decide +kernel) (by decide +kernel)
set_option maxRecDepth 20000 in
theorem gL_law_X6_observe : GoodIn wsL_law (wsV RL 130 RX6 yX6_observe wsX6_observe) := goodIn_app (goodIn_of _ (by decide +kernel)) ggL_law_X6_observe
set_option maxRecDepth 20000 in
theorem ggL_law_L_addFeast : GoodIn wsL_law wsL_addFeast := goodIn_ca (goodIn_ca (goodIn_r _ [571, 77, 572, 573, 574, 575, 2, 576, 82, 83, 577, 578, 28, 579, 580, 581, 582, 583, 584, 27, 585, 586, 587, 588, 589, 590, 11, 12, 591, 592, 593, 594, 595, 596, 597, 598, 599, 600, 601, 50, 602, 603, 604, 605, 606, 607, 608, 609, 610, 611, 612, 613, 49, 614, 266, 267, 268, 615, 616, 343, 344, 345, 346, 347, 348, 349, 350, 617, 618, 353, 619, 620, 621, 622, 623, 624, 625, 626, 627, 628, 361, 362, 363, 364, 365, 366, 367, 890, 891, 892, 893, 894, 895, 896, 923, 924, 925, 926, 927, 916, 917, 918] (by decide +kernel) (by decide +kernel)) (goodIn_sub (fun _ h => List.mem_append_left _ (List.mem_append_left _ (List.mem_append_right _ h))) (by decide +kernel))) (goodIn_sub (fun _ h => List.mem_append_right _ h) (by decide +kernel))
set_option maxRecDepth 20000 in
theorem gL_law_L_addFeast : GoodIn wsL_law (va_wsS RL 131 yL_addFeast wsL_addFeast) := goodIn_app (goodIn_of _ (by decide +kernel)) ggL_law_L_addFeast
set_option maxRecDepth 20000 in
theorem ggL_law_X6_addFeast : GoodIn wsL_law wsX6_addFeast := goodIn_r _ [632, 90, 633, 70, 71, 634, 365, 366, 367, 91, 92, 5, 93, 94, 95, 96, 97, 897, 898, 899, 900, 901, 902, 903, 904, 905, 906, 907, 908, 909] (by decide +kernel) (by decide +kernel)
set_option maxRecDepth 20000 in
theorem gL_law_X6_addFeast : GoodIn wsL_law (wsV RL 134 RX6 yX6_addFeast wsX6_addFeast) := goodIn_app (goodIn_of _ (by decide +kernel)) ggL_law_X6_addFeast
set_option maxRecDepth 20000 in
theorem ggL_law_L_feast : GoodIn wsL_law wsL_feast := goodIn_ca (goodIn_ca (goodIn_r _ [637, 203, 77, 638, 639, 640, 2, 641, 208, 209, 82, 83, 28, 642, 582, 583, 584, 27, 585, 586, 147, 148, 149, 643, 644, 645, 646, 647, 648, 649, 650, 651, 449, 395, 450, 652, 653, 654, 655, 50, 656, 657, 658, 659, 16, 660, 661, 662, 20, 663, 664, 177, 178, 179, 15, 180, 34, 33, 181, 182, 183, 232, 233, 234, 19, 235, 39, 38, 236, 237, 238, 239, 890, 891, 892, 893, 894, 895, 896, 916, 917, 918, 923, 924, 925, 926, 927, 910, 911, 912, 913] (by decide +kernel) (by decide +kernel)) (goodIn_sub (fun _ h => List.mem_append_left _ (List.mem_append_right _ h)) (by decide +kernel))) (goodIn_sub (fun _ h => List.mem_append_left _ (List.mem_append_left _ (List.mem_append_right _ h))) (by decide +kernel))
set_option maxRecDepth 20000 in
theorem gL_law_L_feast : GoodIn wsL_law (va_wsS RL 135 yL_feast wsL_feast) := goodIn_app (goodIn_of _ (by decide +kernel)) ggL_law_L_feast
set_option maxRecDepth 20000 in
theorem ggL_law_X6_feast : GoodIn wsL_law wsX6_feast := goodIn_r _ [668, 90, 669, 670, 671, 5, 672, 633, 91, 92, 93, 94, 95, 96, 97, 158, 159, 160, 673, 674, 675, 676, 677, 678, 679, 680, 71, 192, 193, 194, 195, 196, 197, 198, 199, 161, 162, 163, 164, 66, 65, 188, 189, 190, 191, 260, 261, 262, 263, 264, 119, 67, 265, 266, 267, 268, 269, 270, 271, 272, 273, 274, 275, 276, 897, 898, 899, 900, 901, 902, 903, 904, 905, 906, 907, 908, 909] (by decide +kernel) (by decide +kernel)
set_option maxRecDepth 20000 in
theorem gL_law_X6_feast : GoodIn wsL_law (wsV RL 137 RX6 yX6_feast wsX6_feast) := goodIn_app (goodIn_of _ (by decide +kernel)) ggL_law_X6_feast
set_option maxRecDepth 20000 in
theorem ggL_law_L_clashes : GoodIn wsL_law wsL_clashes := goodIn_ca (goodIn_r _ [683, 77, 684, 685, 686, 2, 687, 82, 83, 28, 642, 147, 148, 149, 582, 583, 584, 27, 585, 586, 643, 644, 645, 646, 647, 648, 649, 650, 651, 449, 395, 450, 652, 653, 654, 655, 50, 656, 657, 658, 659, 16, 660, 661, 662, 20, 663, 664, 177, 178, 179, 15, 180, 34, 33, 181, 182, 183, 232, 233, 234, 19, 235, 39, 38, 236, 237, 238, 239, 688, 689, 690, 691, 890, 891, 892, 893, 894, 895, 896, 916, 917, 918, 923, 924, 925, 926, 927, 910, 911, 912, 913] (by decide +kernel) (by decide +kernel)) (goodIn_sub (fun _ h => List.mem_append_left _ (List.mem_append_left _ (List.mem_append_right _ h))) (by decide +kernel))
set_option maxRecDepth 20000 in
theorem gL_law_L_clashes : GoodIn wsL_law (va_wsS RL 138 yL_clashes wsL_clashes) := goodIn_app (goodIn_of _ (by decide +kernel)) ggL_law_L_clashes
