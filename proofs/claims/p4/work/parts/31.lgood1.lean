set_option maxRecDepth 20000 in
theorem ggL_law_L_load : GoodIn wsL_law wsL_load := goodIn_ca (goodIn_r _ [296, 240, 297, 298, 299, 2, 300, 28, 32, 245, 246, 247, 248, 249, 301, 302, 303, 304, 305, 306, 31, 307, 308, 309, 310, 311, 88, 90, 312, 313, 314, 315, 89, 316, 317, 318, 27, 319, 76, 77, 80, 320, 321, 322, 323, 324, 325, 326, 327, 328, 329, 330, 331, 81, 82, 870, 871, 872, 873, 874, 875, 876, 877, 878, 879, 880, 931, 932, 933, 934, 935, 936, 937, 938, 939, 940, 941, 942, 927, 928, 929, 930] (by decide +kernel) (by decide +kernel)) (goodIn_sub (fun _ h => List.mem_append_left _ (List.mem_append_right _ h)) (by decide +kernel))
set_option maxRecDepth 20000 in
theorem gL_law_L_load : GoodIn wsL_law (va_wsS RL 127 yL_load wsL_load) := goodIn_app (goodIn_of _ (by decide +kernel)) ggL_law_L_load
set_option maxRecDepth 20000 in
theorem ggL_law_X10_load : GoodIn wsL_law wsX10_load := goodIn_r _ [335, 183, 141, 144, 136, 137, 143, 142, 274, 275, 276, 5, 277, 258, 226, 227, 228, 336, 337, 338, 339, 293, 229, 230, 231, 232, 340, 341, 342, 343, 344, 345, 346, 347, 134, 140, 881, 882, 883, 884, 885, 886, 887, 888, 889, 890, 891, 892, 893, 894, 895, 896, 897, 898, 899, 900, 901, 902, 903, 904, 905, 906, 907, 908, 909, 910, 911, 912, 913, 914, 915, 916, 917, 918, 919, 920, 921, 922, 923] (by decide +kernel) (by decide +kernel)
set_option maxRecDepth 20000 in
theorem gL_law_X10_load : GoodIn wsL_law (wsV RL 129 RX10 yX10_load wsX10_load) := goodIn_app (goodIn_of _ (by decide +kernel)) ggL_law_X10_load
set_option maxRecDepth 20000 in
theorem ggL_law_L_land : GoodIn wsL_law wsL_land := goodIn_ca (goodIn_r _ [350, 240, 351, 352, 353, 2, 354, 32, 301, 302, 303, 304, 245, 246, 247, 248, 249, 305, 306, 31, 307, 355, 356, 357, 358, 90, 88, 359, 360, 361, 362, 89, 328, 329, 330, 27, 331, 81, 82, 870, 871, 872, 873, 874, 875, 876, 877, 878, 879, 880, 939, 940, 941, 942, 931, 932, 933, 934, 935, 936, 937, 938] (by decide +kernel) (by decide +kernel)) (goodIn_sub (fun _ h => List.mem_append_left _ (List.mem_append_right _ h)) (by decide +kernel))
set_option maxRecDepth 20000 in
theorem gL_law_L_land : GoodIn wsL_law (va_wsS RL 130 yL_land wsL_land) := goodIn_app (goodIn_of _ (by decide +kernel)) ggL_law_L_land
set_option maxRecDepth 20000 in
theorem ggL_law_X10_land : GoodIn wsL_law wsX10_land := goodIn_r _ [366, 183, 144, 143, 141, 142, 336, 337, 338, 5, 339, 293, 226, 227, 228, 229, 230, 231, 232, 881, 882, 883, 884, 885, 886, 887, 888, 889, 890, 891, 892, 893, 894, 895, 896, 897, 898, 899, 900, 901, 902, 903, 904, 905, 906, 907, 908, 909, 910, 911, 912, 913, 914, 915, 916, 917, 918, 919, 920, 921, 922, 923] (by decide +kernel) (by decide +kernel)
set_option maxRecDepth 20000 in
theorem gL_law_X10_land : GoodIn wsL_law (wsV RL 132 RX10 yX10_land wsX10_land) := goodIn_app (goodIn_of _ (by decide +kernel)) ggL_law_X10_land
set_option maxRecDepth 20000 in
theorem ggL_law_L_storm : GoodIn wsL_law wsL_storm := goodIn_ca (goodIn_ca (goodIn_r _ [369, 240, 201, 370, 371, 372, 2, 373, 32, 245, 246, 247, 248, 249, 207, 208, 209, 210, 211, 374, 375, 376, 31, 377, 90, 378, 306, 307, 379, 380, 381, 382, 89, 88, 383, 384, 385, 386, 320, 321, 322, 27, 323, 76, 77, 328, 329, 330, 331, 81, 82, 316, 317, 318, 319, 80, 387, 388, 389, 390, 324, 325, 326, 327, 870, 871, 872, 873, 874, 875, 876, 877, 878, 879, 880, 939, 940, 941, 942, 931, 932, 933, 934, 935, 936, 937, 938, 927, 928, 929, 930] (by decide +kernel) (by decide +kernel)) (goodIn_sub (fun _ h => List.mem_append_left _ (List.mem_append_right _ h)) (by decide +kernel))) (goodIn_sub (fun _ h => List.mem_append_left _ (List.mem_append_left _ (List.mem_append_left _ (List.mem_append_right _ h)))) (by decide +kernel))
set_option maxRecDepth 20000 in
theorem gL_law_L_storm : GoodIn wsL_law (va_wsS RL 133 yL_storm wsL_storm) := goodIn_app (goodIn_of _ (by decide +kernel)) ggL_law_L_storm
set_option maxRecDepth 20000 in
theorem ggL_law_X10_storm : GoodIn wsL_law wsX10_storm := goodIn_r _ [394, 183, 293, 226, 227, 5, 228, 229, 230, 231, 232, 395, 396, 397, 398, 144, 136, 137, 143, 146, 141, 142, 340, 341, 342, 343, 344, 345, 346, 347, 134, 140, 881, 882, 883, 884, 885, 886, 887, 888, 889, 890, 891, 892, 893, 894, 895, 896, 897, 898, 899, 900, 901, 902, 903, 904, 905, 906, 907, 908, 909, 910, 911, 912, 913, 914, 915, 916, 917, 918, 919, 920, 921, 922, 923] (by decide +kernel) (by decide +kernel)
set_option maxRecDepth 20000 in
theorem gL_law_X10_storm : GoodIn wsL_law (wsV RL 135 RX10 yX10_storm wsX10_storm) := goodIn_app (goodIn_of _ (by decide +kernel)) ggL_law_X10_storm
set_option maxRecDepth 20000 in
theorem ggL_law_L_look : GoodIn wsL_law wsL_look := goodIn_ca (goodIn_ca (goodIn_r _ [401, 240, 402, 403, 404, 405, 2, 406, 407, 408, 28, 32, 245, 246, 247, 248, 249, 409, 317, 318, 27, 319, 76, 77, 80, 410, 411, 31, 412, 413, 414, 415, 416, 417, 418, 419, 88, 90, 89, 316, 870, 871, 872, 873, 874, 875, 876, 877, 878, 879, 880, 931, 932, 933, 934, 935, 936, 937, 938, 927, 928, 929, 930, 939, 940, 941, 942] (by decide +kernel) (by decide +kernel)) (goodIn_sub (fun _ h => List.mem_append_right _ h) (by decide +kernel))) (goodIn_sub (fun _ h => List.mem_append_left _ (List.mem_append_right _ h)) (by decide +kernel))
set_option maxRecDepth 20000 in
theorem gL_law_L_look : GoodIn wsL_law (va_wsS RL 136 yL_look wsL_look) := goodIn_app (goodIn_of _ (by decide +kernel)) ggL_law_L_look
set_option maxRecDepth 20000 in
theorem ggL_law_X10_look : GoodIn wsL_law wsX10_look := goodIn_r _ [423, 183, 141, 137, 138, 139, 140, 142, 143, 274, 275, 276, 5, 277, 258, 226, 227, 228, 229, 230, 231, 232, 344, 345, 346, 347, 134, 340, 341, 342, 343, 144, 881, 882, 883, 884, 885, 886, 887, 888, 889, 890, 891, 892, 893, 894, 895, 896, 897, 898, 899, 900, 901, 902, 903, 904, 905, 906, 907, 908, 909, 910, 911, 912, 913, 914, 915, 916, 917, 918, 919, 920, 921, 922, 923] (by decide +kernel) (by decide +kernel)
set_option maxRecDepth 20000 in
theorem gL_law_X10_look : GoodIn wsL_law (wsV RL 138 RX10 yX10_look wsX10_look) := goodIn_app (goodIn_of _ (by decide +kernel)) ggL_law_X10_look
set_option maxRecDepth 20000 in
theorem ggL_law_L_stack : GoodIn wsL_law wsL_stack := goodIn_ca (goodIn_r _ [426, 240, 427, 428, 429, 2, 430, 32, 301, 302, 303, 304, 245, 246, 247, 248, 249, 305, 306, 31, 307, 431, 360, 361, 362, 90, 89, 870, 871, 872, 873, 874, 875, 876, 877, 878, 879, 880, 939, 940, 941, 942] (by decide +kernel) (by decide +kernel)) (goodIn_sub (fun _ h => List.mem_append_left _ (List.mem_append_right _ h)) (by decide +kernel))
set_option maxRecDepth 20000 in
theorem gL_law_L_stack : GoodIn wsL_law (va_wsS RL 139 yL_stack wsL_stack) := goodIn_app (goodIn_of _ (by decide +kernel)) ggL_law_L_stack
set_option maxRecDepth 20000 in
theorem ggL_law_X10_stack : GoodIn wsL_law wsX10_stack := goodIn_r _ [435, 183, 144, 143, 336, 337, 338, 5, 339, 293, 226, 227, 228, 229, 230, 231, 232, 881, 882, 883, 884, 885, 886, 887, 888, 889, 890, 891, 892, 893, 894, 895, 896, 897, 898, 899, 900, 901, 902, 903, 904, 905, 906, 907, 908, 909, 910, 911, 912, 913, 914, 915, 916, 917, 918, 919, 920, 921, 922, 923] (by decide +kernel) (by decide +kernel)
set_option maxRecDepth 20000 in
theorem gL_law_X10_stack : GoodIn wsL_law (wsV RL 141 RX10 yX10_stack wsX10_stack) := goodIn_app (goodIn_of _ (by decide +kernel)) ggL_law_X10_stack
set_option maxRecDepth 20000 in
theorem ggL_law_L_tallest : GoodIn wsL_law wsL_tallest := goodIn_ca (goodIn_r _ [438, 201, 439, 440, 441, 2, 442, 36, 443, 444, 445, 35, 446, 99, 96, 447, 448, 449, 450, 97, 451, 452, 453, 454, 455, 317, 318, 27, 319, 76, 77, 80, 456, 321, 322, 323, 207, 208, 209, 210, 211, 457, 458, 459, 460, 98, 461, 462, 463, 464, 465, 870, 871, 872, 873, 874, 875, 876, 877, 878, 879, 880, 943, 944, 945, 946, 931, 932, 933, 934, 935, 936, 937, 938, 927, 928, 929, 930] (by decide +kernel) (by decide +kernel)) (goodIn_sub (fun _ h => List.mem_append_left _ (List.mem_append_left _ (List.mem_append_left _ (List.mem_append_right _ h)))) (by decide +kernel))
set_option maxRecDepth 20000 in
theorem gL_law_L_tallest : GoodIn wsL_law (va_wsS RL 142 yL_tallest wsL_tallest) := goodIn_app (goodIn_of _ (by decide +kernel)) ggL_law_L_tallest
set_option maxRecDepth 20000 in
theorem ggL_law_X10_tallest : GoodIn wsL_law wsX10_tallest := goodIn_r _ [469, 183, 258, 141, 148, 147, 136, 137, 470, 471, 464, 472, 229, 230, 231, 5, 232, 344, 345, 346, 347, 134, 140, 473, 474, 475, 476, 477, 478, 479, 881, 882, 883, 884, 885, 886, 887, 888, 889, 890, 891, 892, 893, 894, 895, 896, 897, 898, 899, 900, 901, 902, 903, 904, 905, 906, 907, 908, 909, 910, 911, 912, 913, 914, 915, 916, 917, 918, 919, 920, 921, 922, 923] (by decide +kernel) (by decide +kernel)
set_option maxRecDepth 20000 in
theorem gL_law_X10_tallest : GoodIn wsL_law (wsV RL 145 RX10 yX10_tallest wsX10_tallest) := goodIn_app (goodIn_of _ (by decide +kernel)) ggL_law_X10_tallest
set_option maxRecDepth 20000 in
theorem ggL_law_L_rate : GoodIn wsL_law wsL_rate := goodIn_ca (goodIn_ca (goodIn_r _ [482, 240, 201, 483, 484, 485, 2, 486, 40, 245, 246, 247, 248, 249, 207, 208, 209, 210, 211, 870, 871, 872, 873, 874, 875, 876, 877, 878, 879, 880, 947, 948, 949] (by decide +kernel) (by decide +kernel)) (goodIn_sub (fun _ h => List.mem_append_left _ (List.mem_append_right _ h)) (by decide +kernel))) (goodIn_sub (fun _ h => List.mem_append_left _ (List.mem_append_left _ (List.mem_append_left _ (List.mem_append_right _ h)))) (by decide +kernel))
set_option maxRecDepth 20000 in
theorem gL_law_L_rate : GoodIn wsL_law (va_wsS RL 146 yL_rate wsL_rate) := goodIn_app (goodIn_of _ (by decide +kernel)) ggL_law_L_rate
set_option maxRecDepth 20000 in
theorem ggL_law_X10_rate : GoodIn wsL_law wsX10_rate := goodIn_r _ [490, 183, 149, 226, 227, 5, 228, 229, 230, 231, 232, 881, 882, 883, 884, 885, 886, 887, 888, 889, 890, 891, 892, 893, 894, 895, 896, 897, 898, 899, 900, 901, 902, 903, 904, 905, 906, 907, 908, 909, 910, 911, 912, 913, 914, 915, 916, 917, 918, 919, 920, 921, 922, 923] (by decide +kernel) (by decide +kernel)
set_option maxRecDepth 20000 in
theorem gL_law_X10_rate : GoodIn wsL_law (wsV RL 149 RX10 yX10_rate wsX10_rate) := goodIn_app (goodIn_of _ (by decide +kernel)) ggL_law_X10_rate
set_option maxRecDepth 20000 in
theorem ggL_law_L_check : GoodIn wsL_law wsL_check := goodIn_ca (goodIn_ca (goodIn_r _ [493, 240, 201, 494, 495, 496, 2, 497, 210, 211, 20, 16, 49, 40, 498, 499, 500, 19, 501, 63, 502, 503, 504, 15, 505, 57, 56, 506, 507, 508, 509, 510, 511, 512, 513, 514, 515, 516, 517, 518, 519, 520, 521, 522, 523, 524, 525, 526, 527, 528, 529, 530, 531, 532, 533, 534, 535, 536, 537, 538, 539, 540, 541, 542, 543, 544, 545, 546, 547, 548, 549, 550, 551, 552, 553, 554, 555, 556, 557, 558, 559, 560, 561, 562, 563, 564, 565, 566, 567, 568, 569, 570, 571, 572, 573, 245, 246, 247, 248, 249, 574, 575, 576, 577, 28, 578, 579, 580, 39, 581, 104, 582, 583, 584, 585, 105, 106, 870, 871, 872, 873, 874, 875, 876, 877, 878, 879, 880, 926, 924, 925, 931, 932, 933, 934, 935, 936, 937, 938, 947, 948, 949] (by decide +kernel) (by decide +kernel)) (goodIn_sub (fun _ h => List.mem_append_left _ (List.mem_append_left _ (List.mem_append_left _ (List.mem_append_right _ h)))) (by decide +kernel))) (goodIn_sub (fun _ h => List.mem_append_left _ (List.mem_append_right _ h)) (by decide +kernel))
set_option maxRecDepth 20000 in
theorem gL_law_L_check : GoodIn wsL_law (va_wsS RL 150 yL_check wsL_check) := goodIn_app (goodIn_of _ (by decide +kernel)) ggL_law_L_check
