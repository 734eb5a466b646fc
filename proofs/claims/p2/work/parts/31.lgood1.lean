set_option maxRecDepth 20000 in
theorem ggL_law_X10_load : GoodIn wsL_law wsX10_load := goodIn_r _ [331, 183, 141, 144, 136, 137, 143, 142, 270, 271, 272, 5, 273, 254, 226, 227, 228, 332, 333, 334, 335, 289, 229, 230, 231, 232, 336, 337, 338, 339, 340, 341, 342, 343, 134, 140, 877, 878, 879, 880, 881, 882, 883, 884, 885, 886, 887, 888, 889, 890, 891, 892, 893, 894, 895, 896, 897, 898, 899, 900, 901, 902, 903, 904, 905, 906, 907, 908, 909, 910, 911, 912, 913, 914, 915, 916, 917, 918, 919] (by decide +kernel) (by decide +kernel)
set_option maxRecDepth 20000 in
theorem gL_law_X10_load : GoodIn wsL_law (wsV RL 126 RX10 yX10_load wsX10_load) := goodIn_app (goodIn_of _ (by decide +kernel)) ggL_law_X10_load
set_option maxRecDepth 20000 in
theorem ggL_law_L_land : GoodIn wsL_law wsL_land := goodIn_ca (goodIn_r _ [346, 236, 347, 348, 349, 2, 350, 32, 297, 298, 299, 300, 241, 242, 243, 244, 245, 301, 302, 31, 303, 351, 352, 353, 354, 90, 88, 355, 356, 357, 358, 89, 324, 325, 326, 27, 327, 81, 82, 866, 867, 868, 869, 870, 871, 872, 873, 874, 875, 876, 935, 936, 937, 938, 927, 928, 929, 930, 931, 932, 933, 934] (by decide +kernel) (by decide +kernel)) (goodIn_sub (fun _ h => List.mem_append_left _ (List.mem_append_right _ h)) (by decide +kernel))
set_option maxRecDepth 20000 in
theorem gL_law_L_land : GoodIn wsL_law (va_wsS RL 127 yL_land wsL_land) := goodIn_app (goodIn_of _ (by decide +kernel)) ggL_law_L_land
set_option maxRecDepth 20000 in
theorem ggL_law_X10_land : GoodIn wsL_law wsX10_land := goodIn_r _ [362, 183, 144, 143, 141, 142, 332, 333, 334, 5, 335, 289, 226, 227, 228, 229, 230, 231, 232, 877, 878, 879, 880, 881, 882, 883, 884, 885, 886, 887, 888, 889, 890, 891, 892, 893, 894, 895, 896, 897, 898, 899, 900, 901, 902, 903, 904, 905, 906, 907, 908, 909, 910, 911, 912, 913, 914, 915, 916, 917, 918, 919] (by decide +kernel) (by decide +kernel)
set_option maxRecDepth 20000 in
theorem gL_law_X10_land : GoodIn wsL_law (wsV RL 129 RX10 yX10_land wsX10_land) := goodIn_app (goodIn_of _ (by decide +kernel)) ggL_law_X10_land
set_option maxRecDepth 20000 in
theorem ggL_law_L_storm : GoodIn wsL_law wsL_storm := goodIn_ca (goodIn_ca (goodIn_r _ [365, 236, 201, 366, 367, 368, 2, 369, 32, 241, 242, 243, 244, 245, 207, 208, 209, 210, 211, 370, 371, 372, 31, 373, 90, 374, 302, 303, 375, 376, 377, 378, 89, 88, 379, 380, 381, 382, 316, 317, 318, 27, 319, 76, 77, 324, 325, 326, 327, 81, 82, 312, 313, 314, 315, 80, 383, 384, 385, 386, 320, 321, 322, 323, 866, 867, 868, 869, 870, 871, 872, 873, 874, 875, 876, 935, 936, 937, 938, 927, 928, 929, 930, 931, 932, 933, 934, 923, 924, 925, 926] (by decide +kernel) (by decide +kernel)) (goodIn_sub (fun _ h => List.mem_append_left _ (List.mem_append_right _ h)) (by decide +kernel))) (goodIn_sub (fun _ h => List.mem_append_left _ (List.mem_append_left _ (List.mem_append_left _ (List.mem_append_right _ h)))) (by decide +kernel))
set_option maxRecDepth 20000 in
theorem gL_law_L_storm : GoodIn wsL_law (va_wsS RL 130 yL_storm wsL_storm) := goodIn_app (goodIn_of _ (by decide +kernel)) ggL_law_L_storm
set_option maxRecDepth 20000 in
theorem ggL_law_X10_storm : GoodIn wsL_law wsX10_storm := goodIn_r _ [390, 183, 289, 226, 227, 5, 228, 229, 230, 231, 232, 391, 392, 393, 394, 144, 136, 137, 143, 146, 141, 142, 336, 337, 338, 339, 340, 341, 342, 343, 134, 140, 877, 878, 879, 880, 881, 882, 883, 884, 885, 886, 887, 888, 889, 890, 891, 892, 893, 894, 895, 896, 897, 898, 899, 900, 901, 902, 903, 904, 905, 906, 907, 908, 909, 910, 911, 912, 913, 914, 915, 916, 917, 918, 919] (by decide +kernel) (by decide +kernel)
set_option maxRecDepth 20000 in
theorem gL_law_X10_storm : GoodIn wsL_law (wsV RL 132 RX10 yX10_storm wsX10_storm) := goodIn_app (goodIn_of _ (by decide +kernel)) ggL_law_X10_storm
set_option maxRecDepth 20000 in
theorem ggL_law_L_look : GoodIn wsL_law wsL_look := goodIn_ca (goodIn_ca (goodIn_r _ [397, 236, 398, 399, 400, 401, 2, 402, 403, 404, 28, 32, 241, 242, 243, 244, 245, 405, 313, 314, 27, 315, 76, 77, 80, 406, 407, 31, 408, 409, 410, 411, 412, 413, 414, 415, 88, 90, 89, 312, 866, 867, 868, 869, 870, 871, 872, 873, 874, 875, 876, 927, 928, 929, 930, 931, 932, 933, 934, 923, 924, 925, 926, 935, 936, 937, 938] (by decide +kernel) (by decide +kernel)) (goodIn_sub (fun _ h => List.mem_append_right _ h) (by decide +kernel))) (goodIn_sub (fun _ h => List.mem_append_left _ (List.mem_append_right _ h)) (by decide +kernel))
set_option maxRecDepth 20000 in
theorem gL_law_L_look : GoodIn wsL_law (va_wsS RL 133 yL_look wsL_look) := goodIn_app (goodIn_of _ (by decide +kernel)) ggL_law_L_look
set_option maxRecDepth 20000 in
theorem ggL_law_X10_look : GoodIn wsL_law wsX10_look := goodIn_r _ [419, 183, 141, 137, 138, 139, 140, 142, 143, 270, 271, 272, 5, 273, 254, 226, 227, 228, 229, 230, 231, 232, 340, 341, 342, 343, 134, 336, 337, 338, 339, 144, 877, 878, 879, 880, 881, 882, 883, 884, 885, 886, 887, 888, 889, 890, 891, 892, 893, 894, 895, 896, 897, 898, 899, 900, 901, 902, 903, 904, 905, 906, 907, 908, 909, 910, 911, 912, 913, 914, 915, 916, 917, 918, 919] (by decide +kernel) (by decide +kernel)
set_option maxRecDepth 20000 in
theorem gL_law_X10_look : GoodIn wsL_law (wsV RL 135 RX10 yX10_look wsX10_look) := goodIn_app (goodIn_of _ (by decide +kernel)) ggL_law_X10_look
set_option maxRecDepth 20000 in
theorem ggL_law_L_stack : GoodIn wsL_law wsL_stack := goodIn_ca (goodIn_r _ [422, 236, 423, 424, 425, 2, 426, 32, 297, 298, 299, 300, 241, 242, 243, 244, 245, 301, 302, 31, 303, 427, 356, 357, 358, 90, 89, 866, 867, 868, 869, 870, 871, 872, 873, 874, 875, 876, 935, 936, 937, 938] (by decide +kernel) (by decide +kernel)) (goodIn_sub (fun _ h => List.mem_append_left _ (List.mem_append_right _ h)) (by decide +kernel))
set_option maxRecDepth 20000 in
theorem gL_law_L_stack : GoodIn wsL_law (va_wsS RL 136 yL_stack wsL_stack) := goodIn_app (goodIn_of _ (by decide +kernel)) ggL_law_L_stack
set_option maxRecDepth 20000 in
theorem ggL_law_X10_stack : GoodIn wsL_law wsX10_stack := goodIn_r _ [431, 183, 144, 143, 332, 333, 334, 5, 335, 289, 226, 227, 228, 229, 230, 231, 232, 877, 878, 879, 880, 881, 882, 883, 884, 885, 886, 887, 888, 889, 890, 891, 892, 893, 894, 895, 896, 897, 898, 899, 900, 901, 902, 903, 904, 905, 906, 907, 908, 909, 910, 911, 912, 913, 914, 915, 916, 917, 918, 919] (by decide +kernel) (by decide +kernel)
set_option maxRecDepth 20000 in
theorem gL_law_X10_stack : GoodIn wsL_law (wsV RL 138 RX10 yX10_stack wsX10_stack) := goodIn_app (goodIn_of _ (by decide +kernel)) ggL_law_X10_stack
set_option maxRecDepth 20000 in
theorem ggL_law_L_tallest : GoodIn wsL_law wsL_tallest := goodIn_ca (goodIn_r _ [434, 201, 435, 436, 437, 2, 438, 36, 439, 440, 441, 35, 442, 99, 96, 443, 444, 445, 446, 97, 447, 448, 449, 450, 451, 313, 314, 27, 315, 76, 77, 80, 452, 317, 318, 319, 207, 208, 209, 210, 211, 453, 454, 455, 456, 98, 457, 458, 459, 460, 461, 866, 867, 868, 869, 870, 871, 872, 873, 874, 875, 876, 939, 940, 941, 942, 927, 928, 929, 930, 931, 932, 933, 934, 923, 924, 925, 926] (by decide +kernel) (by decide +kernel)) (goodIn_sub (fun _ h => List.mem_append_left _ (List.mem_append_left _ (List.mem_append_left _ (List.mem_append_right _ h)))) (by decide +kernel))
set_option maxRecDepth 20000 in
theorem gL_law_L_tallest : GoodIn wsL_law (va_wsS RL 139 yL_tallest wsL_tallest) := goodIn_app (goodIn_of _ (by decide +kernel)) ggL_law_L_tallest
set_option maxRecDepth 20000 in
theorem ggL_law_X10_tallest : GoodIn wsL_law wsX10_tallest := goodIn_r _ [465, 183, 254, 141, 148, 147, 136, 137, 466, 467, 460, 468, 229, 230, 231, 5, 232, 340, 341, 342, 343, 134, 140, 469, 470, 471, 472, 473, 474, 475, 877, 878, 879, 880, 881, 882, 883, 884, 885, 886, 887, 888, 889, 890, 891, 892, 893, 894, 895, 896, 897, 898, 899, 900, 901, 902, 903, 904, 905, 906, 907, 908, 909, 910, 911, 912, 913, 914, 915, 916, 917, 918, 919] (by decide +kernel) (by decide +kernel)
set_option maxRecDepth 20000 in
theorem gL_law_X10_tallest : GoodIn wsL_law (wsV RL 142 RX10 yX10_tallest wsX10_tallest) := goodIn_app (goodIn_of _ (by decide +kernel)) ggL_law_X10_tallest
set_option maxRecDepth 20000 in
theorem ggL_law_L_rate : GoodIn wsL_law wsL_rate := goodIn_ca (goodIn_ca (goodIn_r _ [478, 236, 201, 479, 480, 481, 2, 482, 40, 241, 242, 243, 244, 245, 207, 208, 209, 210, 211, 866, 867, 868, 869, 870, 871, 872, 873, 874, 875, 876, 943, 944, 945] (by decide +kernel) (by decide +kernel)) (goodIn_sub (fun _ h => List.mem_append_left _ (List.mem_append_right _ h)) (by decide +kernel))) (goodIn_sub (fun _ h => List.mem_append_left _ (List.mem_append_left _ (List.mem_append_left _ (List.mem_append_right _ h)))) (by decide +kernel))
set_option maxRecDepth 20000 in
theorem gL_law_L_rate : GoodIn wsL_law (va_wsS RL 143 yL_rate wsL_rate) := goodIn_app (goodIn_of _ (by decide +kernel)) ggL_law_L_rate
set_option maxRecDepth 20000 in
theorem ggL_law_X10_rate : GoodIn wsL_law wsX10_rate := goodIn_r _ [486, 183, 149, 226, 227, 5, 228, 229, 230, 231, 232, 877, 878, 879, 880, 881, 882, 883, 884, 885, 886, 887, 888, 889, 890, 891, 892, 893, 894, 895, 896, 897, 898, 899, 900, 901, 902, 903, 904, 905, 906, 907, 908, 909, 910, 911, 912, 913, 914, 915, 916, 917, 918, 919] (by decide +kernel) (by decide +kernel)
set_option maxRecDepth 20000 in
theorem gL_law_X10_rate : GoodIn wsL_law (wsV RL 146 RX10 yX10_rate wsX10_rate) := goodIn_app (goodIn_of _ (by decide +kernel)) ggL_law_X10_rate
set_option maxRecDepth 20000 in
theorem ggL_law_L_check : GoodIn wsL_law wsL_check := goodIn_ca (goodIn_ca (goodIn_r _ [489, 236, 201, 490, 491, 492, 2, 493, 210, 211, 20, 16, 49, 40, 494, 495, 496, 19, 497, 63, 498, 499, 500, 15, 501, 57, 56, 502, 503, 504, 505, 506, 507, 508, 509, 510, 511, 512, 513, 514, 515, 516, 517, 518, 519, 520, 521, 522, 523, 524, 525, 526, 527, 528, 529, 530, 531, 532, 533, 534, 535, 536, 537, 538, 539, 540, 541, 542, 543, 544, 545, 546, 547, 548, 549, 550, 551, 552, 553, 554, 555, 556, 557, 558, 559, 560, 561, 562, 563, 564, 565, 566, 567, 568, 569, 241, 242, 243, 244, 245, 570, 571, 572, 573, 28, 574, 575, 576, 39, 577, 104, 578, 579, 580, 581, 105, 106, 866, 867, 868, 869, 870, 871, 872, 873, 874, 875, 876, 922, 920, 921, 927, 928, 929, 930, 931, 932, 933, 934, 943, 944, 945] (by decide +kernel) (by decide +kernel)) (goodIn_sub (fun _ h => List.mem_append_left _ (List.mem_append_left _ (List.mem_append_left _ (List.mem_append_right _ h)))) (by decide +kernel))) (goodIn_sub (fun _ h => List.mem_append_left _ (List.mem_append_right _ h)) (by decide +kernel))
set_option maxRecDepth 20000 in
theorem gL_law_L_check : GoodIn wsL_law (va_wsS RL 147 yL_check wsL_check) := goodIn_app (goodIn_of _ (by decide +kernel)) ggL_law_L_check
set_option maxRecDepth 20000 in
theorem ggL_law_X10_check : GoodIn wsL_law wsX10_check := goodIn_r _ [585, 183, 184, 586, 587, 153, 150, 151, 226, 227, 5, 228, 229, 230, 231, 232, 588, 589, 590, 591, 592, 152, 155, 593, 594, 595, 596, 597, 598, 599, 600, 601, 602, 603, 604, 605, 606, 607, 608, 510, 511, 512, 513, 514, 515, 516, 517, 518, 519, 520, 609, 522, 523, 524, 525, 526, 527, 528, 529, 530, 531, 532, 533, 534, 535, 536, 537, 538, 539, 540, 541, 542, 543, 544, 545, 546, 547, 548, 549, 550, 551, 552, 553, 554, 555, 556, 557, 610, 611, 612, 613, 141, 140, 138, 139, 149, 270, 271, 272, 273, 254, 877, 878, 879, 880, 881, 882, 883, 884, 885, 886, 887, 888, 889, 890, 891, 892, 893, 894, 895, 896, 897, 898, 899, 900, 901, 902, 903, 904, 905, 906, 907, 908, 909, 910, 911, 912, 913, 914, 915, 916, 917, 918, 919] (by decide +kernel) (by decide +kernel)
set_option maxRecDepth 20000 in
theorem gL_law_X10_check : GoodIn wsL_law (wsV RL 149 RX10 yX10_check wsX10_check) := goodIn_app (goodIn_of _ (by decide +kernel)) ggL_law_X10_check
