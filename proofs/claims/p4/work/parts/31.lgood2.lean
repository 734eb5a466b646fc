set_option maxRecDepth 20000 in
theorem ggL_law_X10_check : GoodIn wsL_law wsX10_check := goodIn_r _ [589, 183, 184, 590, 591, 153, 150, 151, 226, 227, 5, 228, 229, 230, 231, 232, 592, 593, 594, 595, 596, 152, 155, 597, 598, 599, 600, 601, 602, 603, 604, 605, 606, 607, 608, 609, 610, 611, 612, 514, 515, 516, 517, 518, 519, 520, 521, 522, 523, 524, 613, 526, 527, 528, 529, 530, 531, 532, 533, 534, 535, 536, 537, 538, 539, 540, 541, 542, 543, 544, 545, 546, 547, 548, 549, 550, 551, 552, 553, 554, 555, 556, 557, 558, 559, 560, 561, 614, 615, 616, 617, 141, 140, 138, 139, 149, 274, 275, 276, 277, 258, 881, 882, 883, 884, 885, 886, 887, 888, 889, 890, 891, 892, 893, 894, 895, 896, 897, 898, 899, 900, 901, 902, 903, 904, 905, 906, 907, 908, 909, 910, 911, 912, 913, 914, 915, 916, 917, 918, 919, 920, 921, 922, 923] (by decide +kernel) (by decide +kernel)
set_option maxRecDepth 20000 in
theorem gL_law_X10_check : GoodIn wsL_law (wsV RL 152 RX10 yX10_check wsX10_check) := goodIn_app (goodIn_of _ (by decide +kernel)) ggL_law_X10_check
set_option maxRecDepth 20000 in
theorem ggL_law_X9_fault : GoodIn wsL_law wsX9_fault := goodIn_r _ [621, 49, 870, 871, 872, 873, 874, 875, 876, 877, 878, 879, 880] (by decide +kernel) (by decide +kernel)
set_option maxRecDepth 20000 in
theorem gL_law_X9_fault : GoodIn wsL_law (wsV RL 153 RX9 yX9_fault wsX9_fault) := goodIn_app (goodIn_of _ (by decide +kernel)) ggL_law_X9_fault
set_option maxRecDepth 20000 in
theorem ggL_law_X10_fault : GoodIn wsL_law wsX10_fault := goodIn_r _ [625, 183, 153, 881, 882, 883, 884, 885, 886, 887, 888, 889, 890, 891, 892, 893, 894, 895, 896, 897, 898, 899, 900, 901, 902, 903, 904, 905, 906, 907, 908, 909, 910, 911, 912, 913, 914, 915, 916, 917, 918, 919, 920, 921, 922, 923] (by decide +kernel) (by decide +kernel)
set_option maxRecDepth 20000 in
theorem gL_law_X10_fault : GoodIn wsL_law (wsV RL 156 RX10 yX10_fault wsX10_fault) := goodIn_app (goodIn_of _ (by decide +kernel)) ggL_law_X10_fault
set_option maxRecDepth 20000 in
theorem ggL_law_L_notes : GoodIn wsL_law wsL_notes := goodIn_ca (goodIn_r _ [628, 240, 629, 630, 631, 2, 632, 40, 245, 246, 247, 248, 249, 870, 871, 872, 873, 874, 875, 876, 877, 878, 879, 880, 947, 948, 949] (by decide +kernel) (by decide +kernel)) (goodIn_sub (fun _ h => List.mem_append_left _ (List.mem_append_right _ h)) (by decide +kernel))
set_option maxRecDepth 20000 in
theorem gL_law_L_notes : GoodIn wsL_law (va_wsS RL 157 yL_notes wsL_notes) := goodIn_app (goodIn_of _ (by decide +kernel)) ggL_law_L_notes
set_option maxRecDepth 20000 in
theorem ggL_law_X10_notes : GoodIn wsL_law wsX10_notes := goodIn_r _ [636, 183, 151, 150, 226, 227, 5, 228, 229, 230, 231, 232, 881, 882, 883, 884, 885, 886, 887, 888, 889, 890, 891, 892, 893, 894, 895, 896, 897, 898, 899, 900, 901, 902, 903, 904, 905, 906, 907, 908, 909, 910, 911, 912, 913, 914, 915, 916, 917, 918, 919, 920, 921, 922, 923] (by decide +kernel) (by decide +kernel)
set_option maxRecDepth 20000 in
theorem gL_law_X10_notes : GoodIn wsL_law (wsV RL 160 RX10 yX10_notes wsX10_notes) := goodIn_app (goodIn_of _ (by decide +kernel)) ggL_law_X10_notes
set_option maxRecDepth 20000 in
theorem ggL_law_L_sherd : GoodIn wsL_law wsL_sherd := goodIn_ca (goodIn_ca (goodIn_ca (goodIn_r _ [639, 240, 201, 202, 640, 641, 642, 2, 643, 44, 207, 208, 209, 210, 211, 644, 645, 646, 245, 246, 247, 248, 249, 212, 213, 214, 215, 216, 647, 648, 649, 43, 650, 111, 115, 112, 113, 114, 870, 871, 872, 873, 874, 875, 876, 877, 878, 879, 880, 950, 951, 952, 953, 954] (by decide +kernel) (by decide +kernel)) (goodIn_sub (fun _ h => List.mem_append_left _ (List.mem_append_left _ (List.mem_append_left _ (List.mem_append_right _ h)))) (by decide +kernel))) (goodIn_sub (fun _ h => List.mem_append_left _ (List.mem_append_right _ h)) (by decide +kernel))) (goodIn_sub (fun _ h => List.mem_append_left _ (List.mem_append_left _ (List.mem_append_right _ h))) (by decide +kernel))
set_option maxRecDepth 20000 in
theorem gL_law_L_sherd : GoodIn wsL_law (va_wsS RL 161 yL_sherd wsL_sherd) := goodIn_app (goodIn_of _ (by decide +kernel)) ggL_law_L_sherd
set_option maxRecDepth 20000 in
theorem ggL_law_X10_sherd : GoodIn wsL_law wsX10_sherd := goodIn_r _ [654, 183, 655, 156, 157, 158, 656, 657, 5, 658, 226, 227, 228, 229, 230, 231, 232, 881, 882, 883, 884, 885, 886, 887, 888, 889, 890, 891, 892, 893, 894, 895, 896, 897, 898, 899, 900, 901, 902, 903, 904, 905, 906, 907, 908, 909, 910, 911, 912, 913, 914, 915, 916, 917, 918, 919, 920, 921, 922, 923] (by decide +kernel) (by decide +kernel)
set_option maxRecDepth 20000 in
theorem gL_law_X10_sherd : GoodIn wsL_law (wsV RL 163 RX10 yX10_sherd wsX10_sherd) := goodIn_app (goodIn_of _ (by decide +kernel)) ggL_law_X10_sherd
set_option maxRecDepth 20000 in
theorem ggL_law_L_join : GoodIn wsL_law wsL_join := goodIn_ca (goodIn_r _ [661, 240, 662, 663, 664, 2, 665, 44, 245, 246, 247, 248, 249, 666, 667, 668, 43, 669, 111, 670, 463, 464, 465, 671, 471, 472, 115, 112, 114, 672, 673, 674, 675, 113, 870, 871, 872, 873, 874, 875, 876, 877, 878, 879, 880, 950, 951, 952, 953, 954] (by decide +kernel) (by decide +kernel)) (goodIn_sub (fun _ h => List.mem_append_left _ (List.mem_append_right _ h)) (by decide +kernel))
set_option maxRecDepth 20000 in
theorem gL_law_L_join : GoodIn wsL_law (va_wsS RL 164 yL_join wsL_join) := goodIn_app (goodIn_of _ (by decide +kernel)) ggL_law_L_join
set_option maxRecDepth 20000 in
theorem ggL_law_X10_join : GoodIn wsL_law wsX10_join := goodIn_r _ [679, 183, 158, 680, 463, 464, 465, 470, 471, 472, 156, 655, 681, 682, 683, 5, 684, 226, 227, 228, 229, 230, 231, 232, 685, 686, 687, 688, 157, 881, 882, 883, 884, 885, 886, 887, 888, 889, 890, 891, 892, 893, 894, 895, 896, 897, 898, 899, 900, 901, 902, 903, 904, 905, 906, 907, 908, 909, 910, 911, 912, 913, 914, 915, 916, 917, 918, 919, 920, 921, 922, 923] (by decide +kernel) (by decide +kernel)
set_option maxRecDepth 20000 in
theorem gL_law_X10_join : GoodIn wsL_law (wsV RL 166 RX10 yX10_join wsX10_join) := goodIn_app (goodIn_of _ (by decide +kernel)) ggL_law_X10_join
set_option maxRecDepth 20000 in
theorem ggL_law_L_vessels : GoodIn wsL_law wsL_vessels := goodIn_ca (goodIn_r _ [691, 240, 692, 693, 694, 2, 695, 44, 644, 645, 646, 245, 246, 247, 248, 249, 696, 697, 698, 43, 699, 115, 111, 700, 701, 702, 703, 114, 870, 871, 872, 873, 874, 875, 876, 877, 878, 879, 880, 950, 951, 952, 953, 954] (by decide +kernel) (by decide +kernel)) (goodIn_sub (fun _ h => List.mem_append_left _ (List.mem_append_right _ h)) (by decide +kernel))
set_option maxRecDepth 20000 in
theorem gL_law_L_vessels : GoodIn wsL_law (va_wsS RL 167 yL_vessels wsL_vessels) := goodIn_app (goodIn_of _ (by decide +kernel)) ggL_law_L_vessels
set_option maxRecDepth 20000 in
theorem ggL_law_X10_vessels : GoodIn wsL_law wsX10_vessels := goodIn_r _ [707, 183, 655, 158, 656, 657, 5, 658, 226, 227, 228, 229, 230, 231, 232, 685, 686, 687, 688, 157, 881, 882, 883, 884, 885, 886, 887, 888, 889, 890, 891, 892, 893, 894, 895, 896, 897, 898, 899, 900, 901, 902, 903, 904, 905, 906, 907, 908, 909, 910, 911, 912, 913, 914, 915, 916, 917, 918, 919, 920, 921, 922, 923] (by decide +kernel) (by decide +kernel)
set_option maxRecDepth 20000 in
theorem gL_law_X10_vessels : GoodIn wsL_law (wsV RL 169 RX10 yX10_vessels wsX10_vessels) := goodIn_app (goodIn_of _ (by decide +kernel)) ggL_law_X10_vessels
set_option maxRecDepth 20000 in
theorem ggL_law_L_vessel : GoodIn wsL_law wsL_vessel := goodIn_ca (goodIn_ca (goodIn_r _ [710, 240, 402, 711, 712, 713, 2, 714, 407, 408, 44, 245, 246, 247, 248, 249, 870, 871, 872, 873, 874, 875, 876, 877, 878, 879, 880, 950, 951, 952, 953, 954] (by decide +kernel) (by decide +kernel)) (goodIn_sub (fun _ h => List.mem_append_right _ h) (by decide +kernel))) (goodIn_sub (fun _ h => List.mem_append_left _ (List.mem_append_right _ h)) (by decide +kernel))
set_option maxRecDepth 20000 in
theorem gL_law_L_vessel : GoodIn wsL_law (va_wsS RL 170 yL_vessel wsL_vessel) := goodIn_app (goodIn_of _ (by decide +kernel)) ggL_law_L_vessel
set_option maxRecDepth 20000 in
theorem ggL_law_X10_vessel : GoodIn wsL_law wsX10_vessel := goodIn_r _ [718, 183, 655, 158, 681, 682, 683, 5, 684, 226, 227, 228, 229, 230, 231, 232, 685, 686, 687, 688, 157, 881, 882, 883, 884, 885, 886, 887, 888, 889, 890, 891, 892, 893, 894, 895, 896, 897, 898, 899, 900, 901, 902, 903, 904, 905, 906, 907, 908, 909, 910, 911, 912, 913, 914, 915, 916, 917, 918, 919, 920, 921, 922, 923] (by decide +kernel) (by decide +kernel)
set_option maxRecDepth 20000 in
theorem gL_law_X10_vessel : GoodIn wsL_law (wsV RL 172 RX10 yX10_vessel wsX10_vessel) := goodIn_app (goodIn_of _ (by decide +kernel)) ggL_law_X10_vessel
set_option maxRecDepth 20000 in
theorem ggL_law_L_tell : GoodIn wsL_law wsL_tell := goodIn_ca (goodIn_ca (goodIn_ca (goodIn_r _ [721, 240, 201, 202, 722, 723, 724, 2, 725, 210, 211, 48, 50, 245, 246, 247, 248, 249, 207, 208, 209, 212, 213, 214, 215, 216, 726, 727, 728, 47, 729, 120, 128, 121, 122, 123, 124, 870, 871, 872, 873, 874, 875, 876, 877, 878, 879, 880, 955, 956, 957, 958, 959, 960, 961, 962, 963, 964] (by decide +kernel) (by decide +kernel)) (goodIn_sub (fun _ h => List.mem_append_left _ (List.mem_append_left _ (List.mem_append_left _ (List.mem_append_right _ h)))) (by decide +kernel))) (goodIn_sub (fun _ h => List.mem_append_left _ (List.mem_append_right _ h)) (by decide +kernel))) (goodIn_sub (fun _ h => List.mem_append_left _ (List.mem_append_left _ (List.mem_append_right _ h))) (by decide +kernel))
set_option maxRecDepth 20000 in
theorem gL_law_L_tell : GoodIn wsL_law (va_wsS RL 173 yL_tell wsL_tell) := goodIn_app (goodIn_of _ (by decide +kernel)) ggL_law_L_tell
set_option maxRecDepth 20000 in
theorem ggL_law_X10_tell : GoodIn wsL_law wsX10_tell := goodIn_r _ [733, 183, 656, 657, 5, 658, 226, 227, 228, 229, 230, 231, 232, 734, 735, 736, 737, 738, 159, 160, 161, 162, 739, 163, 881, 882, 883, 884, 885, 886, 887, 888, 889, 890, 891, 892, 893, 894, 895, 896, 897, 898, 899, 900, 901, 902, 903, 904, 905, 906, 907, 908, 909, 910, 911, 912, 913, 914, 915, 916, 917, 918, 919, 920, 921, 922, 923] (by decide +kernel) (by decide +kernel)
set_option maxRecDepth 20000 in
theorem gL_law_X10_tell : GoodIn wsL_law (wsV RL 175 RX10 yX10_tell wsX10_tell) := goodIn_app (goodIn_of _ (by decide +kernel)) ggL_law_X10_tell
