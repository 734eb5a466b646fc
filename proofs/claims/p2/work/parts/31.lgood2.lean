set_option maxRecDepth 20000 in
theorem ggL_law_X9_fault : GoodIn wsL_law wsX9_fault := goodIn_r _ [617, 49, 866, 867, 868, 869, 870, 871, 872, 873, 874, 875, 876] (by decide +kernel) (by decide +kernel)
set_option maxRecDepth 20000 in
theorem gL_law_X9_fault : GoodIn wsL_law (wsV RL 150 RX9 yX9_fault wsX9_fault) := goodIn_app (goodIn_of _ (by decide +kernel)) ggL_law_X9_fault
set_option maxRecDepth 20000 in
theorem ggL_law_X10_fault : GoodIn wsL_law wsX10_fault := goodIn_r _ [621, 183, 153, 877, 878, 879, 880, 881, 882, 883, 884, 885, 886, 887, 888, 889, 890, 891, 892, 893, 894, 895, 896, 897, 898, 899, 900, 901, 902, 903, 904, 905, 906, 907, 908, 909, 910, 911, 912, 913, 914, 915, 916, 917, 918, 919] (by decide +kernel) (by decide +kernel)
set_option maxRecDepth 20000 in
theorem gL_law_X10_fault : GoodIn wsL_law (wsV RL 153 RX10 yX10_fault wsX10_fault) := goodIn_app (goodIn_of _ (by decide +kernel)) ggL_law_X10_fault
set_option maxRecDepth 20000 in
theorem ggL_law_L_notes : GoodIn wsL_law wsL_notes := goodIn_ca (goodIn_r _ [624, 236, 625, 626, 627, 2, 628, 40, 241, 242, 243, 244, 245, 866, 867, 868, 869, 870, 871, 872, 873, 874, 875, 876, 943, 944, 945] (by decide +kernel) (by decide +kernel)) (goodIn_sub (fun _ h => List.mem_append_left _ (List.mem_append_right _ h)) (by decide +kernel))
set_option maxRecDepth 20000 in
theorem gL_law_L_notes : GoodIn wsL_law (va_wsS RL 154 yL_notes wsL_notes) := goodIn_app (goodIn_of _ (by decide +kernel)) ggL_law_L_notes
set_option maxRecDepth 20000 in
theorem ggL_law_X10_notes : GoodIn wsL_law wsX10_notes := goodIn_r _ [632, 183, 151, 150, 226, 227, 5, 228, 229, 230, 231, 232, 877, 878, 879, 880, 881, 882, 883, 884, 885, 886, 887, 888, 889, 890, 891, 892, 893, 894, 895, 896, 897, 898, 899, 900, 901, 902, 903, 904, 905, 906, 907, 908, 909, 910, 911, 912, 913, 914, 915, 916, 917, 918, 919] (by decide +kernel) (by decide +kernel)
set_option maxRecDepth 20000 in
theorem gL_law_X10_notes : GoodIn wsL_law (wsV RL 157 RX10 yX10_notes wsX10_notes) := goodIn_app (goodIn_of _ (by decide +kernel)) ggL_law_X10_notes
set_option maxRecDepth 20000 in
theorem ggL_law_L_sherd : GoodIn wsL_law wsL_sherd := goodIn_ca (goodIn_ca (goodIn_ca (goodIn_r _ [635, 236, 201, 202, 636, 637, 638, 2, 639, 44, 207, 208, 209, 210, 211, 640, 641, 642, 241, 242, 243, 244, 245, 212, 213, 214, 215, 216, 643, 644, 645, 43, 646, 111, 115, 112, 113, 114, 866, 867, 868, 869, 870, 871, 872, 873, 874, 875, 876, 946, 947, 948, 949, 950] (by decide +kernel) (by decide +kernel)) (goodIn_sub (fun _ h => List.mem_append_left _ (List.mem_append_left _ (List.mem_append_left _ (List.mem_append_right _ h)))) (by decide +kernel))) (goodIn_sub (fun _ h => List.mem_append_left _ (List.mem_append_right _ h)) (by decide +kernel))) (goodIn_sub (fun _ h => List.mem_append_left _ (List.mem_append_left _ (List.mem_append_right _ h))) (by decide +kernel))
set_option maxRecDepth 20000 in
theorem gL_law_L_sherd : GoodIn wsL_law (va_wsS RL 158 yL_sherd wsL_sherd) := goodIn_app (goodIn_of _ (by decide +kernel)) ggL_law_L_sherd
set_option maxRecDepth 20000 in
theorem ggL_law_X10_sherd : GoodIn wsL_law wsX10_sherd := goodIn_r _ [650, 183, 651, 156, 157, 158, 652, 653, 5, 654, 226, 227, 228, 229, 230, 231, 232, 877, 878, 879, 880, 881, 882, 883, 884, 885, 886, 887, 888, 889, 890, 891, 892, 893, 894, 895, 896, 897, 898, 899, 900, 901, 902, 903, 904, 905, 906, 907, 908, 909, 910, 911, 912, 913, 914, 915, 916, 917, 918, 919] (by decide +kernel) (by decide +kernel)
set_option maxRecDepth 20000 in
theorem gL_law_X10_sherd : GoodIn wsL_law (wsV RL 160 RX10 yX10_sherd wsX10_sherd) := goodIn_app (goodIn_of _ (by decide +kernel)) ggL_law_X10_sherd
set_option maxRecDepth 20000 in
theorem ggL_law_L_join : GoodIn wsL_law wsL_join := goodIn_ca (goodIn_r _ [657, 236, 658, 659, 660, 2, 661, 44, 241, 242, 243, 244, 245, 662, 663, 664, 43, 665, 111, 666, 459, 460, 461, 667, 467, 468, 115, 112, 114, 668, 669, 670, 671, 113, 866, 867, 868, 869, 870, 871, 872, 873, 874, 875, 876, 946, 947, 948, 949, 950] (by decide +kernel) (by decide +kernel)) (goodIn_sub (fun _ h => List.mem_append_left _ (List.mem_append_right _ h)) (by decide +kernel))
set_option maxRecDepth 20000 in
theorem gL_law_L_join : GoodIn wsL_law (va_wsS RL 161 yL_join wsL_join) := goodIn_app (goodIn_of _ (by decide +kernel)) ggL_law_L_join
set_option maxRecDepth 20000 in
theorem ggL_law_X10_join : GoodIn wsL_law wsX10_join := goodIn_r _ [675, 183, 158, 676, 459, 460, 461, 466, 467, 468, 156, 651, 677, 678, 679, 5, 680, 226, 227, 228, 229, 230, 231, 232, 681, 682, 683, 684, 157, 877, 878, 879, 880, 881, 882, 883, 884, 885, 886, 887, 888, 889, 890, 891, 892, 893, 894, 895, 896, 897, 898, 899, 900, 901, 902, 903, 904, 905, 906, 907, 908, 909, 910, 911, 912, 913, 914, 915, 916, 917, 918, 919] (by decide +kernel) (by decide +kernel)
set_option maxRecDepth 20000 in
theorem gL_law_X10_join : GoodIn wsL_law (wsV RL 163 RX10 yX10_join wsX10_join) := goodIn_app (goodIn_of _ (by decide +kernel)) ggL_law_X10_join
set_option maxRecDepth 20000 in
theorem ggL_law_L_vessels : GoodIn wsL_law wsL_vessels := goodIn_ca (goodIn_r _ [687, 236, 688, 689, 690, 2, 691, 44, 640, 641, 642, 241, 242, 243, 244, 245, 692, 693, 694, 43, 695, 115, 111, 696, 697, 698, 699, 114, 866, 867, 868, 869, 870, 871, 872, 873, 874, 875, 876, 946, 947, 948, 949, 950] (by decide +kernel) (by decide +kernel)) (goodIn_sub (fun _ h => List.mem_append_left _ (List.mem_append_right _ h)) (by decide +kernel))
set_option maxRecDepth 20000 in
theorem gL_law_L_vessels : GoodIn wsL_law (va_wsS RL 164 yL_vessels wsL_vessels) := goodIn_app (goodIn_of _ (by decide +kernel)) ggL_law_L_vessels
set_option maxRecDepth 20000 in
theorem ggL_law_X10_vessels : GoodIn wsL_law wsX10_vessels := goodIn_r _ [703, 183, 651, 158, 652, 653, 5, 654, 226, 227, 228, 229, 230, 231, 232, 681, 682, 683, 684, 157, 877, 878, 879, 880, 881, 882, 883, 884, 885, 886, 887, 888, 889, 890, 891, 892, 893, 894, 895, 896, 897, 898, 899, 900, 901, 902, 903, 904, 905, 906, 907, 908, 909, 910, 911, 912, 913, 914, 915, 916, 917, 918, 919] (by decide +kernel) (by decide +kernel)
set_option maxRecDepth 20000 in
theorem gL_law_X10_vessels : GoodIn wsL_law (wsV RL 166 RX10 yX10_vessels wsX10_vessels) := goodIn_app (goodIn_of _ (by decide +kernel)) ggL_law_X10_vessels
set_option maxRecDepth 20000 in
theorem ggL_law_L_vessel : GoodIn wsL_law wsL_vessel := goodIn_ca (goodIn_ca (goodIn_r _ [706, 236, 398, 707, 708, 709, 2, 710, 403, 404, 44, 241, 242, 243, 244, 245, 866, 867, 868, 869, 870, 871, 872, 873, 874, 875, 876, 946, 947, 948, 949, 950] (by decide +kernel) (by decide +kernel)) (goodIn_sub (fun _ h => List.mem_append_right _ h) (by decide +kernel))) (goodIn_sub (fun _ h => List.mem_append_left _ (List.mem_append_right _ h)) (by decide +kernel))
set_option maxRecDepth 20000 in
theorem gL_law_L_vessel : GoodIn wsL_law (va_wsS RL 167 yL_vessel wsL_vessel) := goodIn_app (goodIn_of _ (by decide +kernel)) ggL_law_L_vessel
set_option maxRecDepth 20000 in
theorem ggL_law_X10_vessel : GoodIn wsL_law wsX10_vessel := goodIn_r _ [714, 183, 651, 158, 677, 678, 679, 5, 680, 226, 227, 228, 229, 230, 231, 232, 681, 682, 683, 684, 157, 877, 878, 879, 880, 881, 882, 883, 884, 885, 886, 887, 888, 889, 890, 891, 892, 893, 894, 895, 896, 897, 898, 899, 900, 901, 902, 903, 904, 905, 906, 907, 908, 909, 910, 911, 912, 913, 914, 915, 916, 917, 918, 919] (by decide +kernel) (by decide +kernel)
set_option maxRecDepth 20000 in
theorem gL_law_X10_vessel : GoodIn wsL_law (wsV RL 169 RX10 yX10_vessel wsX10_vessel) := goodIn_app (goodIn_of _ (by decide +kernel)) ggL_law_X10_vessel
set_option maxRecDepth 20000 in
theorem ggL_law_L_tell : GoodIn wsL_law wsL_tell := goodIn_ca (goodIn_ca (goodIn_ca (goodIn_r _ [717, 236, 201, 202, 718, 719, 720, 2, 721, 210, 211, 48, 50, 241, 242, 243, 244, 245, 207, 208, 209, 212, 213, 214, 215, 216, 722, 723, 724, 47, 725, 120, 128, 121, 122, 123, 124, 866, 867, 868, 869, 870, 871, 872, 873, 874, 875, 876, 951, 952, 953, 954, 955, 956, 957, 958, 959, 960] (by decide +kernel) (by decide +kernel)) (goodIn_sub (fun _ h => List.mem_append_left _ (List.mem_append_left _ (List.mem_append_left _ (List.mem_append_right _ h)))) (by decide +kernel))) (goodIn_sub (fun _ h => List.mem_append_left _ (List.mem_append_right _ h)) (by decide +kernel))) (goodIn_sub (fun _ h => List.mem_append_left _ (List.mem_append_left _ (List.mem_append_right _ h))) (by decide +kernel))
set_option maxRecDepth 20000 in
theorem gL_law_L_tell : GoodIn wsL_law (va_wsS RL 170 yL_tell wsL_tell) := goodIn_app (goodIn_of _ (by decide +kernel)) ggL_law_L_tell
set_option maxRecDepth 20000 in
theorem ggL_law_X10_tell : GoodIn wsL_law wsX10_tell := goodIn_r _ [729, 183, 652, 653, 5, 654, 226, 227, 228, 229, 230, 231, 232, 730, 731, 732, 733, 734, 159, 160, 161, 162, 735, 163, 877, 878, 879, 880, 881, 882, 883, 884, 885, 886, 887, 888, 889, 890, 891, 892, 893, 894, 895, 896, 897, 898, 899, 900, 901, 902, 903, 904, 905, 906, 907, 908, 909, 910, 911, 912, 913, 914, 915, 916, 917, 918, 919] (by decide +kernel) (by decide +kernel)
set_option maxRecDepth 20000 in
theorem gL_law_X10_tell : GoodIn wsL_law (wsV RL 172 RX10 yX10_tell wsX10_tell) := goodIn_app (goodIn_of _ (by decide +kernel)) ggL_law_X10_tell
set_option maxRecDepth 20000 in
theorem ggL_law_L_bound : GoodIn wsL_law wsL_bound := goodIn_ca (goodIn_ca (goodIn_ca (goodIn_r _ [738, 236, 201, 202, 739, 740, 741, 2, 742, 48, 50, 241, 242, 243, 244, 245, 207, 208, 209, 210, 211, 212, 213, 214, 215, 216, 722, 723, 724, 47, 725, 120, 128, 121, 122, 123, 124, 866, 867, 868, 869, 870, 871, 872, 873, 874, 875, 876, 951, 952, 953, 954, 955, 956, 957, 958, 959, 960] (by decide +kernel) (by decide +kernel)) (goodIn_sub (fun _ h => List.mem_append_left _ (List.mem_append_right _ h)) (by decide +kernel))) (goodIn_sub (fun _ h => List.mem_append_left _ (List.mem_append_left _ (List.mem_append_left _ (List.mem_append_right _ h)))) (by decide +kernel))) (goodIn_sub (fun _ h => List.mem_append_left _ (List.mem_append_left _ (List.mem_append_right _ h))) (by decide +kernel))
set_option maxRecDepth 20000 in
theorem gL_law_L_bound : GoodIn wsL_law (va_wsS RL 173 yL_bound wsL_bound) := goodIn_app (goodIn_of _ (by decide +kernel)) ggL_law_L_bound
