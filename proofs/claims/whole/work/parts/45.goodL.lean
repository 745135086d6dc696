set_option maxRecDepth 20000 in
theorem ggL_law_X6_init : GoodIn wsL_law wsX6_init := goodIn_r _ [10, 11, 12, 13, 14, 15, 16, 17, 18, 19, 20, 21, 22, 23, 24, 25, 26, 27, 28, 29, 30, 31, 32, 33, 34, 35, 36, 37, 38, 39, 40, 41, 42, 43, 44, 45, 46, 47, 48, 49, 50, 51, 52, 53, 54, 55, 56, 57, 58, 59, 60, 61, 62, 63, 64, 65, 66, 67, 68, 858, 859, 860, 861, 862, 863, 864, 865, 866, 899, 900, 901, 902, 903, 904, 905, 906, 907, 908, 909, 910, 911, 912, 913, 914, 915, 916, 917, 918, 919, 920, 921, 922, 923, 924, 925, 926, 927, 928, 929, 930, 931, 932, 933, 934] (by decide +kernel) (by decide +kernel)
set_option maxRecDepth 20000 in
theorem gL_law_X6_init : GoodIn wsL_law (wsX6_init) := ggL_law_X6_init
set_option maxRecDepth 20000 in
theorem ggL_law_X7_init : GoodIn wsL_law wsX7_init := goodIn_r _ [71, 72, 12, 13, 54, 73, 74, 75, 76, 77, 78, 18, 79, 80, 81, 82, 83, 84, 85, 86, 87, 88, 89, 90, 91, 92, 93, 867, 868, 869, 870, 871, 872, 873, 874, 875, 876, 877, 878, 879, 880, 881, 882, 883, 884, 885, 886, 887, 888, 889, 890, 891, 892, 893, 894, 895, 896, 897, 898] (by decide +kernel) (by decide +kernel)
set_option maxRecDepth 20000 in
theorem gL_law_X7_init : GoodIn wsL_law (wsX7_init) := ggL_law_X7_init
set_option maxRecDepth 20000 in
theorem ggL_law_L_track : GoodIn wsL_law wsL_track := goodIn_ca (goodIn_r _ [97, 98, 99, 100, 101, 2, 102, 103, 104, 105, 858, 859, 860, 861, 862, 863, 864, 865, 866] (by decide +kernel) (by decide +kernel)) (goodIn_sub (fun _ h => List.mem_append_left _ (List.mem_append_left _ (List.mem_append_left _ (List.mem_append_left _ (List.mem_append_right _ h))))) (by decide +kernel))
set_option maxRecDepth 20000 in
theorem gL_law_L_track : GoodIn wsL_law (va_wsS RL 135 yL_track wsL_track) := goodIn_app (goodIn_of _ (by decide +kernel)) ggL_law_L_track
set_option maxRecDepth 20000 in
theorem ggL_law_X7_track : GoodIn wsL_law wsX7_track := goodIn_r _ [109, 110, 111, 112, 113, 5, 114, 115, 867, 868, 869, 870, 871, 872, 873, 874, 875, 876, 877, 878, 879, 880, 881, 882, 883, 884, 885, 886, 887, 888, 889, 890, 891, 892, 893, 894, 895, 896, 897, 898] (by decide +kernel) (by decide +kernel)
set_option maxRecDepth 20000 in
theorem gL_law_X7_track : GoodIn wsL_law (wsV RL 140 RX7 yX7_track wsX7_track) := goodIn_app (goodIn_of _ (by decide +kernel)) ggL_law_X7_track
set_option maxRecDepth 20000 in
theorem ggL_law_X7_thrown : GoodIn wsL_law wsX7_thrown := goodIn_r _ [119, 115, 867, 868, 869, 870, 871, 872, 873, 874, 875, 876, 877, 878, 879, 880, 881, 882, 883, 884, 885, 886, 887, 888, 889, 890, 891, 892, 893, 894, 895, 896, 897, 898] (by decide +kernel) (by decide +kernel)
set_option maxRecDepth 20000 in
theorem gL_law_X7_thrown : GoodIn wsL_law (wsV RL 141 RX7 yX7_thrown wsX7_thrown) := goodIn_app (goodIn_of _ (by decide +kernel)) ggL_law_X7_thrown
set_option maxRecDepth 20000 in
theorem ggL_law_L_stretch : GoodIn wsL_law wsL_stretch := goodIn_ca (goodIn_ca (goodIn_ca (goodIn_ca (goodIn_r _ [122, 123, 124, 125, 98, 126, 127, 128, 2, 129, 130, 131, 132, 133, 103, 104, 134, 135, 136, 137, 138, 139, 140, 141, 142, 105, 15, 143, 144, 145, 146, 147, 148, 33, 149, 150, 151, 64, 65, 914, 915, 916, 917, 918, 858, 859, 860, 861, 862, 863, 864, 865, 866] (by decide +kernel) (by decide +kernel)) (goodIn_sub (fun _ h => List.mem_append_left _ (List.mem_append_left _ (List.mem_append_left _ (List.mem_append_right _ h)))) (by decide +kernel))) (goodIn_sub (fun _ h => List.mem_append_left _ (List.mem_append_left _ (List.mem_append_right _ h))) (by decide +kernel))) (goodIn_sub (fun _ h => List.mem_append_left _ (List.mem_append_left _ (List.mem_append_left _ (List.mem_append_left _ (List.mem_append_right _ h))))) (by decide +kernel))) (goodIn_sub (fun _ h => List.mem_append_left _ (List.mem_append_right _ h)) (by decide +kernel))
set_option maxRecDepth 20000 in
theorem gL_law_L_stretch : GoodIn wsL_law (va_wsS RL 144 yL_stretch wsL_stretch) := goodIn_app (goodIn_of _ (by decide +kernel)) ggL_law_L_stretch
set_option maxRecDepth 20000 in
theorem ggL_law_X7_stretch : GoodIn wsL_law wsX7_stretch := goodIn_r _ [155, 156, 85, 73, 74, 75, 157, 158, 159, 5, 160, 110, 161, 162, 163, 111, 112, 113, 114, 115, 164, 165, 166, 167, 867, 868, 869, 870, 871, 872, 873, 874, 875, 876, 877, 878, 879, 880, 881, 882, 883, 884, 885, 886, 887, 888, 889, 890, 891, 892, 893, 894, 895, 896, 897, 898] (by decide +kernel) (by decide +kernel)
set_option maxRecDepth 20000 in
theorem gL_law_X7_stretch : GoodIn wsL_law (wsV RL 147 RX7 yX7_stretch wsX7_stretch) := goodIn_app (goodIn_of _ (by decide +kernel)) ggL_law_X7_stretch
set_option maxRecDepth 20000 in
theorem ggL_law_L_car : GoodIn wsL_law wsL_car := goodIn_ca (goodIn_ca (goodIn_r _ [170, 124, 98, 171, 172, 173, 2, 174, 130, 131, 103, 104, 175, 17, 176, 177, 178, 143, 144, 145, 858, 859, 860, 861, 862, 863, 864, 865, 866, 919, 920, 921] (by decide +kernel) (by decide +kernel)) (goodIn_sub (fun _ h => List.mem_append_left _ (List.mem_append_left _ (List.mem_append_left _ (List.mem_append_right _ h)))) (by decide +kernel))) (goodIn_sub (fun _ h => List.mem_append_left _ (List.mem_append_left _ (List.mem_append_left _ (List.mem_append_left _ (List.mem_append_right _ h))))) (by decide +kernel))
set_option maxRecDepth 20000 in
theorem gL_law_L_car : GoodIn wsL_law (va_wsS RL 148 yL_car wsL_car) := goodIn_app (goodIn_of _ (by decide +kernel)) ggL_law_L_car
set_option maxRecDepth 20000 in
theorem ggL_law_X7_car : GoodIn wsL_law wsX7_car := goodIn_r _ [182, 183, 76, 77, 78, 161, 162, 5, 163, 111, 112, 113, 114, 115, 867, 868, 869, 870, 871, 872, 873, 874, 875, 876, 877, 878, 879, 880, 881, 882, 883, 884, 885, 886, 887, 888, 889, 890, 891, 892, 893, 894, 895, 896, 897, 898] (by decide +kernel) (by decide +kernel)
set_option maxRecDepth 20000 in
theorem gL_law_X7_car : GoodIn wsL_law (wsV RL 150 RX7 yX7_car wsX7_car) := goodIn_app (goodIn_of _ (by decide +kernel)) ggL_law_X7_car
set_option maxRecDepth 20000 in
theorem ggL_law_L_lengthOf : GoodIn wsL_law wsL_lengthOf := goodIn_ca (goodIn_r _ [186, 123, 187, 188, 189, 2, 190, 136, 137, 138, 139, 140, 141, 142, 105, 15, 914, 915, 916, 917, 918, 858, 859, 860, 861, 862, 863, 864, 865, 866] (by decide +kernel) (by decide +kernel)) (goodIn_sub (fun _ h => List.mem_append_left _ (List.mem_append_right _ h)) (by decide +kernel))
set_option maxRecDepth 20000 in
theorem gL_law_L_lengthOf : GoodIn wsL_law (va_wsS RL 151 yL_lengthOf wsL_lengthOf) := goodIn_app (goodIn_of _ (by decide +kernel)) ggL_law_L_lengthOf
set_option maxRecDepth 20000 in
theorem ggL_law_X7_lengthOf : GoodIn wsL_law wsX7_lengthOf := goodIn_r _ [194, 157, 158, 159, 5, 160, 110, 161, 162, 163, 111, 112, 113, 114, 115, 164, 165, 166, 167, 73, 74, 867, 868, 869, 870, 871, 872, 873, 874, 875, 876, 877, 878, 879, 880, 881, 882, 883, 884, 885, 886, 887, 888, 889, 890, 891, 892, 893, 894, 895, 896, 897, 898] (by decide +kernel) (by decide +kernel)
set_option maxRecDepth 20000 in
theorem gL_law_X7_lengthOf : GoodIn wsL_law (wsV RL 154 RX7 yX7_lengthOf wsX7_lengthOf) := goodIn_app (goodIn_of _ (by decide +kernel)) ggL_law_X7_lengthOf
set_option maxRecDepth 20000 in
theorem ggL_law_L_limitAt : GoodIn wsL_law wsL_limitAt := goodIn_ca (goodIn_ca (goodIn_r _ [197, 123, 198, 199, 200, 201, 2, 202, 203, 204, 136, 137, 138, 139, 140, 141, 142, 105, 15, 205, 206, 207, 33, 208, 150, 64, 65, 914, 915, 916, 917, 918, 858, 859, 860, 861, 862, 863, 864, 865, 866] (by decide +kernel) (by decide +kernel)) (goodIn_sub (fun _ h => List.mem_append_right _ h) (by decide +kernel))) (goodIn_sub (fun _ h => List.mem_append_left _ (List.mem_append_right _ h)) (by decide +kernel))
set_option maxRecDepth 20000 in
theorem gL_law_L_limitAt : GoodIn wsL_law (va_wsS RL 155 yL_limitAt wsL_limitAt) := goodIn_app (goodIn_of _ (by decide +kernel)) ggL_law_L_limitAt
set_option maxRecDepth 20000 in
theorem ggL_law_X7_limitAt : GoodIn wsL_law wsX7_limitAt := goodIn_r _ [212, 157, 158, 159, 5, 160, 110, 161, 162, 163, 164, 165, 166, 167, 73, 74, 111, 112, 113, 114, 115, 213, 214, 215, 216, 75, 867, 868, 869, 870, 871, 872, 873, 874, 875, 876, 877, 878, 879, 880, 881, 882, 883, 884, 885, 886, 887, 888, 889, 890, 891, 892, 893, 894, 895, 896, 897, 898] (by decide +kernel) (by decide +kernel)
set_option maxRecDepth 20000 in
theorem gL_law_X7_limitAt : GoodIn wsL_law (wsV RL 158 RX7 yX7_limitAt wsX7_limitAt) := goodIn_app (goodIn_of _ (by decide +kernel)) ggL_law_X7_limitAt
set_option maxRecDepth 20000 in
theorem ggL_law_L_type : GoodIn wsL_law wsL_type := goodIn_ca (goodIn_ca (goodIn_r _ [219, 124, 98, 220, 221, 222, 2, 223, 130, 131, 103, 104, 224, 19, 143, 144, 145, 858, 859, 860, 861, 862, 863, 864, 865, 866] (by decide +kernel) (by decide +kernel)) (goodIn_sub (fun _ h => List.mem_append_left _ (List.mem_append_left _ (List.mem_append_left _ (List.mem_append_right _ h)))) (by decide +kernel))) (goodIn_sub (fun _ h => List.mem_append_left _ (List.mem_append_left _ (List.mem_append_left _ (List.mem_append_left _ (List.mem_append_right _ h))))) (by decide +kernel))
set_option maxRecDepth 20000 in
theorem gL_law_L_type : GoodIn wsL_law (va_wsS RL 159 yL_type wsL_type) := goodIn_app (goodIn_of _ (by decide +kernel)) ggL_law_L_type
set_option maxRecDepth 20000 in
theorem ggL_law_X7_type : GoodIn wsL_law wsX7_type := goodIn_r _ [228, 229, 79, 161, 162, 5, 163, 111, 112, 113, 114, 115, 867, 868, 869, 870, 871, 872, 873, 874, 875, 876, 877, 878, 879, 880, 881, 882, 883, 884, 885, 886, 887, 888, 889, 890, 891, 892, 893, 894, 895, 896, 897, 898] (by decide +kernel) (by decide +kernel)
set_option maxRecDepth 20000 in
theorem gL_law_X7_type : GoodIn wsL_law (wsV RL 162 RX7 yX7_type wsX7_type) := goodIn_app (goodIn_of _ (by decide +kernel)) ggL_law_X7_type
set_option maxRecDepth 20000 in
theorem ggL_law_X6_wipe : GoodIn wsL_law wsX6_wipe := goodIn_r _ [233, 224, 858, 859, 860, 861, 862, 863, 864, 865, 866] (by decide +kernel) (by decide +kernel)
set_option maxRecDepth 20000 in
theorem gL_law_X6_wipe : GoodIn wsL_law (wsV RL 163 RX6 yX6_wipe wsX6_wipe) := goodIn_app (goodIn_of _ (by decide +kernel)) ggL_law_X6_wipe
set_option maxRecDepth 20000 in
theorem ggL_law_X7_wipe : GoodIn wsL_law wsX7_wipe := goodIn_r _ [237, 115, 229, 867, 868, 869, 870, 871, 872, 873, 874, 875, 876, 877, 878, 879, 880, 881, 882, 883, 884, 885, 886, 887, 888, 889, 890, 891, 892, 893, 894, 895, 896, 897, 898] (by decide +kernel) (by decide +kernel)
set_option maxRecDepth 20000 in
theorem gL_law_X7_wipe : GoodIn wsL_law (wsV RL 166 RX7 yX7_wipe wsX7_wipe) := goodIn_app (goodIn_of _ (by decide +kernel)) ggL_law_X7_wipe
set_option maxRecDepth 20000 in
theorem ggL_law_L_drive : GoodIn wsL_law wsL_drive := goodIn_ca (goodIn_ca (goodIn_ca (goodIn_ca (goodIn_r _ [240, 123, 198, 125, 98, 241, 242, 243, 2, 244, 203, 204, 103, 104, 27, 245, 246, 247, 248, 249, 250, 31, 251, 23, 19, 134, 224, 252, 253, 254, 255, 141, 142, 137, 138, 139, 140, 105, 15, 256, 257, 258, 259, 175, 17, 260, 261, 262, 26, 263, 44, 264, 265, 266, 267, 268, 269, 270, 271, 272, 273, 274, 132, 133, 135, 275, 276, 277, 278, 22, 279, 280, 281, 282, 283, 284, 285, 286, 287, 288, 289, 290, 291, 292, 293, 35, 294, 295, 296, 297, 298, 299, 300, 301, 302, 303, 304, 305, 306, 307, 308, 206, 207, 33, 208, 150, 64, 65, 309, 310, 311, 30, 312, 56, 313, 55, 314, 315, 316, 46, 317, 318, 50, 319, 320, 321, 322, 323, 324, 325, 326, 327, 328, 329, 330, 331, 332, 333, 334, 335, 336, 337, 338, 339, 340, 341, 342, 343, 858, 859, 860, 861, 862, 863, 864, 865, 866, 904, 905, 922, 923, 924, 925, 926, 927, 928, 929, 930, 931, 932, 933, 934, 914, 915, 916, 917, 918, 899, 900, 901, 902, 903, 919, 920, 921, 906, 907, 908, 909, 910, 911, 912, 913] (by decide +kernel) (by decide +kernel)) (goodIn_sub (fun _ h => List.mem_append_right _ h) (by decide +kernel))) (goodIn_sub (fun _ h => List.mem_append_left _ (List.mem_append_left _ (List.mem_append_left _ (List.mem_append_left _ (List.mem_append_right _ h))))) (by decide +kernel))) (goodIn_sub (fun _ h => List.mem_append_left _ (List.mem_append_right _ h)) (by decide +kernel))) (goodIn_sub (fun _ h => List.mem_append_left _ (List.mem_append_left _ (List.mem_append_right _ h))) (by decide +kernel))
set_option maxRecDepth 20000 in
theorem gL_law_L_drive : GoodIn wsL_law (va_wsS RL 167 yL_drive wsL_drive) := goodIn_app (goodIn_of _ (by decide +kernel)) ggL_law_L_drive
set_option maxRecDepth 20000 in
theorem ggL_law_X7_drive : GoodIn wsL_law wsX7_drive := goodIn_r _ [347, 156, 81, 348, 82, 80, 79, 84, 85, 86, 87, 88, 349, 92, 350, 89, 229, 161, 162, 5, 163, 157, 158, 159, 160, 110, 351, 352, 353, 354, 183, 355, 356, 357, 358, 91, 359, 360, 361, 362, 363, 364, 365, 366, 73, 367, 368, 369, 370, 371, 372, 373, 374, 375, 376, 377, 378, 379, 380, 381, 77, 76, 78, 164, 165, 166, 167, 74, 213, 214, 215, 216, 75, 111, 112, 113, 114, 115, 382, 383, 384, 385, 386, 387, 388, 389, 867, 868, 869, 870, 871, 872, 873, 874, 875, 876, 877, 878, 879, 880, 881, 882, 883, 884, 885, 886, 887, 888, 889, 890, 891, 892, 893, 894, 895, 896, 897, 898] (by decide +kernel) (by decide +kernel)
set_option maxRecDepth 20000 in
theorem gL_law_X7_drive : GoodIn wsL_law (wsV RL 170 RX7 yX7_drive wsX7_drive) := goodIn_app (goodIn_of _ (by decide +kernel)) ggL_law_X7_drive
set_option maxRecDepth 20000 in
theorem ggL_law_L_tryOut : GoodIn wsL_law wsL_tryOut := goodIn_ca (goodIn_ca (goodIn_r _ [392, 123, 125, 393, 394, 395, 2, 396, 23, 397, 137, 138, 139, 140, 141, 142, 105, 15, 256, 257, 258, 259, 175, 17, 271, 272, 273, 274, 132, 133, 135, 19, 224, 275, 276, 277, 278, 22, 279, 280, 281, 282, 283, 284, 285, 286, 287, 288, 289, 290, 291, 292, 293, 35, 294, 295, 296, 297, 298, 299, 300, 301, 302, 303, 304, 305, 306, 307, 308, 206, 207, 33, 208, 150, 64, 65, 858, 859, 860, 861, 862, 863, 864, 865, 866, 899, 900, 901, 902, 903, 914, 915, 916, 917, 918, 919, 920, 921] (by decide +kernel) (by decide +kernel)) (goodIn_sub (fun _ h => List.mem_append_left _ (List.mem_append_right _ h)) (by decide +kernel))) (goodIn_sub (fun _ h => List.mem_append_left _ (List.mem_append_left _ (List.mem_append_right _ h))) (by decide +kernel))
set_option maxRecDepth 20000 in
theorem gL_law_L_tryOut : GoodIn wsL_law (va_wsS RL 171 yL_tryOut wsL_tryOut) := goodIn_app (goodIn_of _ (by decide +kernel)) ggL_law_L_tryOut
set_option maxRecDepth 20000 in
theorem ggL_law_X7_tryOut : GoodIn wsL_law wsX7_tryOut := goodIn_r _ [401, 157, 158, 159, 5, 160, 110, 161, 162, 163, 351, 352, 353, 354, 183, 363, 364, 365, 366, 73, 367, 368, 369, 370, 371, 348, 229, 79, 372, 373, 374, 375, 376, 377, 378, 379, 380, 381, 77, 76, 78, 164, 165, 166, 167, 74, 213, 214, 215, 216, 75, 111, 112, 113, 114, 115, 382, 383, 384, 385, 867, 868, 869, 870, 871, 872, 873, 874, 875, 876, 877, 878, 879, 880, 881, 882, 883, 884, 885, 886, 887, 888, 889, 890, 891, 892, 893, 894, 895, 896, 897, 898] (by decide +kernel) (by decide +kernel)
set_option maxRecDepth 20000 in
theorem gL_law_X7_tryOut : GoodIn wsL_law (wsV RL 173 RX7 yX7_tryOut wsX7_tryOut) := goodIn_app (goodIn_of _ (by decide +kernel)) ggL_law_X7_tryOut
set_option maxRecDepth 20000 in
theorem ggL_law_X6_laps : GoodIn wsL_law wsX6_laps := goodIn_r _ [405, 27, 245, 858, 859, 860, 861, 862, 863, 864, 865, 866, 904, 905] (by decide +kernel) (by decide +kernel)
set_option maxRecDepth 20000 in
theorem gL_law_X6_laps : GoodIn wsL_law (wsV RL 174 RX6 yX6_laps wsX6_laps) := goodIn_app (goodIn_of _ (by decide +kernel)) ggL_law_X6_laps
set_option maxRecDepth 20000 in
theorem ggL_law_X7_laps : GoodIn wsL_law wsX7_laps := goodIn_r _ [409, 115, 156, 867, 868, 869, 870, 871, 872, 873, 874, 875, 876, 877, 878, 879, 880, 881, 882, 883, 884, 885, 886, 887, 888, 889, 890, 891, 892, 893, 894, 895, 896, 897, 898] (by decide +kernel) (by decide +kernel)
set_option maxRecDepth 20000 in
theorem gL_law_X7_laps : GoodIn wsL_law (wsV RL 177 RX7 yX7_laps wsX7_laps) := goodIn_app (goodIn_of _ (by decide +kernel)) ggL_law_X7_laps
set_option maxRecDepth 20000 in
theorem ggL_law_L_time : GoodIn wsL_law wsL_time := goodIn_ca (goodIn_r _ [412, 123, 413, 414, 415, 2, 416, 417, 418, 419, 420, 421, 141, 142, 27, 246, 422, 267, 268, 26, 269, 270, 423, 424, 425, 46, 426, 321, 427, 922, 923, 924, 925, 926, 927, 928, 929, 930, 931, 932, 933, 934, 858, 859, 860, 861, 862, 863, 864, 865, 866, 904, 905] (by decide +kernel) (by decide +kernel)) (goodIn_sub (fun _ h => List.mem_append_left _ (List.mem_append_right _ h)) (by decide +kernel))
set_option maxRecDepth 20000 in
theorem gL_law_L_time : GoodIn wsL_law (va_wsS RL 178 yL_time wsL_time) := goodIn_app (goodIn_of _ (by decide +kernel)) ggL_law_L_time
set_option maxRecDepth 20000 in
theorem ggL_law_X7_time : GoodIn wsL_law wsX7_time := goodIn_r _ [431, 82, 359, 360, 361, 5, 362, 156, 161, 162, 163, 111, 112, 113, 114, 115, 432, 433, 434, 435, 83, 867, 868, 869, 870, 871, 872, 873, 874, 875, 876, 877, 878, 879, 880, 881, 882, 883, 884, 885, 886, 887, 888, 889, 890, 891, 892, 893, 894, 895, 896, 897, 898] (by decide +kernel) (by decide +kernel)
set_option maxRecDepth 20000 in
theorem gL_law_X7_time : GoodIn wsL_law (wsV RL 181 RX7 yX7_time wsX7_time) := goodIn_app (goodIn_of _ (by decide +kernel)) ggL_law_X7_time
set_option maxRecDepth 20000 in
theorem ggL_law_L_ticks : GoodIn wsL_law wsL_ticks := goodIn_ca (goodIn_r _ [438, 123, 439, 440, 441, 2, 442, 443, 418, 419, 420, 421, 141, 142, 27, 246, 422, 267, 268, 26, 269, 270, 922, 923, 924, 925, 926, 927, 928, 929, 930, 931, 932, 933, 934, 858, 859, 860, 861, 862, 863, 864, 865, 866, 904, 905] (by decide +kernel) (by decide +kernel)) (goodIn_sub (fun _ h => List.mem_append_left _ (List.mem_append_right _ h)) (by decide +kernel))
set_option maxRecDepth 20000 in
theorem gL_law_L_ticks : GoodIn wsL_law (va_wsS RL 182 yL_ticks wsL_ticks) := goodIn_app (goodIn_of _ (by decide +kernel)) ggL_law_L_ticks
set_option maxRecDepth 20000 in
theorem ggL_law_X7_ticks : GoodIn wsL_law wsX7_ticks := goodIn_r _ [447, 81, 359, 360, 361, 5, 362, 156, 161, 162, 163, 111, 112, 113, 114, 115, 867, 868, 869, 870, 871, 872, 873, 874, 875, 876, 877, 878, 879, 880, 881, 882, 883, 884, 885, 886, 887, 888, 889, 890, 891, 892, 893, 894, 895, 896, 897, 898] (by decide +kernel) (by decide +kernel)
set_option maxRecDepth 20000 in
theorem gL_law_X7_ticks : GoodIn wsL_law (wsV RL 184 RX7 yX7_ticks wsX7_ticks) := goodIn_app (goodIn_of _ (by decide +kernel)) ggL_law_X7_ticks
set_option maxRecDepth 20000 in
theorem ggL_law_L_inputAt : GoodIn wsL_law wsL_inputAt := goodIn_ca (goodIn_ca (goodIn_r _ [450, 123, 198, 451, 452, 453, 2, 454, 203, 204, 443, 455, 418, 419, 420, 421, 141, 142, 27, 246, 422, 267, 268, 26, 269, 270, 922, 923, 924, 925, 926, 927, 928, 929, 930, 931, 932, 933, 934, 858, 859, 860, 861, 862, 863, 864, 865, 866, 904, 905] (by decide +kernel) (by decide +kernel)) (goodIn_sub (fun _ h => List.mem_append_right _ h) (by decide +kernel))) (goodIn_sub (fun _ h => List.mem_append_left _ (List.mem_append_right _ h)) (by decide +kernel))
set_option maxRecDepth 20000 in
theorem gL_law_L_inputAt : GoodIn wsL_law (va_wsS RL 185 yL_inputAt wsL_inputAt) := goodIn_app (goodIn_of _ (by decide +kernel)) ggL_law_L_inputAt
set_option maxRecDepth 20000 in
theorem ggL_law_X7_inputAt : GoodIn wsL_law wsX7_inputAt := goodIn_r _ [459, 81, 80, 359, 360, 361, 5, 362, 156, 161, 162, 163, 111, 112, 113, 114, 115, 867, 868, 869, 870, 871, 872, 873, 874, 875, 876, 877, 878, 879, 880, 881, 882, 883, 884, 885, 886, 887, 888, 889, 890, 891, 892, 893, 894, 895, 896, 897, 898] (by decide +kernel) (by decide +kernel)
set_option maxRecDepth 20000 in
theorem gL_law_X7_inputAt : GoodIn wsL_law (wsV RL 187 RX7 yX7_inputAt wsX7_inputAt) := goodIn_app (goodIn_of _ (by decide +kernel)) ggL_law_X7_inputAt
set_option maxRecDepth 20000 in
theorem ggL_law_L_replay : GoodIn wsL_law wsL_replay := goodIn_ca (goodIn_ca (goodIn_r _ [462, 123, 198, 463, 464, 465, 2, 466, 203, 204, 443, 23, 467, 468, 418, 419, 420, 421, 141, 142, 27, 246, 422, 267, 268, 26, 269, 270, 469, 470, 471, 472, 455, 248, 249, 137, 138, 139, 140, 105, 15, 256, 257, 258, 259, 175, 17, 276, 277, 278, 22, 279, 280, 281, 282, 283, 284, 285, 286, 287, 288, 289, 290, 291, 292, 293, 35, 294, 295, 296, 297, 298, 299, 300, 301, 302, 303, 304, 305, 306, 307, 308, 206, 207, 33, 208, 150, 64, 65, 922, 923, 924, 925, 926, 927, 928, 929, 930, 931, 932, 933, 934, 858, 859, 860, 861, 862, 863, 864, 865, 866, 899, 900, 901, 902, 903, 904, 905, 914, 915, 916, 917, 918, 919, 920, 921] (by decide +kernel) (by decide +kernel)) (goodIn_sub (fun _ h => List.mem_append_right _ h) (by decide +kernel))) (goodIn_sub (fun _ h => List.mem_append_left _ (List.mem_append_right _ h)) (by decide +kernel))
set_option maxRecDepth 20000 in
theorem gL_law_L_replay : GoodIn wsL_law (va_wsS RL 188 yL_replay wsL_replay) := goodIn_app (goodIn_of _ (by decide +kernel)) ggL_law_L_replay
set_option maxRecDepth 20000 in
theorem ggL_law_X7_replay : GoodIn wsL_law wsX7_replay := goodIn_r _ [476, 81, 348, 85, 86, 80, 377, 376, 359, 360, 361, 5, 362, 156, 161, 162, 163, 111, 112, 113, 114, 115, 372, 373, 374, 375, 367, 378, 379, 380, 381, 77, 76, 78, 164, 165, 166, 167, 73, 74, 213, 214, 215, 216, 75, 867, 868, 869, 870, 871, 872, 873, 874, 875, 876, 877, 878, 879, 880, 881, 882, 883, 884, 885, 886, 887, 888, 889, 890, 891, 892, 893, 894, 895, 896, 897, 898] (by decide +kernel) (by decide +kernel)
set_option maxRecDepth 20000 in
theorem gL_law_X7_replay : GoodIn wsL_law (wsV RL 191 RX7 yX7_replay wsX7_replay) := goodIn_app (goodIn_of _ (by decide +kernel)) ggL_law_X7_replay
set_option maxRecDepth 20000 in
theorem ggL_law_L_of : GoodIn wsL_law wsL_of := goodIn_ca (goodIn_ca (goodIn_r _ [479, 123, 124, 480, 481, 482, 2, 483, 130, 131, 247, 248, 249, 250, 251, 418, 419, 420, 421, 141, 142, 27, 246, 422, 267, 268, 26, 269, 270, 922, 923, 924, 925, 926, 927, 928, 929, 930, 931, 932, 933, 934, 858, 859, 860, 861, 862, 863, 864, 865, 866, 904, 905] (by decide +kernel) (by decide +kernel)) (goodIn_sub (fun _ h => List.mem_append_left _ (List.mem_append_left _ (List.mem_append_left _ (List.mem_append_right _ h)))) (by decide +kernel))) (goodIn_sub (fun _ h => List.mem_append_left _ (List.mem_append_right _ h)) (by decide +kernel))
set_option maxRecDepth 20000 in
theorem gL_law_L_of : GoodIn wsL_law (va_wsS RL 192 yL_of wsL_of) := goodIn_app (goodIn_of _ (by decide +kernel)) ggL_law_L_of
set_option maxRecDepth 20000 in
theorem ggL_law_X7_of : GoodIn wsL_law wsX7_of := goodIn_r _ [487, 84, 85, 86, 87, 88, 359, 360, 361, 5, 362, 156, 161, 162, 163, 111, 112, 113, 114, 115, 867, 868, 869, 870, 871, 872, 873, 874, 875, 876, 877, 878, 879, 880, 881, 882, 883, 884, 885, 886, 887, 888, 889, 890, 891, 892, 893, 894, 895, 896, 897, 898] (by decide +kernel) (by decide +kernel)
set_option maxRecDepth 20000 in
theorem gL_law_X7_of : GoodIn wsL_law (wsV RL 195 RX7 yX7_of wsX7_of) := goodIn_app (goodIn_of _ (by decide +kernel)) ggL_law_X7_of
set_option maxRecDepth 20000 in
theorem ggL_law_L_beats : GoodIn wsL_law wsL_beats := goodIn_ca (goodIn_ca (goodIn_r _ [490, 123, 198, 491, 492, 493, 2, 494, 203, 204, 27, 250, 246, 418, 419, 420, 421, 141, 142, 422, 267, 268, 26, 269, 270, 423, 424, 425, 46, 426, 321, 427, 858, 859, 860, 861, 862, 863, 864, 865, 866, 922, 923, 924, 925, 926, 927, 928, 929, 930, 931, 932, 933, 934, 904, 905] (by decide +kernel) (by decide +kernel)) (goodIn_sub (fun _ h => List.mem_append_right _ h) (by decide +kernel))) (goodIn_sub (fun _ h => List.mem_append_left _ (List.mem_append_right _ h)) (by decide +kernel))
set_option maxRecDepth 20000 in
theorem gL_law_L_beats : GoodIn wsL_law (va_wsS RL 196 yL_beats wsL_beats) := goodIn_app (goodIn_of _ (by decide +kernel)) ggL_law_L_beats
set_option maxRecDepth 20000 in
theorem ggL_law_X7_beats : GoodIn wsL_law wsX7_beats := goodIn_r _ [498, 87, 359, 360, 361, 5, 362, 156, 161, 162, 163, 111, 112, 113, 114, 115, 432, 433, 434, 435, 82, 83, 867, 868, 869, 870, 871, 872, 873, 874, 875, 876, 877, 878, 879, 880, 881, 882, 883, 884, 885, 886, 887, 888, 889, 890, 891, 892, 893, 894, 895, 896, 897, 898] (by decide +kernel) (by decide +kernel)
set_option maxRecDepth 20000 in
theorem gL_law_X7_beats : GoodIn wsL_law (wsV RL 198 RX7 yX7_beats wsX7_beats) := goodIn_app (goodIn_of _ (by decide +kernel)) ggL_law_X7_beats
set_option maxRecDepth 20000 in
theorem ggL_law_L_least : GoodIn wsL_law wsL_least := goodIn_ca (goodIn_ca (goodIn_r _ [501, 123, 198, 502, 503, 504, 2, 505, 203, 204, 27, 137, 138, 139, 140, 141, 142, 105, 15, 506, 507, 508, 26, 509, 270, 44, 265, 264, 510, 511, 512, 513, 266, 267, 268, 269, 514, 424, 425, 46, 426, 321, 427, 858, 859, 860, 861, 862, 863, 864, 865, 866, 904, 905, 922, 923, 924, 925, 926, 927, 928, 929, 930, 931, 932, 933, 934] (by decide +kernel) (by decide +kernel)) (goodIn_sub (fun _ h => List.mem_append_right _ h) (by decide +kernel))) (goodIn_sub (fun _ h => List.mem_append_left _ (List.mem_append_right _ h)) (by decide +kernel))
set_option maxRecDepth 20000 in
theorem gL_law_L_least : GoodIn wsL_law (va_wsS RL 199 yL_least wsL_least) := goodIn_app (goodIn_of _ (by decide +kernel)) ggL_law_L_least
set_option maxRecDepth 20000 in
theorem ggL_law_X7_least : GoodIn wsL_law wsX7_least := goodIn_r _ [518, 156, 85, 91, 432, 433, 434, 5, 435, 82, 83, 157, 158, 159, 160, 110, 161, 162, 163, 111, 112, 113, 114, 115, 867, 868, 869, 870, 871, 872, 873, 874, 875, 876, 877, 878, 879, 880, 881, 882, 883, 884, 885, 886, 887, 888, 889, 890, 891, 892, 893, 894, 895, 896, 897, 898] (by decide +kernel) (by decide +kernel)
set_option maxRecDepth 20000 in
theorem gL_law_X7_least : GoodIn wsL_law (wsV RL 201 RX7 yX7_least wsX7_least) := goodIn_app (goodIn_of _ (by decide +kernel)) ggL_law_X7_least
set_option maxRecDepth 20000 in
theorem ggL_law_L_base : GoodIn wsL_law wsL_base := goodIn_ca (goodIn_ca (goodIn_r _ [521, 123, 198, 522, 523, 524, 2, 525, 203, 204, 526, 418, 419, 420, 421, 141, 142, 27, 246, 422, 267, 268, 26, 269, 270, 922, 923, 924, 925, 926, 927, 928, 929, 930, 931, 932, 933, 934, 858, 859, 860, 861, 862, 863, 864, 865, 866, 904, 905] (by decide +kernel) (by decide +kernel)) (goodIn_sub (fun _ h => List.mem_append_right _ h) (by decide +kernel))) (goodIn_sub (fun _ h => List.mem_append_left _ (List.mem_append_right _ h)) (by decide +kernel))
set_option maxRecDepth 20000 in
theorem gL_law_L_base : GoodIn wsL_law (va_wsS RL 202 yL_base wsL_base) := goodIn_app (goodIn_of _ (by decide +kernel)) ggL_law_L_base
set_option maxRecDepth 20000 in
theorem ggL_law_X7_base : GoodIn wsL_law wsX7_base := goodIn_r _ [530, 89, 359, 360, 361, 5, 362, 156, 161, 162, 163, 111, 112, 113, 114, 115, 867, 868, 869, 870, 871, 872, 873, 874, 875, 876, 877, 878, 879, 880, 881, 882, 883, 884, 885, 886, 887, 888, 889, 890, 891, 892, 893, 894, 895, 896, 897, 898] (by decide +kernel) (by decide +kernel)
set_option maxRecDepth 20000 in
theorem gL_law_X7_base : GoodIn wsL_law (wsV RL 204 RX7 yX7_base wsX7_base) := goodIn_app (goodIn_of _ (by decide +kernel)) ggL_law_X7_base
set_option maxRecDepth 20000 in
theorem ggL_law_L_depth : GoodIn wsL_law wsL_depth := goodIn_ca (goodIn_r _ [533, 123, 534, 535, 536, 2, 537, 538, 418, 419, 420, 421, 141, 142, 27, 246, 422, 267, 268, 26, 269, 270, 922, 923, 924, 925, 926, 927, 928, 929, 930, 931, 932, 933, 934, 858, 859, 860, 861, 862, 863, 864, 865, 866, 904, 905] (by decide +kernel) (by decide +kernel)) (goodIn_sub (fun _ h => List.mem_append_left _ (List.mem_append_right _ h)) (by decide +kernel))
set_option maxRecDepth 20000 in
theorem gL_law_L_depth : GoodIn wsL_law (va_wsS RL 205 yL_depth wsL_depth) := goodIn_app (goodIn_of _ (by decide +kernel)) ggL_law_L_depth
set_option maxRecDepth 20000 in
theorem ggL_law_X7_depth : GoodIn wsL_law wsX7_depth := goodIn_r _ [542, 359, 360, 361, 5, 362, 156, 161, 162, 163, 111, 112, 113, 114, 115, 386, 387, 388, 389, 89, 867, 868, 869, 870, 871, 872, 873, 874, 875, 876, 877, 878, 879, 880, 881, 882, 883, 884, 885, 886, 887, 888, 889, 890, 891, 892, 893, 894, 895, 896, 897, 898] (by decide +kernel) (by decide +kernel)
set_option maxRecDepth 20000 in
theorem gL_law_X7_depth : GoodIn wsL_law (wsV RL 207 RX7 yX7_depth wsX7_depth) := goodIn_app (goodIn_of _ (by decide +kernel)) ggL_law_X7_depth
set_option maxRecDepth 20000 in
theorem ggL_law_L_parts : GoodIn wsL_law wsL_parts := goodIn_ca (goodIn_r _ [545, 123, 546, 547, 548, 2, 549, 550, 418, 419, 420, 421, 141, 142, 27, 246, 422, 267, 268, 26, 269, 270, 922, 923, 924, 925, 926, 927, 928, 929, 930, 931, 932, 933, 934, 858, 859, 860, 861, 862, 863, 864, 865, 866, 904, 905] (by decide +kernel) (by decide +kernel)) (goodIn_sub (fun _ h => List.mem_append_left _ (List.mem_append_right _ h)) (by decide +kernel))
set_option maxRecDepth 20000 in
theorem gL_law_L_parts : GoodIn wsL_law (va_wsS RL 208 yL_parts wsL_parts) := goodIn_app (goodIn_of _ (by decide +kernel)) ggL_law_L_parts
set_option maxRecDepth 20000 in
theorem ggL_law_X7_parts : GoodIn wsL_law wsX7_parts := goodIn_r _ [554, 359, 360, 361, 5, 362, 156, 161, 162, 163, 111, 112, 113, 114, 115, 555, 556, 557, 558, 89, 81, 80, 867, 868, 869, 870, 871, 872, 873, 874, 875, 876, 877, 878, 879, 880, 881, 882, 883, 884, 885, 886, 887, 888, 889, 890, 891, 892, 893, 894, 895, 896, 897, 898] (by decide +kernel) (by decide +kernel)
set_option maxRecDepth 20000 in
theorem gL_law_X7_parts : GoodIn wsL_law (wsV RL 210 RX7 yX7_parts wsX7_parts) := goodIn_app (goodIn_of _ (by decide +kernel)) ggL_law_X7_parts
set_option maxRecDepth 20000 in
theorem ggL_law_X6_stored : GoodIn wsL_law wsX6_stored := goodIn_r _ [562, 27, 245, 246, 550, 858, 859, 860, 861, 862, 863, 864, 865, 866, 904, 905, 922, 923, 924, 925, 926, 927, 928, 929, 930, 931, 932, 933, 934] (by decide +kernel) (by decide +kernel)
set_option maxRecDepth 20000 in
theorem gL_law_X6_stored : GoodIn wsL_law (wsV RL 211 RX6 yX6_stored wsX6_stored) := goodIn_app (goodIn_of _ (by decide +kernel)) ggL_law_X6_stored
set_option maxRecDepth 20000 in
theorem ggL_law_X7_stored : GoodIn wsL_law wsX7_stored := goodIn_r _ [566, 115, 567, 568, 569, 5, 570, 156, 555, 556, 557, 558, 89, 81, 80, 867, 868, 869, 870, 871, 872, 873, 874, 875, 876, 877, 878, 879, 880, 881, 882, 883, 884, 885, 886, 887, 888, 889, 890, 891, 892, 893, 894, 895, 896, 897, 898] (by decide +kernel) (by decide +kernel)
set_option maxRecDepth 20000 in
theorem gL_law_X7_stored : GoodIn wsL_law (wsV RL 214 RX7 yX7_stored wsX7_stored) := goodIn_app (goodIn_of _ (by decide +kernel)) ggL_law_X7_stored
set_option maxRecDepth 20000 in
theorem ggL_law_L_resting : GoodIn wsL_law wsL_resting := goodIn_ca (goodIn_r _ [573, 123, 574, 575, 576, 2, 577, 27, 418, 419, 420, 421, 141, 142, 246, 422, 267, 268, 26, 269, 270, 578, 579, 580, 581, 582, 583, 584, 585, 44, 333, 266, 858, 859, 860, 861, 862, 863, 864, 865, 866, 904, 905, 922, 923, 924, 925, 926, 927, 928, 929, 930, 931, 932, 933, 934] (by decide +kernel) (by decide +kernel)) (goodIn_sub (fun _ h => List.mem_append_left _ (List.mem_append_right _ h)) (by decide +kernel))
set_option maxRecDepth 20000 in
theorem gL_law_L_resting : GoodIn wsL_law (va_wsS RL 215 yL_resting wsL_resting) := goodIn_app (goodIn_of _ (by decide +kernel)) ggL_law_L_resting
set_option maxRecDepth 20000 in
theorem ggL_law_X7_resting : GoodIn wsL_law wsX7_resting := goodIn_r _ [589, 156, 359, 360, 361, 5, 362, 161, 162, 163, 111, 112, 113, 114, 115, 590, 591, 592, 593, 89, 867, 868, 869, 870, 871, 872, 873, 874, 875, 876, 877, 878, 879, 880, 881, 882, 883, 884, 885, 886, 887, 888, 889, 890, 891, 892, 893, 894, 895, 896, 897, 898] (by decide +kernel) (by decide +kernel)
set_option maxRecDepth 20000 in
theorem gL_law_X7_resting : GoodIn wsL_law (wsV RL 217 RX7 yX7_resting wsX7_resting) := goodIn_app (goodIn_of _ (by decide +kernel)) ggL_law_X7_resting
set_option maxRecDepth 20000 in
theorem ggL_law_L_strike : GoodIn wsL_law wsL_strike := goodIn_ca (goodIn_ca (goodIn_r _ [596, 123, 125, 597, 598, 599, 2, 600, 132, 133, 601, 27, 526, 418, 419, 420, 421, 141, 142, 246, 422, 267, 268, 26, 269, 270, 602, 603, 604, 605, 44, 333, 329, 330, 331, 332, 334, 335, 266, 336, 337, 338, 46, 339, 319, 50, 340, 341, 342, 343, 328, 922, 923, 924, 925, 926, 927, 928, 929, 930, 931, 932, 933, 934, 858, 859, 860, 861, 862, 863, 864, 865, 866, 904, 905] (by decide +kernel) (by decide +kernel)) (goodIn_sub (fun _ h => List.mem_append_left _ (List.mem_append_left _ (List.mem_append_right _ h))) (by decide +kernel))) (goodIn_sub (fun _ h => List.mem_append_left _ (List.mem_append_right _ h)) (by decide +kernel))
set_option maxRecDepth 20000 in
theorem gL_law_L_strike : GoodIn wsL_law (va_wsS RL 218 yL_strike wsL_strike) := goodIn_app (goodIn_of _ (by decide +kernel)) ggL_law_L_strike
set_option maxRecDepth 20000 in
theorem ggL_law_X7_strike : GoodIn wsL_law wsX7_strike := goodIn_r _ [609, 91, 156, 89, 359, 360, 361, 5, 362, 161, 162, 163, 111, 112, 113, 114, 115, 867, 868, 869, 870, 871, 872, 873, 874, 875, 876, 877, 878, 879, 880, 881, 882, 883, 884, 885, 886, 887, 888, 889, 890, 891, 892, 893, 894, 895, 896, 897, 898] (by decide +kernel) (by decide +kernel)
set_option maxRecDepth 20000 in
theorem gL_law_X7_strike : GoodIn wsL_law (wsV RL 220 RX7 yX7_strike wsX7_strike) := goodIn_app (goodIn_of _ (by decide +kernel)) ggL_law_X7_strike
set_option maxRecDepth 20000 in
theorem ggL_law_L_giveBack : GoodIn wsL_law wsL_giveBack := goodIn_ca (goodIn_ca (goodIn_r _ [612, 123, 125, 613, 614, 615, 2, 616, 132, 133, 601, 27, 418, 419, 420, 421, 141, 142, 246, 422, 267, 268, 26, 269, 270, 617, 618, 619, 620, 44, 265, 922, 923, 924, 925, 926, 927, 928, 929, 930, 931, 932, 933, 934, 858, 859, 860, 861, 862, 863, 864, 865, 866, 904, 905] (by decide +kernel) (by decide +kernel)) (goodIn_sub (fun _ h => List.mem_append_left _ (List.mem_append_left _ (List.mem_append_right _ h))) (by decide +kernel))) (goodIn_sub (fun _ h => List.mem_append_left _ (List.mem_append_right _ h)) (by decide +kernel))
set_option maxRecDepth 20000 in
theorem gL_law_L_giveBack : GoodIn wsL_law (va_wsS RL 221 yL_giveBack wsL_giveBack) := goodIn_app (goodIn_of _ (by decide +kernel)) ggL_law_L_giveBack
set_option maxRecDepth 20000 in
theorem ggL_law_X7_giveBack : GoodIn wsL_law wsX7_giveBack := goodIn_r _ [624, 91, 156, 359, 360, 361, 5, 362, 161, 162, 163, 111, 112, 113, 114, 115, 867, 868, 869, 870, 871, 872, 873, 874, 875, 876, 877, 878, 879, 880, 881, 882, 883, 884, 885, 886, 887, 888, 889, 890, 891, 892, 893, 894, 895, 896, 897, 898] (by decide +kernel) (by decide +kernel)
set_option maxRecDepth 20000 in
theorem gL_law_X7_giveBack : GoodIn wsL_law (wsV RL 223 RX7 yX7_giveBack wsX7_giveBack) := goodIn_app (goodIn_of _ (by decide +kernel)) ggL_law_X7_giveBack
set_option maxRecDepth 20000 in
theorem ggL_law_L_stands : GoodIn wsL_law wsL_stands := goodIn_ca (goodIn_r _ [627, 123, 628, 629, 630, 2, 631, 601, 418, 419, 420, 421, 141, 142, 27, 246, 422, 267, 268, 26, 269, 270, 922, 923, 924, 925, 926, 927, 928, 929, 930, 931, 932, 933, 934, 858, 859, 860, 861, 862, 863, 864, 865, 866, 904, 905] (by decide +kernel) (by decide +kernel)) (goodIn_sub (fun _ h => List.mem_append_left _ (List.mem_append_right _ h)) (by decide +kernel))
set_option maxRecDepth 20000 in
theorem gL_law_L_stands : GoodIn wsL_law (va_wsS RL 224 yL_stands wsL_stands) := goodIn_app (goodIn_of _ (by decide +kernel)) ggL_law_L_stands
set_option maxRecDepth 20000 in
theorem ggL_law_X7_stands : GoodIn wsL_law wsX7_stands := goodIn_r _ [635, 91, 359, 360, 361, 5, 362, 156, 161, 162, 163, 111, 112, 113, 114, 115, 867, 868, 869, 870, 871, 872, 873, 874, 875, 876, 877, 878, 879, 880, 881, 882, 883, 884, 885, 886, 887, 888, 889, 890, 891, 892, 893, 894, 895, 896, 897, 898] (by decide +kernel) (by decide +kernel)
set_option maxRecDepth 20000 in
theorem gL_law_X7_stands : GoodIn wsL_law (wsV RL 226 RX7 yX7_stands wsX7_stands) := goodIn_app (goodIn_of _ (by decide +kernel)) ggL_law_X7_stands
set_option maxRecDepth 20000 in
theorem ggL_law_L_penalty : GoodIn wsL_law wsL_penalty := goodIn_ca (goodIn_ca (goodIn_r _ [638, 123, 124, 639, 640, 641, 2, 642, 130, 131, 643, 418, 419, 420, 421, 141, 142, 27, 246, 422, 267, 268, 26, 269, 270, 143, 144, 145, 922, 923, 924, 925, 926, 927, 928, 929, 930, 931, 932, 933, 934, 858, 859, 860, 861, 862, 863, 864, 865, 866, 904, 905] (by decide +kernel) (by decide +kernel)) (goodIn_sub (fun _ h => List.mem_append_left _ (List.mem_append_left _ (List.mem_append_left _ (List.mem_append_right _ h)))) (by decide +kernel))) (goodIn_sub (fun _ h => List.mem_append_left _ (List.mem_append_right _ h)) (by decide +kernel))
set_option maxRecDepth 20000 in
theorem gL_law_L_penalty : GoodIn wsL_law (va_wsS RL 227 yL_penalty wsL_penalty) := goodIn_app (goodIn_of _ (by decide +kernel)) ggL_law_L_penalty
set_option maxRecDepth 20000 in
theorem ggL_law_X7_penalty : GoodIn wsL_law wsX7_penalty := goodIn_r _ [647, 83, 359, 360, 361, 5, 362, 156, 161, 162, 163, 111, 112, 113, 114, 115, 867, 868, 869, 870, 871, 872, 873, 874, 875, 876, 877, 878, 879, 880, 881, 882, 883, 884, 885, 886, 887, 888, 889, 890, 891, 892, 893, 894, 895, 896, 897, 898] (by decide +kernel) (by decide +kernel)
set_option maxRecDepth 20000 in
theorem gL_law_X7_penalty : GoodIn wsL_law (wsV RL 229 RX7 yX7_penalty wsX7_penalty) := goodIn_app (goodIn_of _ (by decide +kernel)) ggL_law_X7_penalty
set_option maxRecDepth 20000 in
theorem ggL_law_L_round : GoodIn wsL_law wsL_round := goodIn_ca (goodIn_ca (goodIn_r _ [650, 123, 98, 651, 652, 653, 2, 654, 103, 104, 31, 655, 656, 137, 138, 139, 140, 141, 142, 105, 15, 657, 658, 659, 30, 660, 313, 55, 56, 858, 859, 860, 861, 862, 863, 864, 865, 866, 906, 907, 908, 909, 910, 911, 912, 913] (by decide +kernel) (by decide +kernel)) (goodIn_sub (fun _ h => List.mem_append_left _ (List.mem_append_left _ (List.mem_append_left _ (List.mem_append_left _ (List.mem_append_right _ h))))) (by decide +kernel))) (goodIn_sub (fun _ h => List.mem_append_left _ (List.mem_append_right _ h)) (by decide +kernel))
set_option maxRecDepth 20000 in
theorem gL_law_L_round : GoodIn wsL_law (va_wsS RL 230 yL_round wsL_round) := goodIn_app (goodIn_of _ (by decide +kernel)) ggL_law_L_round
set_option maxRecDepth 20000 in
theorem ggL_law_X7_round : GoodIn wsL_law wsX7_round := goodIn_r _ [664, 350, 92, 349, 157, 158, 159, 5, 160, 110, 161, 162, 163, 111, 112, 113, 114, 115, 867, 868, 869, 870, 871, 872, 873, 874, 875, 876, 877, 878, 879, 880, 881, 882, 883, 884, 885, 886, 887, 888, 889, 890, 891, 892, 893, 894, 895, 896, 897, 898] (by decide +kernel) (by decide +kernel)
set_option maxRecDepth 20000 in
theorem gL_law_X7_round : GoodIn wsL_law (wsV RL 232 RX7 yX7_round wsX7_round) := goodIn_app (goodIn_of _ (by decide +kernel)) ggL_law_X7_round
set_option maxRecDepth 20000 in
theorem ggL_law_L_shut : GoodIn wsL_law wsL_shut := goodIn_ca (goodIn_r _ [667, 98, 668, 669, 670, 2, 671, 103, 104, 31, 656, 858, 859, 860, 861, 862, 863, 864, 865, 866, 906, 907, 908, 909, 910, 911, 912, 913] (by decide +kernel) (by decide +kernel)) (goodIn_sub (fun _ h => List.mem_append_left _ (List.mem_append_left _ (List.mem_append_left _ (List.mem_append_left _ (List.mem_append_right _ h))))) (by decide +kernel))
set_option maxRecDepth 20000 in
theorem gL_law_L_shut : GoodIn wsL_law (va_wsS RL 233 yL_shut wsL_shut) := goodIn_app (goodIn_of _ (by decide +kernel)) ggL_law_L_shut
set_option maxRecDepth 20000 in
theorem ggL_law_X7_shut : GoodIn wsL_law wsX7_shut := goodIn_r _ [675, 349, 350, 111, 112, 113, 5, 114, 115, 867, 868, 869, 870, 871, 872, 873, 874, 875, 876, 877, 878, 879, 880, 881, 882, 883, 884, 885, 886, 887, 888, 889, 890, 891, 892, 893, 894, 895, 896, 897, 898] (by decide +kernel) (by decide +kernel)
set_option maxRecDepth 20000 in
theorem gL_law_X7_shut : GoodIn wsL_law (wsV RL 235 RX7 yX7_shut wsX7_shut) := goodIn_app (goodIn_of _ (by decide +kernel)) ggL_law_X7_shut
set_option maxRecDepth 20000 in
theorem ggL_law_L_lapIn : GoodIn wsL_law wsL_lapIn := goodIn_ca (goodIn_ca (goodIn_r _ [678, 123, 198, 679, 680, 681, 2, 682, 683, 684, 685, 686, 141, 142, 203, 204, 31, 655, 27, 687, 252, 253, 254, 255, 688, 689, 690, 30, 691, 57, 692, 693, 694, 695, 696, 697, 511, 512, 26, 513, 44, 266, 267, 268, 269, 270, 514, 424, 425, 46, 426, 321, 427, 858, 859, 860, 861, 862, 863, 864, 865, 866, 906, 907, 908, 909, 910, 911, 912, 913, 904, 905, 922, 923, 924, 925, 926, 927, 928, 929, 930, 931, 932, 933, 934] (by decide +kernel) (by decide +kernel)) (goodIn_sub (fun _ h => List.mem_append_left _ (List.mem_append_right _ h)) (by decide +kernel))) (goodIn_sub (fun _ h => List.mem_append_right _ h) (by decide +kernel))
set_option maxRecDepth 20000 in
theorem gL_law_L_lapIn : GoodIn wsL_law (va_wsS RL 236 yL_lapIn wsL_lapIn) := goodIn_app (goodIn_of _ (by decide +kernel)) ggL_law_L_lapIn
set_option maxRecDepth 20000 in
theorem ggL_law_X7_lapIn : GoodIn wsL_law wsX7_lapIn := goodIn_r _ [701, 702, 703, 704, 5, 705, 156, 88, 84, 91, 432, 433, 434, 435, 82, 83, 706, 707, 708, 709, 350, 161, 162, 163, 111, 112, 113, 114, 115, 867, 868, 869, 870, 871, 872, 873, 874, 875, 876, 877, 878, 879, 880, 881, 882, 883, 884, 885, 886, 887, 888, 889, 890, 891, 892, 893, 894, 895, 896, 897, 898] (by decide +kernel) (by decide +kernel)
set_option maxRecDepth 20000 in
theorem gL_law_X7_lapIn : GoodIn wsL_law (wsV RL 238 RX7 yX7_lapIn wsX7_lapIn) := goodIn_app (goodIn_of _ (by decide +kernel)) ggL_law_X7_lapIn
set_option maxRecDepth 20000 in
theorem ggL_law_L_placeIn : GoodIn wsL_law wsL_placeIn := goodIn_ca (goodIn_ca (goodIn_r _ [712, 123, 198, 713, 714, 715, 2, 716, 31, 27, 683, 684, 685, 686, 141, 142, 203, 204, 655, 687, 252, 253, 254, 255, 688, 689, 690, 30, 691, 57, 692, 693, 694, 695, 696, 697, 511, 512, 26, 513, 44, 266, 267, 268, 269, 270, 514, 424, 425, 46, 426, 321, 427, 717, 718, 719, 720, 858, 859, 860, 861, 862, 863, 864, 865, 866, 906, 907, 908, 909, 910, 911, 912, 913, 904, 905, 922, 923, 924, 925, 926, 927, 928, 929, 930, 931, 932, 933, 934] (by decide +kernel) (by decide +kernel)) (goodIn_sub (fun _ h => List.mem_append_left _ (List.mem_append_right _ h)) (by decide +kernel))) (goodIn_sub (fun _ h => List.mem_append_right _ h) (by decide +kernel))
set_option maxRecDepth 20000 in
theorem gL_law_L_placeIn : GoodIn wsL_law (va_wsS RL 239 yL_placeIn wsL_placeIn) := goodIn_app (goodIn_of _ (by decide +kernel)) ggL_law_L_placeIn
set_option maxRecDepth 20000 in
theorem ggL_law_X7_placeIn : GoodIn wsL_law wsX7_placeIn := goodIn_r _ [724, 706, 707, 708, 5, 709, 350, 161, 162, 163, 725, 726, 727, 728, 702, 703, 704, 705, 156, 88, 84, 91, 432, 433, 434, 435, 82, 83, 111, 112, 113, 114, 115, 867, 868, 869, 870, 871, 872, 873, 874, 875, 876, 877, 878, 879, 880, 881, 882, 883, 884, 885, 886, 887, 888, 889, 890, 891, 892, 893, 894, 895, 896, 897, 898] (by decide +kernel) (by decide +kernel)
set_option maxRecDepth 20000 in
theorem gL_law_X7_placeIn : GoodIn wsL_law (wsV RL 241 RX7 yX7_placeIn wsX7_placeIn) := goodIn_app (goodIn_of _ (by decide +kernel)) ggL_law_X7_placeIn
set_option maxRecDepth 20000 in
theorem ggL_law_L_drop : GoodIn wsL_law wsL_drop := goodIn_ca (goodIn_r _ [731, 124, 732, 733, 734, 2, 735, 130, 131, 31, 736, 143, 144, 145, 858, 859, 860, 861, 862, 863, 864, 865, 866, 906, 907, 908, 909, 910, 911, 912, 913] (by decide +kernel) (by decide +kernel)) (goodIn_sub (fun _ h => List.mem_append_left _ (List.mem_append_left _ (List.mem_append_left _ (List.mem_append_right _ h)))) (by decide +kernel))
set_option maxRecDepth 20000 in
theorem gL_law_L_drop : GoodIn wsL_law (va_wsS RL 242 yL_drop wsL_drop) := goodIn_app (goodIn_of _ (by decide +kernel)) ggL_law_L_drop
set_option maxRecDepth 20000 in
theorem ggL_law_X7_drop : GoodIn wsL_law wsX7_drop := goodIn_r _ [740, 741, 161, 162, 5, 163, 111, 112, 113, 114, 115, 867, 868, 869, 870, 871, 872, 873, 874, 875, 876, 877, 878, 879, 880, 881, 882, 883, 884, 885, 886, 887, 888, 889, 890, 891, 892, 893, 894, 895, 896, 897, 898] (by decide +kernel) (by decide +kernel)
set_option maxRecDepth 20000 in
theorem gL_law_X7_drop : GoodIn wsL_law (wsV RL 244 RX7 yX7_drop wsX7_drop) := goodIn_app (goodIn_of _ (by decide +kernel)) ggL_law_X7_drop
set_option maxRecDepth 20000 in
theorem ggL_law_L_points : GoodIn wsL_law wsL_points := goodIn_ca (goodIn_r _ [744, 123, 745, 746, 747, 2, 748, 31, 27, 749, 252, 253, 254, 255, 141, 142, 750, 751, 752, 30, 753, 59, 60, 313, 754, 755, 689, 690, 691, 57, 692, 693, 694, 695, 696, 697, 511, 512, 26, 513, 44, 266, 267, 268, 269, 270, 514, 424, 425, 46, 426, 321, 427, 756, 757, 758, 759, 58, 760, 718, 719, 720, 761, 762, 763, 764, 765, 858, 859, 860, 861, 862, 863, 864, 865, 866, 906, 907, 908, 909, 910, 911, 912, 913, 904, 905, 922, 923, 924, 925, 926, 927, 928, 929, 930, 931, 932, 933, 934] (by decide +kernel) (by decide +kernel)) (goodIn_sub (fun _ h => List.mem_append_left _ (List.mem_append_right _ h)) (by decide +kernel))
set_option maxRecDepth 20000 in
theorem gL_law_L_points : GoodIn wsL_law (va_wsS RL 245 yL_points wsL_points) := goodIn_app (goodIn_of _ (by decide +kernel)) ggL_law_L_points
set_option maxRecDepth 20000 in
theorem ggL_law_X7_points : GoodIn wsL_law wsX7_points := goodIn_r _ [769, 770, 771, 5, 772, 161, 162, 163, 111, 112, 113, 114, 115, 773, 774, 775, 776, 350, 93, 741, 725, 726, 727, 728, 702, 703, 704, 705, 156, 88, 84, 91, 432, 433, 434, 435, 82, 83, 777, 778, 779, 867, 868, 869, 870, 871, 872, 873, 874, 875, 876, 877, 878, 879, 880, 881, 882, 883, 884, 885, 886, 887, 888, 889, 890, 891, 892, 893, 894, 895, 896, 897, 898] (by decide +kernel) (by decide +kernel)
set_option maxRecDepth 20000 in
theorem gL_law_X7_points : GoodIn wsL_law (wsV RL 247 RX7 yX7_points wsX7_points) := goodIn_app (goodIn_of _ (by decide +kernel)) ggL_law_X7_points
set_option maxRecDepth 20000 in
theorem ggL_law_L_wins : GoodIn wsL_law wsL_wins := goodIn_ca (goodIn_r _ [782, 123, 783, 784, 785, 2, 786, 31, 27, 787, 252, 253, 254, 255, 141, 142, 750, 751, 752, 30, 753, 59, 60, 313, 754, 755, 689, 690, 691, 57, 692, 693, 694, 695, 696, 697, 511, 512, 26, 513, 44, 266, 267, 268, 269, 270, 514, 424, 425, 46, 426, 321, 427, 756, 757, 758, 759, 58, 760, 718, 719, 720, 761, 762, 763, 764, 765, 858, 859, 860, 861, 862, 863, 864, 865, 866, 906, 907, 908, 909, 910, 911, 912, 913, 904, 905, 922, 923, 924, 925, 926, 927, 928, 929, 930, 931, 932, 933, 934] (by decide +kernel) (by decide +kernel)) (goodIn_sub (fun _ h => List.mem_append_left _ (List.mem_append_right _ h)) (by decide +kernel))
set_option maxRecDepth 20000 in
theorem gL_law_L_wins : GoodIn wsL_law (va_wsS RL 248 yL_wins wsL_wins) := goodIn_app (goodIn_of _ (by decide +kernel)) ggL_law_L_wins
set_option maxRecDepth 20000 in
theorem ggL_law_X7_wins : GoodIn wsL_law wsX7_wins := goodIn_r _ [791, 770, 771, 5, 772, 161, 162, 163, 111, 112, 113, 114, 115, 792, 793, 794, 795, 350, 725, 726, 727, 728, 702, 703, 704, 705, 156, 88, 84, 91, 432, 433, 434, 435, 82, 83, 867, 868, 869, 870, 871, 872, 873, 874, 875, 876, 877, 878, 879, 880, 881, 882, 883, 884, 885, 886, 887, 888, 889, 890, 891, 892, 893, 894, 895, 896, 897, 898] (by decide +kernel) (by decide +kernel)
set_option maxRecDepth 20000 in
theorem gL_law_X7_wins : GoodIn wsL_law (wsV RL 250 RX7 yX7_wins wsX7_wins) := goodIn_app (goodIn_of _ (by decide +kernel)) ggL_law_X7_wins
set_option maxRecDepth 20000 in
theorem ggL_law_L_standing : GoodIn wsL_law wsL_standing := goodIn_ca (goodIn_r _ [798, 123, 799, 800, 801, 2, 802, 141, 142, 31, 27, 750, 751, 752, 30, 753, 59, 60, 313, 754, 755, 689, 690, 691, 57, 692, 693, 694, 695, 696, 697, 511, 512, 26, 513, 44, 266, 267, 268, 269, 270, 514, 424, 425, 46, 426, 321, 427, 756, 757, 758, 759, 58, 760, 718, 719, 720, 761, 762, 763, 764, 765, 803, 804, 805, 806, 807, 808, 809, 810, 858, 859, 860, 861, 862, 863, 864, 865, 866, 906, 907, 908, 909, 910, 911, 912, 913, 904, 905, 922, 923, 924, 925, 926, 927, 928, 929, 930, 931, 932, 933, 934] (by decide +kernel) (by decide +kernel)) (goodIn_sub (fun _ h => List.mem_append_left _ (List.mem_append_right _ h)) (by decide +kernel))
set_option maxRecDepth 20000 in
theorem gL_law_L_standing : GoodIn wsL_law (va_wsS RL 251 yL_standing wsL_standing) := goodIn_app (goodIn_of _ (by decide +kernel)) ggL_law_L_standing
set_option maxRecDepth 20000 in
theorem ggL_law_X7_standing : GoodIn wsL_law wsX7_standing := goodIn_r _ [814, 770, 771, 5, 772, 161, 162, 163, 111, 112, 113, 114, 115, 773, 774, 775, 776, 350, 93, 741, 725, 726, 727, 728, 702, 703, 704, 705, 156, 88, 84, 91, 432, 433, 434, 435, 82, 83, 777, 778, 779, 792, 793, 794, 795, 867, 868, 869, 870, 871, 872, 873, 874, 875, 876, 877, 878, 879, 880, 881, 882, 883, 884, 885, 886, 887, 888, 889, 890, 891, 892, 893, 894, 895, 896, 897, 898] (by decide +kernel) (by decide +kernel)
set_option maxRecDepth 20000 in
theorem gL_law_X7_standing : GoodIn wsL_law (wsV RL 253 RX7 yX7_standing wsX7_standing) := goodIn_app (goodIn_of _ (by decide +kernel)) ggL_law_X7_standing
set_option maxRecDepth 20000 in
theorem ggL_law_X6_checksum : GoodIn wsL_law wsX6_checksum := goodIn_r _ [818, 819, 27, 245, 246, 820, 417, 643, 550, 601, 858, 859, 860, 861, 862, 863, 864, 865, 866, 904, 905, 922, 923, 924, 925, 926, 927, 928, 929, 930, 931, 932, 933, 934] (by decide +kernel) (by decide +kernel)
set_option maxRecDepth 20000 in
theorem gL_law_X6_checksum : GoodIn wsL_law (wsV RL 254 RX6 yX6_checksum wsX6_checksum) := goodIn_app (goodIn_of _ (by decide +kernel)) ggL_law_X6_checksum
set_option maxRecDepth 20000 in
theorem ggL_law_X7_checksum : GoodIn wsL_law wsX7_checksum := goodIn_r _ [824, 115, 825, 156, 826, 82, 83, 91, 555, 556, 557, 5, 558, 89, 81, 80, 867, 868, 869, 870, 871, 872, 873, 874, 875, 876, 877, 878, 879, 880, 881, 882, 883, 884, 885, 886, 887, 888, 889, 890, 891, 892, 893, 894, 895, 896, 897, 898] (by decide +kernel) (by decide +kernel)
set_option maxRecDepth 20000 in
theorem gL_law_X7_checksum : GoodIn wsL_law (wsV RL 258 RX7 yX7_checksum wsX7_checksum) := goodIn_app (goodIn_of _ (by decide +kernel)) ggL_law_X7_checksum
set_option maxRecDepth 20000 in
theorem ggL_law_L_shareStored : GoodIn wsL_law wsL_shareStored := goodIn_ca (goodIn_r _ [829, 198, 830, 831, 832, 2, 833, 203, 204, 27, 245, 246, 443, 834, 560, 561, 562, 550, 858, 859, 860, 861, 862, 863, 864, 865, 866, 904, 905, 922, 923, 924, 925, 926, 927, 928, 929, 930, 931, 932, 933, 934] (by decide +kernel) (by decide +kernel)) (goodIn_sub (fun _ h => List.mem_append_right _ h) (by decide +kernel))
set_option maxRecDepth 20000 in
theorem gL_law_L_shareStored : GoodIn wsL_law (va_wsS RL 259 yL_shareStored wsL_shareStored) := goodIn_app (goodIn_of _ (by decide +kernel)) ggL_law_L_shareStored
set_option maxRecDepth 20000 in
theorem ggL_law_X7_shareStored : GoodIn wsL_law wsX7_shareStored := goodIn_r _ [838, 156, 81, 111, 112, 113, 5, 114, 115, 567, 568, 569, 570, 555, 556, 557, 558, 89, 80, 867, 868, 869, 870, 871, 872, 873, 874, 875, 876, 877, 878, 879, 880, 881, 882, 883, 884, 885, 886, 887, 888, 889, 890, 891, 892, 893, 894, 895, 896, 897, 898] (by decide +kernel) (by decide +kernel)
set_option maxRecDepth 20000 in
theorem gL_law_X7_shareStored : GoodIn wsL_law (wsV RL 262 RX7 yX7_shareStored wsX7_shareStored) := goodIn_app (goodIn_of _ (by decide +kernel)) ggL_law_X7_shareStored
set_option maxRecDepth 20000 in
theorem ggL_law_L_meanTime : GoodIn wsL_law wsL_meanTime := goodIn_ca (goodIn_r _ [841, 198, 842, 843, 844, 2, 845, 203, 204, 27, 245, 246, 601, 617, 618, 619, 26, 620, 270, 44, 265, 423, 424, 425, 46, 426, 321, 427, 858, 859, 860, 861, 862, 863, 864, 865, 866, 904, 905, 922, 923, 924, 925, 926, 927, 928, 929, 930, 931, 932, 933, 934] (by decide +kernel) (by decide +kernel)) (goodIn_sub (fun _ h => List.mem_append_right _ h) (by decide +kernel))
set_option maxRecDepth 20000 in
theorem gL_law_L_meanTime : GoodIn wsL_law (va_wsS RL 263 yL_meanTime wsL_meanTime) := goodIn_app (goodIn_of _ (by decide +kernel)) ggL_law_L_meanTime
set_option maxRecDepth 20000 in
theorem ggL_law_X7_meanTime : GoodIn wsL_law wsX7_meanTime := goodIn_r _ [849, 156, 91, 432, 433, 434, 5, 435, 82, 83, 111, 112, 113, 114, 115, 867, 868, 869, 870, 871, 872, 873, 874, 875, 876, 877, 878, 879, 880, 881, 882, 883, 884, 885, 886, 887, 888, 889, 890, 891, 892, 893, 894, 895, 896, 897, 898] (by decide +kernel) (by decide +kernel)
set_option maxRecDepth 20000 in
theorem gL_law_X7_meanTime : GoodIn wsL_law (wsV RL 265 RX7 yX7_meanTime wsX7_meanTime) := goodIn_app (goodIn_of _ (by decide +kernel)) ggL_law_X7_meanTime
set_option maxRecDepth 20000 in
theorem ggL_law_X6_isSound : GoodIn wsL_law wsX6_isSound := goodIn_ca (goodIn_r _ [853, 27, 245, 246, 443, 23, 275, 397, 417, 526, 601, 538, 469, 470, 471, 2, 472, 455, 248, 249, 137, 138, 139, 140, 141, 142, 105, 15, 256, 257, 258, 259, 175, 17, 276, 277, 278, 22, 279, 280, 281, 282, 283, 284, 285, 286, 287, 288, 289, 290, 291, 292, 293, 35, 294, 295, 296, 297, 298, 299, 300, 301, 302, 303, 304, 305, 306, 307, 308, 206, 207, 33, 208, 150, 64, 65, 422, 267, 268, 26, 269, 270, 858, 859, 860, 861, 862, 863, 864, 865, 866, 904, 905, 922, 923, 924, 925, 926, 927, 928, 929, 930, 931, 932, 933, 934, 899, 900, 901, 902, 903, 914, 915, 916, 917, 918, 919, 920, 921] (by decide +kernel) (by decide +kernel)) (goodIn_sub (fun _ h => List.mem_append_left _ (List.mem_append_right _ h)) (by decide +kernel))
set_option maxRecDepth 20000 in
theorem gL_law_X6_isSound : GoodIn wsL_law (wsV RL 266 RX6 yX6_isSound wsX6_isSound) := goodIn_app (goodIn_of _ (by decide +kernel)) ggL_law_X6_isSound
set_option maxRecDepth 20000 in
theorem ggL_law_X7_isSound : GoodIn wsL_law wsX7_isSound := goodIn_r _ [857, 115, 867, 868, 869, 870, 871, 872, 873, 874, 875, 876, 877, 878, 879, 880, 881, 882, 883, 884, 885, 886, 887, 888, 889, 890, 891, 892, 893, 894, 895, 896, 897, 898] (by decide +kernel) (by decide +kernel)
set_option maxRecDepth 20000 in
theorem gL_law_X7_isSound : GoodIn wsL_law (wsV RL 270 RX7 yX7_isSound wsX7_isSound) := goodIn_app (goodIn_of _ (by decide +kernel)) ggL_law_X7_isSound
