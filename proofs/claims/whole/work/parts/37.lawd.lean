set_option maxRecDepth 20000 in
theorem ggL_law_X3_init : GoodIn wsL_law wsX3_init := goodIn_r _ [9, 10, 11, 12, 13, 14, 15, 16, 17, 18, 19, 20, 21, 22, 23, 24, 25, 26, 27, 28, 29, 30, 31, 32, 33, 34, 35, 36, 37, 38, 39, 40, 41, 42, 43, 44, 45, 46, 47, 48, 49, 50, 51, 52, 53, 54, 55, 56, 57, 58, 59, 60, 61, 62, 63, 64, 65, 66, 67, 68, 69, 70, 71, 72, 73, 74, 75, 76, 77, 78, 79, 80, 81, 82, 83, 84, 85, 86, 87, 88, 89, 90, 862, 863, 864, 865, 866, 867, 868, 869, 870, 871, 872, 873, 874, 875, 876, 877, 825, 826, 827, 828, 829, 830, 831, 832, 878, 879, 880, 881, 882, 883, 884, 885, 886, 887, 888, 889, 890, 891] (by decide +kernel) (by decide +kernel)
set_option maxRecDepth 20000 in
theorem gL_law_X3_init : GoodIn wsL_law (wsX3_init) := ggL_law_X3_init
set_option maxRecDepth 20000 in
theorem ggL_law_X4_init : GoodIn wsL_law wsX4_init := goodIn_r _ [93, 94, 11, 12, 25, 95, 96, 97, 98, 99, 40, 100, 101, 102, 103, 104, 105, 106, 107, 108, 109, 110, 111, 112, 113, 114, 115, 116, 833, 834, 835, 836, 837, 838, 839, 840, 841, 842, 843, 844, 845, 846, 847, 848, 849, 850, 851, 852, 853, 854, 855, 856, 857, 858, 859, 860, 861] (by decide +kernel) (by decide +kernel)
set_option maxRecDepth 20000 in
theorem gL_law_X4_init : GoodIn wsL_law (wsX4_init) := ggL_law_X4_init
set_option maxRecDepth 20000 in
theorem ggL_law_L_wish : GoodIn wsL_law wsL_wish := goodIn_ca (goodIn_ca (goodIn_r _ [120, 121, 122, 123, 124, 125, 2, 126, 127, 128, 129, 130, 131, 132, 133, 134, 135, 136, 137, 138, 139, 140, 141, 142, 143, 144, 16, 17, 145, 146, 147, 148, 149, 150, 151, 152, 15, 153, 48, 862, 863, 864, 865, 866, 867, 868, 869, 870, 871, 872, 873, 874, 875, 876, 877, 825, 826, 827, 828, 829, 830, 831, 832] (by decide +kernel) (by decide +kernel)) (goodIn_sub (fun _ h => List.mem_append_left _ (List.mem_append_left _ (List.mem_append_right _ h))) (by decide +kernel))) (goodIn_sub (fun _ h => List.mem_append_left _ (List.mem_append_right _ h)) (by decide +kernel))
set_option maxRecDepth 20000 in
theorem gL_law_L_wish : GoodIn wsL_law (va_wsS RL 75 yL_wish wsL_wish) := goodIn_app (goodIn_of _ (by decide +kernel)) ggL_law_L_wish
set_option maxRecDepth 20000 in
theorem ggL_law_X4_wish : GoodIn wsL_law wsX4_wish := goodIn_r _ [157, 95, 96, 97, 158, 159, 5, 160, 161, 162, 163, 164, 165, 166, 167, 168, 169, 170, 171, 172, 173, 103, 174, 175, 176, 177, 178, 833, 834, 835, 836, 837, 838, 839, 840, 841, 842, 843, 844, 845, 846, 847, 848, 849, 850, 851, 852, 853, 854, 855, 856, 857, 858, 859, 860, 861] (by decide +kernel) (by decide +kernel)
set_option maxRecDepth 20000 in
theorem gL_law_X4_wish : GoodIn wsL_law (wsV RL 80 RX4 yX4_wish wsX4_wish) := goodIn_app (goodIn_of _ (by decide +kernel)) ggL_law_X4_wish
set_option maxRecDepth 20000 in
theorem ggL_law_X4_thrown : GoodIn wsL_law wsX4_thrown := goodIn_r _ [182, 178, 833, 834, 835, 836, 837, 838, 839, 840, 841, 842, 843, 844, 845, 846, 847, 848, 849, 850, 851, 852, 853, 854, 855, 856, 857, 858, 859, 860, 861] (by decide +kernel) (by decide +kernel)
set_option maxRecDepth 20000 in
theorem gL_law_X4_thrown : GoodIn wsL_law (wsV RL 81 RX4 yX4_thrown wsX4_thrown) := goodIn_app (goodIn_of _ (by decide +kernel)) ggL_law_X4_thrown
set_option maxRecDepth 20000 in
theorem ggL_law_L_allow : GoodIn wsL_law wsL_allow := goodIn_ca (goodIn_ca (goodIn_r _ [185, 121, 122, 186, 187, 188, 2, 189, 190, 191, 132, 133, 134, 127, 128, 135, 136, 137, 138, 139, 140, 141, 142, 143, 144, 16, 17, 145, 146, 147, 148, 149, 150, 151, 152, 15, 153, 48, 862, 863, 864, 865, 866, 867, 868, 869, 870, 871, 872, 873, 874, 875, 876, 877, 825, 826, 827, 828, 829, 830, 831, 832] (by decide +kernel) (by decide +kernel)) (goodIn_sub (fun _ h => List.mem_append_left _ (List.mem_append_left _ (List.mem_append_right _ h))) (by decide +kernel))) (goodIn_sub (fun _ h => List.mem_append_left _ (List.mem_append_right _ h)) (by decide +kernel))
set_option maxRecDepth 20000 in
theorem gL_law_L_allow : GoodIn wsL_law (va_wsS RL 85 yL_allow wsL_allow) := goodIn_app (goodIn_of _ (by decide +kernel)) ggL_law_L_allow
set_option maxRecDepth 20000 in
theorem ggL_law_X4_allow : GoodIn wsL_law wsX4_allow := goodIn_r _ [195, 98, 99, 158, 159, 5, 160, 161, 162, 163, 164, 165, 166, 167, 168, 169, 170, 171, 172, 173, 103, 174, 175, 176, 177, 178, 833, 834, 835, 836, 837, 838, 839, 840, 841, 842, 843, 844, 845, 846, 847, 848, 849, 850, 851, 852, 853, 854, 855, 856, 857, 858, 859, 860, 861] (by decide +kernel) (by decide +kernel)
set_option maxRecDepth 20000 in
theorem gL_law_X4_allow : GoodIn wsL_law (wsV RL 88 RX4 yX4_allow wsX4_allow) := goodIn_app (goodIn_of _ (by decide +kernel)) ggL_law_X4_allow
set_option maxRecDepth 20000 in
theorem ggL_law_L_refuse : GoodIn wsL_law wsL_refuse := goodIn_ca (goodIn_ca (goodIn_r _ [198, 121, 122, 199, 200, 201, 2, 202, 203, 132, 133, 134, 127, 128, 135, 136, 137, 141, 142, 143, 144, 16, 17, 145, 146, 147, 148, 149, 150, 151, 152, 15, 153, 48, 862, 863, 864, 865, 866, 867, 868, 869, 870, 871, 872, 873, 874, 875, 876, 877, 825, 826, 827, 828, 829, 830, 831, 832] (by decide +kernel) (by decide +kernel)) (goodIn_sub (fun _ h => List.mem_append_left _ (List.mem_append_left _ (List.mem_append_right _ h))) (by decide +kernel))) (goodIn_sub (fun _ h => List.mem_append_left _ (List.mem_append_right _ h)) (by decide +kernel))
set_option maxRecDepth 20000 in
theorem gL_law_L_refuse : GoodIn wsL_law (va_wsS RL 89 yL_refuse wsL_refuse) := goodIn_app (goodIn_of _ (by decide +kernel)) ggL_law_L_refuse
set_option maxRecDepth 20000 in
theorem ggL_law_X4_refuse : GoodIn wsL_law wsX4_refuse := goodIn_r _ [207, 100, 158, 159, 5, 160, 161, 162, 163, 164, 165, 166, 170, 171, 172, 173, 103, 174, 175, 176, 177, 178, 833, 834, 835, 836, 837, 838, 839, 840, 841, 842, 843, 844, 845, 846, 847, 848, 849, 850, 851, 852, 853, 854, 855, 856, 857, 858, 859, 860, 861] (by decide +kernel) (by decide +kernel)
set_option maxRecDepth 20000 in
theorem gL_law_X4_refuse : GoodIn wsL_law (wsV RL 92 RX4 yX4_refuse wsX4_refuse) := goodIn_app (goodIn_of _ (by decide +kernel)) ggL_law_X4_refuse
set_option maxRecDepth 20000 in
theorem ggL_law_X3_loop : GoodIn wsL_law wsX3_loop := goodIn_r _ [211, 18, 825, 826, 827, 828, 829, 830, 831, 832] (by decide +kernel) (by decide +kernel)
set_option maxRecDepth 20000 in
theorem gL_law_X3_loop : GoodIn wsL_law (wsV RL 93 RX3 yX3_loop wsX3_loop) := goodIn_app (goodIn_of _ (by decide +kernel)) ggL_law_X3_loop
set_option maxRecDepth 20000 in
theorem ggL_law_X4_loop : GoodIn wsL_law wsX4_loop := goodIn_r _ [215, 178, 216, 833, 834, 835, 836, 837, 838, 839, 840, 841, 842, 843, 844, 845, 846, 847, 848, 849, 850, 851, 852, 853, 854, 855, 856, 857, 858, 859, 860, 861] (by decide +kernel) (by decide +kernel)
set_option maxRecDepth 20000 in
theorem gL_law_X4_loop : GoodIn wsL_law (wsV RL 97 RX4 yX4_loop wsX4_loop) := goodIn_app (goodIn_of _ (by decide +kernel)) ggL_law_X4_loop
set_option maxRecDepth 20000 in
theorem ggL_law_L_open : GoodIn wsL_law wsL_open := goodIn_ca (goodIn_ca (goodIn_r _ [219, 121, 122, 220, 221, 222, 2, 223, 127, 128, 224, 225, 226, 227, 129, 228, 132, 133, 134, 141, 142, 143, 144, 16, 17, 145, 146, 147, 148, 149, 150, 151, 152, 15, 153, 48, 229, 230, 231, 232, 233, 234, 235, 236, 237, 238, 239, 240, 241, 18, 20, 242, 243, 244, 245, 46, 246, 63, 58, 59, 60, 61, 247, 248, 249, 250, 62, 862, 863, 864, 865, 866, 867, 868, 869, 870, 871, 872, 873, 874, 875, 876, 877, 825, 826, 827, 828, 829, 830, 831, 832, 886, 887, 888, 889, 890, 891] (by decide +kernel) (by decide +kernel)) (goodIn_sub (fun _ h => List.mem_append_left _ (List.mem_append_left _ (List.mem_append_right _ h))) (by decide +kernel))) (goodIn_sub (fun _ h => List.mem_append_left _ (List.mem_append_right _ h)) (by decide +kernel))
set_option maxRecDepth 20000 in
theorem gL_law_L_open : GoodIn wsL_law (va_wsS RL 98 yL_open wsL_open) := goodIn_app (goodIn_of _ (by decide +kernel)) ggL_law_L_open
set_option maxRecDepth 20000 in
theorem ggL_law_X4_open : GoodIn wsL_law wsX4_open := goodIn_r _ [254, 103, 106, 104, 108, 101, 95, 161, 162, 5, 163, 164, 165, 166, 170, 171, 172, 173, 174, 175, 176, 177, 178, 255, 256, 257, 258, 105, 116, 107, 259, 260, 261, 262, 216, 263, 110, 111, 112, 113, 114, 833, 834, 835, 836, 837, 838, 839, 840, 841, 842, 843, 844, 845, 846, 847, 848, 849, 850, 851, 852, 853, 854, 855, 856, 857, 858, 859, 860, 861] (by decide +kernel) (by decide +kernel)
set_option maxRecDepth 20000 in
theorem gL_law_X4_open : GoodIn wsL_law (wsV RL 101 RX4 yX4_open wsX4_open) := goodIn_app (goodIn_of _ (by decide +kernel)) ggL_law_X4_open
set_option maxRecDepth 20000 in
theorem ggL_law_L_close : GoodIn wsL_law wsL_close := goodIn_ca (goodIn_ca (goodIn_r _ [266, 121, 122, 267, 268, 269, 2, 270, 148, 149, 224, 271, 132, 133, 134, 127, 128, 141, 142, 143, 144, 16, 17, 272, 273, 274, 15, 275, 48, 276, 151, 152, 153, 277, 278, 279, 280, 237, 281, 238, 239, 240, 241, 18, 20, 242, 243, 244, 245, 46, 246, 63, 58, 59, 60, 61, 247, 248, 249, 250, 62, 862, 863, 864, 865, 866, 867, 868, 869, 870, 871, 872, 873, 874, 875, 876, 877, 825, 826, 827, 828, 829, 830, 831, 832, 886, 887, 888, 889, 890, 891] (by decide +kernel) (by decide +kernel)) (goodIn_sub (fun _ h => List.mem_append_left _ (List.mem_append_right _ h)) (by decide +kernel))) (goodIn_sub (fun _ h => List.mem_append_left _ (List.mem_append_left _ (List.mem_append_right _ h))) (by decide +kernel))
set_option maxRecDepth 20000 in
theorem gL_law_L_close : GoodIn wsL_law (va_wsS RL 102 yL_close wsL_close) := goodIn_app (goodIn_of _ (by decide +kernel)) ggL_law_L_close
set_option maxRecDepth 20000 in
theorem ggL_law_X4_close : GoodIn wsL_law wsX4_close := goodIn_r _ [285, 103, 109, 107, 161, 162, 5, 163, 164, 165, 166, 170, 171, 172, 173, 174, 175, 176, 177, 178, 286, 287, 288, 289, 116, 259, 260, 261, 262, 216, 263, 110, 111, 112, 113, 114, 833, 834, 835, 836, 837, 838, 839, 840, 841, 842, 843, 844, 845, 846, 847, 848, 849, 850, 851, 852, 853, 854, 855, 856, 857, 858, 859, 860, 861] (by decide +kernel) (by decide +kernel)
set_option maxRecDepth 20000 in
theorem gL_law_X4_close : GoodIn wsL_law (wsV RL 105 RX4 yX4_close wsX4_close) := goodIn_app (goodIn_of _ (by decide +kernel)) ggL_law_X4_close
set_option maxRecDepth 20000 in
theorem ggL_law_L_deliver : GoodIn wsL_law wsL_deliver := goodIn_ca (goodIn_ca (goodIn_r _ [292, 121, 293, 294, 295, 296, 2, 297, 242, 24, 298, 132, 133, 134, 127, 128, 141, 142, 143, 144, 16, 17, 299, 300, 301, 302, 303, 304, 305, 306, 307, 46, 308, 58, 62, 309, 59, 310, 60, 311, 312, 61, 313, 314, 315, 316, 63, 247, 248, 249, 250, 317, 318, 319, 320, 321, 236, 322, 323, 324, 325, 281, 224, 238, 239, 240, 241, 18, 20, 243, 244, 245, 246, 272, 273, 274, 15, 275, 48, 276, 151, 152, 153, 326, 327, 328, 329, 330, 331, 332, 333, 226, 227, 225, 334, 335, 336, 337, 53, 232, 233, 234, 235, 237, 228, 338, 339, 340, 341, 342, 26, 343, 344, 345, 346, 347, 348, 349, 350, 351, 41, 352, 353, 354, 355, 38, 356, 357, 358, 359, 39, 360, 361, 362, 230, 231, 229, 363, 364, 365, 366, 367, 368, 369, 370, 51, 371, 372, 373, 374, 375, 376, 377, 378, 379, 380, 381, 382, 36, 37, 42, 383, 384, 385, 386, 862, 863, 864, 865, 866, 867, 868, 869, 870, 871, 872, 873, 874, 875, 876, 877, 825, 826, 827, 828, 829, 830, 831, 832, 878, 879, 880, 881, 886, 887, 888, 889, 890, 891] (by decide +kernel) (by decide +kernel)) (goodIn_sub (fun _ h => List.mem_append_left _ (List.mem_append_left _ (List.mem_append_right _ h))) (by decide +kernel))) (goodIn_sub (fun _ h => List.mem_append_right _ h) (by decide +kernel))
set_option maxRecDepth 20000 in
theorem gL_law_L_deliver : GoodIn wsL_law (va_wsS RL 106 yL_deliver wsL_deliver) := goodIn_app (goodIn_of _ (by decide +kernel)) ggL_law_L_deliver
set_option maxRecDepth 20000 in
theorem ggL_law_X4_deliver : GoodIn wsL_law wsX4_deliver := goodIn_r _ [390, 391, 392, 393, 394, 5, 395, 110, 161, 162, 163, 164, 165, 166, 174, 175, 176, 177, 178, 396, 397, 398, 399, 111, 112, 400, 113, 401, 115, 114, 402, 403, 404, 405, 103, 170, 171, 172, 173, 286, 287, 288, 289, 116, 259, 260, 261, 262, 216, 263, 406, 407, 408, 409, 104, 108, 106, 255, 256, 257, 258, 105, 101, 107, 410, 411, 412, 413, 100, 98, 99, 102, 414, 415, 416, 417, 418, 419, 420, 421, 422, 423, 424, 425, 96, 97, 833, 834, 835, 836, 837, 838, 839, 840, 841, 842, 843, 844, 845, 846, 847, 848, 849, 850, 851, 852, 853, 854, 855, 856, 857, 858, 859, 860, 861] (by decide +kernel) (by decide +kernel)
set_option maxRecDepth 20000 in
theorem gL_law_X4_deliver : GoodIn wsL_law (wsV RL 109 RX4 yX4_deliver wsX4_deliver) := goodIn_app (goodIn_of _ (by decide +kernel)) ggL_law_X4_deliver
set_option maxRecDepth 20000 in
theorem ggL_law_L_lose : GoodIn wsL_law wsL_lose := goodIn_ca (goodIn_ca (goodIn_r _ [428, 121, 293, 429, 430, 431, 2, 432, 242, 132, 133, 134, 127, 128, 141, 142, 143, 144, 16, 17, 299, 300, 301, 302, 303, 304, 433, 434, 435, 46, 436, 58, 247, 248, 249, 250, 62, 437, 314, 315, 316, 63, 862, 863, 864, 865, 866, 867, 868, 869, 870, 871, 872, 873, 874, 875, 876, 877, 825, 826, 827, 828, 829, 830, 831, 832, 886, 887, 888, 889, 890, 891] (by decide +kernel) (by decide +kernel)) (goodIn_sub (fun _ h => List.mem_append_left _ (List.mem_append_left _ (List.mem_append_right _ h))) (by decide +kernel))) (goodIn_sub (fun _ h => List.mem_append_right _ h) (by decide +kernel))
set_option maxRecDepth 20000 in
theorem gL_law_L_lose : GoodIn wsL_law (va_wsS RL 110 yL_lose wsL_lose) := goodIn_app (goodIn_of _ (by decide +kernel)) ggL_law_L_lose
set_option maxRecDepth 20000 in
theorem ggL_law_X4_lose : GoodIn wsL_law wsX4_lose := goodIn_r _ [441, 391, 392, 393, 394, 5, 395, 110, 161, 162, 163, 164, 165, 166, 174, 175, 176, 177, 178, 396, 397, 398, 399, 111, 112, 400, 113, 401, 115, 114, 833, 834, 835, 836, 837, 838, 839, 840, 841, 842, 843, 844, 845, 846, 847, 848, 849, 850, 851, 852, 853, 854, 855, 856, 857, 858, 859, 860, 861] (by decide +kernel) (by decide +kernel)
set_option maxRecDepth 20000 in
theorem gL_law_X4_lose : GoodIn wsL_law (wsV RL 112 RX4 yX4_lose wsX4_lose) := goodIn_app (goodIn_of _ (by decide +kernel)) ggL_law_X4_lose
set_option maxRecDepth 20000 in
theorem ggL_law_X3_tick : GoodIn wsL_law wsX3_tick := goodIn_r _ [445, 20, 19, 446, 447, 448, 2, 449, 237, 141, 142, 143, 144, 16, 17, 450, 451, 452, 15, 453, 48, 276, 151, 152, 153, 454, 455, 456, 457, 224, 271, 232, 233, 234, 235, 225, 236, 226, 228, 238, 239, 240, 241, 18, 242, 243, 244, 245, 46, 246, 63, 58, 59, 60, 61, 247, 248, 249, 250, 62, 277, 278, 279, 280, 281, 825, 826, 827, 828, 829, 830, 831, 832, 862, 863, 864, 865, 866, 867, 868, 869, 870, 871, 872, 873, 874, 875, 876, 877, 886, 887, 888, 889, 890, 891] (by decide +kernel) (by decide +kernel)
set_option maxRecDepth 20000 in
theorem gL_law_X3_tick : GoodIn wsL_law (wsV RL 113 RX3 yX3_tick wsX3_tick) := goodIn_app (goodIn_of _ (by decide +kernel)) ggL_law_X3_tick
set_option maxRecDepth 20000 in
theorem ggL_law_X4_tick : GoodIn wsL_law wsX4_tick := goodIn_r _ [461, 178, 263, 462, 103, 170, 171, 172, 5, 173, 463, 464, 465, 466, 107, 109, 286, 287, 288, 289, 116, 259, 260, 261, 262, 216, 110, 111, 112, 113, 114, 255, 256, 257, 258, 106, 105, 101, 104, 833, 834, 835, 836, 837, 838, 839, 840, 841, 842, 843, 844, 845, 846, 847, 848, 849, 850, 851, 852, 853, 854, 855, 856, 857, 858, 859, 860, 861] (by decide +kernel) (by decide +kernel)
