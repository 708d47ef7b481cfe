set_option maxRecDepth 20000 in
theorem ggL_law_X4_copy : GoodIn wsL_law wsX4_copy := goodIn_r _ [767, 82, 25, 742, 768, 244, 743, 769, 387, 388, 389, 720, 721, 2, 722, 83, 84, 85, 86, 87, 88, 89, 29, 744, 745, 746, 27, 747, 60, 770, 771, 772, 773, 61, 868, 869, 870, 871, 872, 873, 874, 907, 908, 909] (by decide +kernel) (by decide +kernel)
set_option maxRecDepth 20000 in
theorem gL_law_X4_copy : GoodIn wsL_law (wsV RL 124 RX4 yX4_copy wsX4_copy) := goodIn_app (goodIn_of _ (by decide +kernel)) ggL_law_X4_copy
set_option maxRecDepth 20000 in
theorem ggL_law_X5_copy : GoodIn wsL_law wsX5_copy := goodIn_r _ [777, 75, 778, 779, 780, 5, 781, 94, 73, 760, 256, 74, 735, 736, 737, 95, 96, 97, 102, 103, 104, 105, 71, 875, 876, 877, 878, 879, 880, 881, 882, 883, 884, 885, 886, 887, 888, 889] (by decide +kernel) (by decide +kernel)
set_option maxRecDepth 20000 in
theorem gL_law_X5_copy : GoodIn wsL_law (wsV RL 128 RX5 yX5_copy wsX5_copy) := goodIn_app (goodIn_of _ (by decide +kernel)) ggL_law_X5_copy
set_option maxRecDepth 20000 in
theorem ggL_law_X4_lays : GoodIn wsL_law wsX4_lays := goodIn_r _ [785, 82, 25, 742, 719, 16, 183, 786, 332, 193, 333, 743, 787, 245, 720, 721, 2, 722, 83, 84, 85, 86, 87, 88, 89, 29, 744, 745, 746, 27, 747, 60, 868, 869, 870, 871, 872, 873, 874, 907, 908, 909, 890, 891, 892, 893, 894, 895, 896, 897, 898, 899, 900] (by decide +kernel) (by decide +kernel)
set_option maxRecDepth 20000 in
theorem gL_law_X4_lays : GoodIn wsL_law (wsV RL 129 RX4 yX4_lays wsX4_lays) := goodIn_app (goodIn_of _ (by decide +kernel)) ggL_law_X4_lays
set_option maxRecDepth 20000 in
theorem ggL_law_X5_lays : GoodIn wsL_law wsX5_lays := goodIn_r _ [791, 74, 68, 75, 756, 757, 758, 5, 759, 94, 73, 760, 735, 736, 737, 95, 96, 97, 102, 103, 104, 105, 71, 171, 172, 173, 174, 875, 876, 877, 878, 879, 880, 881, 882, 883, 884, 885, 886, 887, 888, 889] (by decide +kernel) (by decide +kernel)
set_option maxRecDepth 20000 in
theorem gL_law_X5_lays : GoodIn wsL_law (wsV RL 132 RX5 yX5_lays wsX5_lays) := goodIn_app (goodIn_of _ (by decide +kernel)) ggL_law_X5_lays
set_option maxRecDepth 20000 in
theorem ggL_law_X4_book : GoodIn wsL_law wsX4_book := goodIn_r _ [795, 25, 719, 245, 796, 797, 798, 2, 799, 82, 742, 720, 721, 722, 83, 84, 85, 744, 745, 746, 27, 747, 60, 179, 180, 181, 182, 16, 183, 86, 87, 88, 89, 29, 378, 379, 380, 381, 17, 382, 383, 384, 15, 385, 34, 35, 36, 37, 38, 39, 386, 387, 388, 389, 40, 41, 42, 43, 44, 748, 749, 750, 751, 63, 800, 318, 319, 320, 321, 322, 323, 324, 325, 192, 193, 194, 326, 185, 186, 187, 188, 189, 152, 190, 191, 195, 196, 197, 327, 328, 329, 330, 331, 332, 333, 334, 335, 336, 337, 338, 339, 340, 341, 342, 266, 267, 268, 269, 270, 271, 343, 344, 345, 346, 347, 289, 290, 291, 292, 293, 294, 868, 869, 870, 871, 872, 873, 874, 907, 908, 909, 890, 891, 892, 893, 894, 895, 896, 897, 898, 899, 900] (by decide +kernel) (by decide +kernel)
set_option maxRecDepth 20000 in
theorem gL_law_X4_book : GoodIn wsL_law (wsV RL 133 RX4 yX4_book wsX4_book) := goodIn_app (goodIn_of _ (by decide +kernel)) ggL_law_X4_book
set_option maxRecDepth 20000 in
theorem ggL_law_X5_book : GoodIn wsL_law wsX5_book := goodIn_r _ [804, 74, 75, 73, 805, 806, 807, 5, 808, 94, 756, 757, 758, 759, 760, 735, 736, 737, 95, 96, 97, 206, 207, 208, 209, 68, 102, 103, 104, 105, 71, 394, 395, 396, 397, 70, 398, 399, 400, 133, 134, 135, 136, 761, 762, 763, 358, 359, 360, 361, 210, 211, 212, 213, 214, 215, 216, 171, 172, 173, 174, 362, 363, 364, 365, 299, 300, 301, 302, 366, 367, 368, 369, 370, 371, 372, 373, 280, 281, 282, 283, 401, 402, 403, 404, 875, 876, 877, 878, 879, 880, 881, 882, 883, 884, 885, 886, 887, 888, 889] (by decide +kernel) (by decide +kernel)
set_option maxRecDepth 20000 in
theorem gL_law_X5_book : GoodIn wsL_law (wsV RL 136 RX5 yX5_book wsX5_book) := goodIn_app (goodIn_of _ (by decide +kernel)) ggL_law_X5_book
set_option maxRecDepth 20000 in
theorem ggL_law_X4_read : GoodIn wsL_law wsX4_read := goodIn_r _ [812, 235, 536, 25, 796, 797, 798, 2, 799, 82, 742, 720, 721, 722, 83, 84, 85, 744, 745, 746, 27, 747, 60, 179, 180, 181, 182, 16, 183, 86, 87, 88, 89, 29, 378, 379, 380, 381, 17, 382, 383, 384, 15, 385, 34, 35, 36, 37, 38, 39, 386, 387, 388, 389, 40, 41, 42, 43, 44, 813, 814, 815, 816, 817, 818, 317, 318, 319, 320, 321, 322, 323, 324, 325, 192, 193, 194, 326, 185, 186, 187, 188, 189, 152, 190, 191, 195, 196, 197, 327, 328, 329, 330, 331, 332, 333, 334, 335, 336, 337, 338, 339, 340, 341, 342, 266, 267, 268, 269, 270, 271, 343, 344, 345, 346, 347, 289, 290, 291, 292, 293, 294, 890, 891, 892, 893, 894, 895, 896, 897, 898, 899, 900, 868, 869, 870, 871, 872, 873, 874, 907, 908, 909] (by decide +kernel) (by decide +kernel)
set_option maxRecDepth 20000 in
theorem gL_law_X4_read : GoodIn wsL_law (wsV RL 137 RX4 yX4_read wsX4_read) := goodIn_app (goodIn_of _ (by decide +kernel)) ggL_law_X4_read
set_option maxRecDepth 20000 in
theorem ggL_law_X5_read : GoodIn wsL_law wsX5_read := goodIn_r _ [822, 805, 806, 807, 5, 808, 94, 756, 757, 758, 759, 73, 760, 735, 736, 737, 95, 96, 97, 206, 207, 208, 209, 68, 102, 103, 104, 105, 71, 394, 395, 396, 397, 70, 398, 399, 400, 171, 172, 173, 174, 823, 824, 825, 826, 74, 75, 133, 134, 135, 136, 358, 359, 360, 361, 210, 211, 212, 213, 214, 215, 216, 362, 363, 364, 365, 299, 300, 301, 302, 366, 367, 368, 369, 370, 371, 372, 373, 280, 281, 282, 283, 401, 402, 403, 404, 875, 876, 877, 878, 879, 880, 881, 882, 883, 884, 885, 886, 887, 888, 889] (by decide +kernel) (by decide +kernel)
set_option maxRecDepth 20000 in
theorem gL_law_X5_read : GoodIn wsL_law (wsV RL 140 RX5 yX5_read wsX5_read) := goodIn_app (goodIn_of _ (by decide +kernel)) ggL_law_X5_read
set_option maxRecDepth 20000 in
theorem ggL_law_X4_image : GoodIn wsL_law wsX4_image := goodIn_r _ [830, 18, 16, 19, 382, 383, 384, 15, 385, 34, 35, 36, 37, 38, 39, 386, 387, 388, 389, 40, 41, 42, 43, 44, 868, 869, 870, 871, 872, 873, 874, 890, 891, 892, 893, 894, 895, 896, 897, 898, 899, 900] (by decide +kernel) (by decide +kernel)
set_option maxRecDepth 20000 in
theorem gL_law_X4_image : GoodIn wsL_law (wsV RL 141 RX4 yX4_image wsX4_image) := goodIn_app (goodIn_of _ (by decide +kernel)) ggL_law_X4_image
set_option maxRecDepth 20000 in
theorem ggL_law_X5_image : GoodIn wsL_law wsX5_image := goodIn_r _ [834, 68, 69, 835, 398, 399, 5, 400, 875, 876, 877, 878, 879, 880, 881, 882, 883, 884, 885, 886, 887, 888, 889] (by decide +kernel) (by decide +kernel)
set_option maxRecDepth 20000 in
theorem gL_law_X5_image : GoodIn wsL_law (wsV RL 144 RX5 yX5_image wsX5_image) := goodIn_app (goodIn_of _ (by decide +kernel)) ggL_law_X5_image
set_option maxRecDepth 20000 in
theorem ggL_law_X4_undo : GoodIn wsL_law wsX4_undo := goodIn_r _ [839, 19, 444, 16, 18, 183, 86, 87, 88, 2, 89, 82, 29, 83, 84, 85, 382, 383, 384, 15, 385, 34, 35, 36, 37, 38, 39, 386, 387, 388, 389, 40, 41, 42, 43, 44, 868, 869, 870, 871, 872, 873, 874, 890, 891, 892, 893, 894, 895, 896, 897, 898, 899, 900] (by decide +kernel) (by decide +kernel)
set_option maxRecDepth 20000 in
theorem gL_law_X4_undo : GoodIn wsL_law (wsV RL 145 RX4 yX4_undo wsX4_undo) := goodIn_app (goodIn_of _ (by decide +kernel)) ggL_law_X4_undo
set_option maxRecDepth 20000 in
theorem ggL_law_X5_undo : GoodIn wsL_law wsX5_undo := goodIn_r _ [843, 835, 449, 69, 68, 102, 103, 104, 5, 105, 71, 94, 398, 399, 400, 875, 876, 877, 878, 879, 880, 881, 882, 883, 884, 885, 886, 887, 888, 889] (by decide +kernel) (by decide +kernel)
set_option maxRecDepth 20000 in
theorem gL_law_X5_undo : GoodIn wsL_law (wsV RL 148 RX5 yX5_undo wsX5_undo) := goodIn_app (goodIn_of _ (by decide +kernel)) ggL_law_X5_undo
set_option maxRecDepth 20000 in
theorem ggL_law_X4_tear : GoodIn wsL_law wsX4_tear := goodIn_r _ [847, 19, 868, 869, 870, 871, 872, 873, 874] (by decide +kernel) (by decide +kernel)
set_option maxRecDepth 20000 in
theorem gL_law_X4_tear : GoodIn wsL_law (wsV RL 149 RX4 yX4_tear wsX4_tear) := goodIn_app (goodIn_of _ (by decide +kernel)) ggL_law_X4_tear
set_option maxRecDepth 20000 in
theorem ggL_law_X5_tear : GoodIn wsL_law wsX5_tear := goodIn_r _ [851, 835, 875, 876, 877, 878, 879, 880, 881, 882, 883, 884, 885, 886, 887, 888, 889] (by decide +kernel) (by decide +kernel)
set_option maxRecDepth 20000 in
theorem gL_law_X5_tear : GoodIn wsL_law (wsV RL 152 RX5 yX5_tear wsX5_tear) := goodIn_app (goodIn_of _ (by decide +kernel)) ggL_law_X5_tear
set_option maxRecDepth 20000 in
theorem ggL_law_X4_count : GoodIn wsL_law wsX4_count := goodIn_r _ [855, 16, 183, 23, 545, 526, 536, 82, 121, 122, 123, 15, 124, 38, 86, 87, 88, 2, 89, 29, 83, 84, 85, 868, 869, 870, 871, 872, 873, 874, 890, 891, 892, 893, 894, 895, 896, 897, 898, 899, 900, 901, 902, 903, 904, 905, 906] (by decide +kernel) (by decide +kernel)
set_option maxRecDepth 20000 in
theorem gL_law_X4_count : GoodIn wsL_law (wsV RL 153 RX4 yX4_count wsX4_count) := goodIn_app (goodIn_of _ (by decide +kernel)) ggL_law_X4_count
set_option maxRecDepth 20000 in
theorem ggL_law_X5_count : GoodIn wsL_law wsX5_count := goodIn_r _ [859, 68, 554, 94, 141, 142, 143, 5, 144, 133, 134, 135, 136, 102, 103, 104, 105, 71, 875, 876, 877, 878, 879, 880, 881, 882, 883, 884, 885, 886, 887, 888, 889] (by decide +kernel) (by decide +kernel)
set_option maxRecDepth 20000 in
theorem gL_law_X5_count : GoodIn wsL_law (wsV RL 156 RX5 yX5_count wsX5_count) := goodIn_app (goodIn_of _ (by decide +kernel)) ggL_law_X5_count
set_option maxRecDepth 20000 in
theorem ggL_law_X4_status : GoodIn wsL_law wsX4_status := goodIn_r _ [863, 29, 82, 83, 84, 2, 85, 86, 87, 88, 89, 868, 869, 870, 871, 872, 873, 874] (by decide +kernel) (by decide +kernel)
set_option maxRecDepth 20000 in
theorem gL_law_X4_status : GoodIn wsL_law (wsV RL 157 RX4 yX4_status wsX4_status) := goodIn_app (goodIn_of _ (by decide +kernel)) ggL_law_X4_status
set_option maxRecDepth 20000 in
theorem ggL_law_X5_status : GoodIn wsL_law wsX5_status := goodIn_r _ [867, 94, 71, 95, 96, 5, 97, 102, 103, 104, 105, 875, 876, 877, 878, 879, 880, 881, 882, 883, 884, 885, 886, 887, 888, 889] (by decide +kernel) (by decide +kernel)
set_option maxRecDepth 20000 in
theorem gL_law_X5_status : GoodIn wsL_law (wsV RL 160 RX5 yX5_status wsX5_status) := goodIn_app (goodIn_of _ (by decide +kernel)) ggL_law_X5_status
