set_option maxRecDepth 20000 in
theorem ggL_law_X4_far : GoodIn wsL_law wsX4_far := goodIn_r _ [501, 82, 245, 444, 179, 180, 181, 2, 182, 16, 183, 83, 84, 85, 479, 480, 481, 86, 87, 88, 89, 29, 378, 379, 380, 381, 17, 382, 383, 384, 15, 385, 34, 35, 36, 37, 38, 39, 386, 387, 388, 389, 40, 41, 42, 43, 44, 436, 437, 438, 439, 313, 314, 315, 316, 317, 318, 319, 320, 321, 322, 323, 324, 325, 192, 193, 194, 326, 185, 186, 187, 188, 189, 152, 190, 191, 195, 196, 197, 327, 328, 329, 330, 331, 332, 333, 334, 335, 336, 337, 338, 339, 340, 341, 342, 266, 267, 268, 269, 270, 271, 343, 344, 345, 346, 347, 289, 290, 291, 292, 293, 294, 890, 891, 892, 893, 894, 895, 896, 897, 898, 899, 900, 868, 869, 870, 871, 872, 873, 874] (by decide +kernel) (by decide +kernel)
set_option maxRecDepth 20000 in
theorem gL_law_X4_far : GoodIn wsL_law (wsV RL 85 RX4 yX4_far wsX4_far) := goodIn_app (goodIn_of _ (by decide +kernel)) ggL_law_X4_far
set_option maxRecDepth 20000 in
theorem ggL_law_X5_far : GoodIn wsL_law wsX5_far := goodIn_r _ [505, 94, 206, 207, 208, 5, 209, 68, 95, 96, 97, 102, 103, 104, 105, 71, 394, 395, 396, 397, 70, 398, 399, 400, 171, 172, 173, 174, 506, 507, 508, 509, 354, 355, 356, 357, 358, 359, 360, 361, 133, 134, 135, 136, 210, 211, 212, 213, 214, 215, 216, 362, 363, 364, 365, 299, 300, 301, 302, 366, 367, 368, 369, 370, 371, 372, 373, 280, 281, 282, 283, 401, 402, 403, 404, 486, 487, 488, 489, 449, 875, 876, 877, 878, 879, 880, 881, 882, 883, 884, 885, 886, 887, 888, 889] (by decide +kernel) (by decide +kernel)
set_option maxRecDepth 20000 in
theorem gL_law_X5_far : GoodIn wsL_law (wsV RL 88 RX5 yX5_far wsX5_far) := goodIn_app (goodIn_of _ (by decide +kernel)) ggL_law_X5_far
set_option maxRecDepth 20000 in
theorem ggL_law_X4_order : GoodIn wsL_law wsX4_order := goodIn_r _ [513, 82, 16, 183, 479, 480, 2, 481, 83, 84, 85, 86, 87, 88, 89, 29, 378, 379, 380, 381, 17, 382, 383, 384, 15, 385, 34, 35, 36, 37, 38, 39, 386, 387, 388, 389, 40, 41, 42, 43, 44, 309, 310, 311, 312, 313, 314, 315, 316, 317, 318, 319, 320, 321, 322, 323, 324, 325, 192, 193, 194, 326, 185, 186, 187, 188, 189, 152, 190, 191, 195, 196, 197, 327, 328, 329, 330, 331, 332, 333, 334, 335, 336, 337, 338, 339, 340, 341, 342, 266, 267, 268, 269, 270, 271, 343, 344, 345, 346, 347, 289, 290, 291, 292, 293, 294, 409, 410, 411, 412, 413, 118, 119, 120, 414, 415, 416, 417, 418, 419, 420, 514, 515, 516, 517, 440, 441, 442, 443, 444, 868, 869, 870, 871, 872, 873, 874, 890, 891, 892, 893, 894, 895, 896, 897, 898, 899, 900] (by decide +kernel) (by decide +kernel)
set_option maxRecDepth 20000 in
theorem gL_law_X4_order : GoodIn wsL_law (wsV RL 89 RX4 yX4_order wsX4_order) := goodIn_app (goodIn_of _ (by decide +kernel)) ggL_law_X4_order
set_option maxRecDepth 20000 in
theorem ggL_law_X5_order : GoodIn wsL_law wsX5_order := goodIn_r _ [521, 94, 68, 95, 96, 5, 97, 102, 103, 104, 105, 71, 394, 395, 396, 397, 70, 398, 399, 400, 425, 426, 427, 428, 354, 355, 356, 357, 358, 359, 360, 361, 133, 134, 135, 136, 210, 211, 212, 213, 214, 215, 216, 171, 172, 173, 174, 362, 363, 364, 365, 299, 300, 301, 302, 366, 367, 368, 369, 370, 371, 372, 373, 280, 281, 282, 283, 137, 138, 139, 140, 429, 430, 431, 401, 402, 403, 404, 486, 487, 488, 489, 449, 875, 876, 877, 878, 879, 880, 881, 882, 883, 884, 885, 886, 887, 888, 889] (by decide +kernel) (by decide +kernel)
set_option maxRecDepth 20000 in
theorem gL_law_X5_order : GoodIn wsL_law (wsV RL 92 RX5 yX5_order wsX5_order) := goodIn_app (goodIn_of _ (by decide +kernel)) ggL_law_X5_order
set_option maxRecDepth 20000 in
theorem ggL_law_X4_take : GoodIn wsL_law wsX4_take := goodIn_r _ [525, 82, 16, 183, 526, 527, 479, 480, 2, 481, 83, 84, 85, 86, 87, 88, 89, 29, 378, 379, 380, 381, 17, 382, 383, 384, 15, 385, 34, 35, 36, 37, 38, 39, 386, 387, 388, 389, 40, 41, 42, 43, 44, 309, 310, 311, 312, 313, 314, 315, 316, 317, 318, 319, 320, 321, 322, 323, 324, 325, 192, 193, 194, 326, 185, 186, 187, 188, 189, 152, 190, 191, 195, 196, 197, 327, 328, 329, 330, 331, 332, 333, 334, 335, 336, 337, 338, 339, 340, 341, 342, 266, 267, 268, 269, 270, 271, 343, 344, 345, 346, 347, 289, 290, 291, 292, 293, 294, 121, 122, 123, 124, 440, 441, 442, 443, 444, 868, 869, 870, 871, 872, 873, 874, 890, 891, 892, 893, 894, 895, 896, 897, 898, 899, 900] (by decide +kernel) (by decide +kernel)
set_option maxRecDepth 20000 in
theorem gL_law_X4_take : GoodIn wsL_law (wsV RL 93 RX4 yX4_take wsX4_take) := goodIn_app (goodIn_of _ (by decide +kernel)) ggL_law_X4_take
set_option maxRecDepth 20000 in
theorem ggL_law_X5_take : GoodIn wsL_law wsX5_take := goodIn_r _ [531, 94, 68, 95, 96, 5, 97, 102, 103, 104, 105, 71, 394, 395, 396, 397, 70, 398, 399, 400, 133, 134, 135, 136, 171, 172, 173, 174, 354, 355, 356, 357, 358, 359, 360, 361, 210, 211, 212, 213, 214, 215, 216, 362, 363, 364, 365, 299, 300, 301, 302, 366, 367, 368, 369, 370, 371, 372, 373, 280, 281, 282, 283, 129, 130, 131, 132, 429, 430, 431, 401, 402, 403, 404, 486, 487, 488, 489, 449, 875, 876, 877, 878, 879, 880, 881, 882, 883, 884, 885, 886, 887, 888, 889] (by decide +kernel) (by decide +kernel)
set_option maxRecDepth 20000 in
theorem gL_law_X5_take : GoodIn wsL_law (wsV RL 96 RX5 yX5_take wsX5_take) := goodIn_app (goodIn_of _ (by decide +kernel)) ggL_law_X5_take
set_option maxRecDepth 20000 in
theorem ggL_law_X4_load : GoodIn wsL_law wsX4_load := goodIn_r _ [535, 82, 536, 444, 179, 180, 181, 2, 182, 16, 183, 83, 84, 85, 479, 480, 481, 86, 87, 88, 89, 29, 378, 379, 380, 381, 17, 382, 383, 384, 15, 385, 34, 35, 36, 37, 38, 39, 386, 387, 388, 389, 40, 41, 42, 43, 44, 436, 437, 438, 439, 313, 314, 315, 316, 317, 318, 319, 320, 321, 322, 323, 324, 325, 192, 193, 194, 326, 185, 186, 187, 188, 189, 152, 190, 191, 195, 196, 197, 327, 328, 329, 330, 331, 332, 333, 334, 335, 336, 337, 338, 339, 340, 341, 342, 266, 267, 268, 269, 270, 271, 343, 344, 345, 346, 347, 289, 290, 291, 292, 293, 294, 890, 891, 892, 893, 894, 895, 896, 897, 898, 899, 900, 868, 869, 870, 871, 872, 873, 874] (by decide +kernel) (by decide +kernel)
set_option maxRecDepth 20000 in
theorem gL_law_X4_load : GoodIn wsL_law (wsV RL 97 RX4 yX4_load wsX4_load) := goodIn_app (goodIn_of _ (by decide +kernel)) ggL_law_X4_load
set_option maxRecDepth 20000 in
theorem ggL_law_X5_load : GoodIn wsL_law wsX5_load := goodIn_r _ [540, 94, 206, 207, 208, 5, 209, 68, 95, 96, 97, 102, 103, 104, 105, 71, 394, 395, 396, 397, 70, 398, 399, 400, 171, 172, 173, 174, 506, 507, 508, 509, 354, 355, 356, 357, 358, 359, 360, 361, 133, 134, 135, 136, 210, 211, 212, 213, 214, 215, 216, 362, 363, 364, 365, 299, 300, 301, 302, 366, 367, 368, 369, 370, 371, 372, 373, 280, 281, 282, 283, 401, 402, 403, 404, 486, 487, 488, 489, 449, 875, 876, 877, 878, 879, 880, 881, 882, 883, 884, 885, 886, 887, 888, 889] (by decide +kernel) (by decide +kernel)
set_option maxRecDepth 20000 in
theorem gL_law_X5_load : GoodIn wsL_law (wsV RL 100 RX5 yX5_load wsX5_load) := goodIn_app (goodIn_of _ (by decide +kernel)) ggL_law_X5_load
set_option maxRecDepth 20000 in
theorem ggL_law_X4_feed : GoodIn wsL_law wsX4_feed := goodIn_r _ [544, 82, 23, 545, 149, 83, 84, 2, 85, 86, 87, 88, 89, 29, 546, 547, 548, 22, 549, 50, 51, 868, 869, 870, 871, 872, 873, 874, 901, 902, 903, 904, 905, 906] (by decide +kernel) (by decide +kernel)
set_option maxRecDepth 20000 in
theorem gL_law_X4_feed : GoodIn wsL_law (wsV RL 101 RX4 yX4_feed wsX4_feed) := goodIn_app (goodIn_of _ (by decide +kernel)) ggL_law_X4_feed
set_option maxRecDepth 20000 in
theorem ggL_law_X5_feed : GoodIn wsL_law wsX5_feed := goodIn_r _ [553, 94, 554, 166, 72, 95, 96, 5, 97, 102, 103, 104, 105, 71, 875, 876, 877, 878, 879, 880, 881, 882, 883, 884, 885, 886, 887, 888, 889] (by decide +kernel) (by decide +kernel)
set_option maxRecDepth 20000 in
theorem gL_law_X5_feed : GoodIn wsL_law (wsV RL 104 RX5 yX5_feed wsX5_feed) := goodIn_app (goodIn_of _ (by decide +kernel)) ggL_law_X5_feed
set_option maxRecDepth 20000 in
theorem ggL_law_X4_wipe : GoodIn wsL_law wsX4_wipe := goodIn_r _ [558, 23, 545, 868, 869, 870, 871, 872, 873, 874, 901, 902, 903, 904, 905, 906] (by decide +kernel) (by decide +kernel)
set_option maxRecDepth 20000 in
theorem gL_law_X4_wipe : GoodIn wsL_law (wsV RL 105 RX4 yX4_wipe wsX4_wipe) := goodIn_app (goodIn_of _ (by decide +kernel)) ggL_law_X4_wipe
set_option maxRecDepth 20000 in
theorem ggL_law_X5_wipe : GoodIn wsL_law wsX5_wipe := goodIn_r _ [562, 554, 875, 876, 877, 878, 879, 880, 881, 882, 883, 884, 885, 886, 887, 888, 889] (by decide +kernel) (by decide +kernel)
set_option maxRecDepth 20000 in
theorem gL_law_X5_wipe : GoodIn wsL_law (wsV RL 108 RX5 yX5_wipe wsX5_wipe) := goodIn_app (goodIn_of _ (by decide +kernel)) ggL_law_X5_wipe
set_option maxRecDepth 20000 in
theorem ggL_law_X4_morning : GoodIn wsL_law wsX4_morning := goodIn_r _ [566, 23, 16, 545, 378, 379, 380, 2, 381, 17, 382, 383, 384, 15, 385, 34, 35, 36, 37, 38, 39, 386, 387, 388, 389, 40, 41, 42, 43, 44, 567, 568, 569, 22, 570, 54, 53, 52, 571, 572, 573, 574, 51, 50, 575, 576, 577, 578, 579, 580, 581, 582, 583, 584, 585, 586, 587, 588, 55, 589, 332, 193, 333, 590, 591, 592, 593, 594, 595, 152, 596, 597, 598, 599, 600, 601, 602, 603, 604, 605, 606, 607, 608, 609, 610, 611, 612, 613, 614, 615, 616, 617, 618, 619, 620, 621, 622, 623, 624, 625, 626, 627, 628, 629, 630, 631, 632, 633, 634, 635, 636, 637, 638, 639, 640, 641, 642, 643, 644, 645, 646, 647, 648, 649, 650, 651, 652, 653, 654, 655, 656, 657, 658, 659, 660, 661, 662, 663, 664, 665, 666, 155, 156, 157, 667, 159, 160, 161, 868, 869, 870, 871, 872, 873, 874, 901, 902, 903, 904, 905, 906, 890, 891, 892, 893, 894, 895, 896, 897, 898, 899, 900] (by decide +kernel) (by decide +kernel)
set_option maxRecDepth 20000 in
theorem gL_law_X4_morning : GoodIn wsL_law (wsV RL 109 RX4 yX4_morning wsX4_morning) := goodIn_app (goodIn_of _ (by decide +kernel)) ggL_law_X4_morning
set_option maxRecDepth 20000 in
theorem ggL_law_X5_morning : GoodIn wsL_law wsX5_morning := goodIn_r _ [671, 672, 673, 674, 554, 675, 394, 395, 396, 5, 397, 68, 70, 398, 399, 400, 676, 677, 678, 679, 680, 72, 681, 682, 683, 684, 95, 96, 97, 685, 686, 687, 688, 689, 690, 691, 692, 693, 694, 695, 696, 697, 698, 699, 700, 701, 702, 703, 704, 705, 706, 707, 708, 709, 710, 711, 712, 713, 167, 168, 169, 170, 171, 172, 173, 174, 401, 402, 403, 404, 875, 876, 877, 878, 879, 880, 881, 882, 883, 884, 885, 886, 887, 888, 889] (by decide +kernel) (by decide +kernel)
set_option maxRecDepth 20000 in
theorem gL_law_X5_morning : GoodIn wsL_law (wsV RL 112 RX5 yX5_morning wsX5_morning) := goodIn_app (goodIn_of _ (by decide +kernel)) ggL_law_X5_morning
set_option maxRecDepth 20000 in
theorem ggL_law_X4_sheet : GoodIn wsL_law wsX4_sheet := goodIn_r _ [717, 82, 718, 25, 719, 720, 721, 2, 722, 83, 84, 85, 723, 724, 27, 725, 86, 87, 88, 89, 29, 726, 727, 728, 729, 60, 61, 63, 868, 869, 870, 871, 872, 873, 874, 907, 908, 909] (by decide +kernel) (by decide +kernel)
set_option maxRecDepth 20000 in
theorem gL_law_X4_sheet : GoodIn wsL_law (wsV RL 113 RX4 yX4_sheet wsX4_sheet) := goodIn_app (goodIn_of _ (by decide +kernel)) ggL_law_X4_sheet
set_option maxRecDepth 20000 in
theorem ggL_law_X5_sheet : GoodIn wsL_law wsX5_sheet := goodIn_r _ [733, 94, 734, 73, 74, 75, 735, 736, 5, 737, 95, 96, 97, 102, 103, 104, 105, 71, 875, 876, 877, 878, 879, 880, 881, 882, 883, 884, 885, 886, 887, 888, 889] (by decide +kernel) (by decide +kernel)
set_option maxRecDepth 20000 in
theorem gL_law_X5_sheet : GoodIn wsL_law (wsV RL 116 RX5 yX5_sheet wsX5_sheet) := goodIn_app (goodIn_of _ (by decide +kernel)) ggL_law_X5_sheet
set_option maxRecDepth 20000 in
theorem ggL_law_X4_write : GoodIn wsL_law wsX4_write := goodIn_r _ [741, 82, 25, 742, 719, 743, 720, 721, 2, 722, 83, 84, 85, 86, 87, 88, 89, 29, 744, 745, 746, 27, 747, 60, 748, 749, 750, 751, 63, 868, 869, 870, 871, 872, 873, 874, 907, 908, 909] (by decide +kernel) (by decide +kernel)
set_option maxRecDepth 20000 in
theorem gL_law_X4_write : GoodIn wsL_law (wsV RL 119 RX4 yX4_write wsX4_write) := goodIn_app (goodIn_of _ (by decide +kernel)) ggL_law_X4_write
set_option maxRecDepth 20000 in
theorem ggL_law_X5_write : GoodIn wsL_law wsX5_write := goodIn_r _ [755, 74, 94, 75, 73, 756, 757, 758, 5, 759, 760, 735, 736, 737, 95, 96, 97, 102, 103, 104, 105, 71, 761, 762, 763, 875, 876, 877, 878, 879, 880, 881, 882, 883, 884, 885, 886, 887, 888, 889] (by decide +kernel) (by decide +kernel)
set_option maxRecDepth 20000 in
theorem gL_law_X5_write : GoodIn wsL_law (wsV RL 123 RX5 yX5_write wsX5_write) := goodIn_app (goodIn_of _ (by decide +kernel)) ggL_law_X5_write
