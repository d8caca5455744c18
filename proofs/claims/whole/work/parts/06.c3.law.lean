set_option maxRecDepth 20000 in
theorem ggL_law_X9_init : GoodIn wsL_law wsX9_init := goodIn_r _ [9, 10, 11, 12, 13, 14, 15, 16, 17, 18, 19, 20, 21, 22, 23, 24, 25, 26, 27, 28, 29, 30, 31, 32, 33, 34, 35, 36, 37, 38, 39, 40, 41, 42, 43, 44, 45, 46, 47, 48, 49, 50, 51, 52, 53, 54, 55, 56, 57, 58, 59, 60, 61, 62, 63, 64, 65, 66, 67, 68, 69, 70, 71, 72, 73, 74, 75, 76, 77, 78, 79, 80, 81, 82, 83, 84, 85, 86, 87, 88, 89, 90, 91, 92, 93, 94, 95, 96, 97, 98, 99, 100, 101, 102, 103, 104, 105, 106, 107, 108, 109, 110, 111, 112, 113, 114, 882, 883, 884, 885, 886, 851, 852, 853, 854, 855, 856, 857, 858, 859, 887, 888, 889, 890, 891, 892, 893, 894, 895, 896, 897, 898, 899, 900, 901, 902, 903, 904, 905, 906, 907, 908, 909, 910, 911, 912, 913, 914, 915, 916] (by decide +kernel) (by decide +kernel)
set_option maxRecDepth 20000 in
theorem gL_law_X9_init : GoodIn wsL_law (wsX9_init) := ggL_law_X9_init
set_option maxRecDepth 20000 in
theorem ggL_law_X10_init : GoodIn wsL_law wsX10_init := goodIn_r _ [117, 118, 11, 12, 48, 119, 120, 121, 122, 123, 124, 125, 126, 127, 128, 129, 130, 131, 132, 133, 111, 134, 860, 861, 862, 863, 864, 865, 866, 867, 868, 869, 870, 871, 872, 873, 874, 875, 876, 877, 878, 879, 880, 881] (by decide +kernel) (by decide +kernel)
set_option maxRecDepth 20000 in
theorem gL_law_X10_init : GoodIn wsL_law (wsX10_init) := ggL_law_X10_init
set_option maxRecDepth 20000 in
theorem ggL_law_X9_rain : GoodIn wsL_law wsX9_rain := goodIn_r _ [138, 16, 139, 140, 141, 142, 2, 143, 144, 145, 146, 851, 852, 853, 854, 855, 856, 857, 858, 859, 882, 883, 884, 885, 886, 887, 888, 889] (by decide +kernel) (by decide +kernel)
set_option maxRecDepth 20000 in
theorem gL_law_X9_rain : GoodIn wsL_law (wsV RL 13 RX9 yX9_rain wsX9_rain) := goodIn_app (goodIn_of _ (by decide +kernel)) ggL_law_X9_rain
set_option maxRecDepth 20000 in
theorem ggL_law_X10_rain : GoodIn wsL_law wsX10_rain := goodIn_r _ [150, 151, 119, 152, 153, 5, 154, 155, 156, 157, 158, 860, 861, 862, 863, 864, 865, 866, 867, 868, 869, 870, 871, 872, 873, 874, 875, 876, 877, 878, 879, 880, 881] (by decide +kernel) (by decide +kernel)
set_option maxRecDepth 20000 in
theorem gL_law_X10_rain : GoodIn wsL_law (wsV RL 17 RX10 yX10_rain wsX10_rain) := goodIn_app (goodIn_of _ (by decide +kernel)) ggL_law_X10_rain
set_option maxRecDepth 20000 in
theorem ggL_law_X9_basin : GoodIn wsL_law wsX9_basin := goodIn_r _ [162, 163, 16, 139, 164, 165, 144, 145, 2, 146, 166, 167, 168, 62, 169, 69, 68, 70, 71, 851, 852, 853, 854, 855, 856, 857, 858, 859, 882, 883, 884, 885, 886, 887, 888, 889, 913, 914, 915, 916] (by decide +kernel) (by decide +kernel)
set_option maxRecDepth 20000 in
theorem gL_law_X9_basin : GoodIn wsL_law (wsV RL 18 RX9 yX9_basin wsX9_basin) := goodIn_app (goodIn_of _ (by decide +kernel)) ggL_law_X9_basin
set_option maxRecDepth 20000 in
theorem ggL_law_X10_basin : GoodIn wsL_law wsX10_basin := goodIn_r _ [173, 174, 121, 156, 157, 5, 158, 175, 176, 177, 178, 119, 860, 861, 862, 863, 864, 865, 866, 867, 868, 869, 870, 871, 872, 873, 874, 875, 876, 877, 878, 879, 880, 881] (by decide +kernel) (by decide +kernel)
set_option maxRecDepth 20000 in
theorem gL_law_X10_basin : GoodIn wsL_law (wsV RL 22 RX10 yX10_basin wsX10_basin) := goodIn_app (goodIn_of _ (by decide +kernel)) ggL_law_X10_basin
set_option maxRecDepth 20000 in
theorem ggL_law_X9_hold : GoodIn wsL_law wsX9_hold := goodIn_r _ [182, 16, 139, 165, 183, 184, 185, 186, 187, 21, 188, 64, 63, 144, 145, 2, 146, 851, 852, 853, 854, 855, 856, 857, 858, 859, 882, 883, 884, 885, 886, 887, 888, 889, 913, 914, 915, 916] (by decide +kernel) (by decide +kernel)
set_option maxRecDepth 20000 in
theorem gL_law_X9_hold : GoodIn wsL_law (wsV RL 23 RX9 yX9_hold wsX9_hold) := goodIn_app (goodIn_of _ (by decide +kernel)) ggL_law_X9_hold
set_option maxRecDepth 20000 in
theorem ggL_law_X10_hold : GoodIn wsL_law wsX10_hold := goodIn_r _ [192, 193, 194, 119, 195, 196, 197, 5, 198, 156, 157, 158, 860, 861, 862, 863, 864, 865, 866, 867, 868, 869, 870, 871, 872, 873, 874, 875, 876, 877, 878, 879, 880, 881] (by decide +kernel) (by decide +kernel)
set_option maxRecDepth 20000 in
theorem gL_law_X10_hold : GoodIn wsL_law (wsV RL 27 RX10 yX10_hold wsX10_hold) := goodIn_app (goodIn_of _ (by decide +kernel)) ggL_law_X10_hold
set_option maxRecDepth 20000 in
theorem ggL_law_X9_tell : GoodIn wsL_law wsX9_tell := goodIn_r _ [202, 16, 203, 141, 142, 2, 143, 144, 145, 146, 851, 852, 853, 854, 855, 856, 857, 858, 859, 882, 883, 884, 885, 886] (by decide +kernel) (by decide +kernel)
set_option maxRecDepth 20000 in
theorem gL_law_X9_tell : GoodIn wsL_law (wsV RL 28 RX9 yX9_tell wsX9_tell) := goodIn_app (goodIn_of _ (by decide +kernel)) ggL_law_X9_tell
set_option maxRecDepth 20000 in
theorem ggL_law_X10_tell : GoodIn wsL_law wsX10_tell := goodIn_r _ [207, 208, 209, 119, 156, 157, 5, 158, 860, 861, 862, 863, 864, 865, 866, 867, 868, 869, 870, 871, 872, 873, 874, 875, 876, 877, 878, 879, 880, 881] (by decide +kernel) (by decide +kernel)
set_option maxRecDepth 20000 in
theorem gL_law_X10_tell : GoodIn wsL_law (wsV RL 31 RX10 yX10_tell wsX10_tell) := goodIn_app (goodIn_of _ (by decide +kernel)) ggL_law_X10_tell
set_option maxRecDepth 20000 in
theorem ggL_law_X9_take : GoodIn wsL_law wsX9_take := goodIn_r _ [213, 16, 139, 30, 165, 203, 214, 140, 185, 186, 187, 21, 188, 64, 63, 215, 216, 217, 29, 218, 89, 90, 219, 220, 2, 221, 222, 223, 224, 225, 226, 227, 228, 145, 146, 229, 230, 231, 232, 233, 234, 235, 236, 851, 852, 853, 854, 855, 856, 857, 858, 859, 882, 883, 884, 885, 886, 887, 888, 889, 893, 894, 895, 913, 914, 915, 916] (by decide +kernel) (by decide +kernel)
set_option maxRecDepth 20000 in
theorem gL_law_X9_take : GoodIn wsL_law (wsV RL 32 RX9 yX9_take wsX9_take) := goodIn_app (goodIn_of _ (by decide +kernel)) ggL_law_X9_take
set_option maxRecDepth 20000 in
theorem ggL_law_X10_take : GoodIn wsL_law wsX10_take := goodIn_r _ [240, 119, 128, 195, 196, 197, 5, 198, 156, 157, 158, 241, 242, 243, 244, 127, 245, 246, 247, 248, 249, 250, 251, 252, 253, 254, 255, 256, 257, 258, 259, 860, 861, 862, 863, 864, 865, 866, 867, 868, 869, 870, 871, 872, 873, 874, 875, 876, 877, 878, 879, 880, 881] (by decide +kernel) (by decide +kernel)
set_option maxRecDepth 20000 in
theorem gL_law_X10_take : GoodIn wsL_law (wsV RL 35 RX10 yX10_take wsX10_take) := goodIn_app (goodIn_of _ (by decide +kernel)) ggL_law_X10_take
set_option maxRecDepth 20000 in
theorem ggL_law_X9_feed : GoodIn wsL_law wsX9_feed := goodIn_r _ [263, 38, 264, 144, 145, 2, 146, 265, 266, 267, 37, 268, 103, 102, 851, 852, 853, 854, 855, 856, 857, 858, 859, 900, 901, 902, 903, 904, 905] (by decide +kernel) (by decide +kernel)
set_option maxRecDepth 20000 in
theorem gL_law_X9_feed : GoodIn wsL_law (wsV RL 36 RX9 yX9_feed wsX9_feed) := goodIn_app (goodIn_of _ (by decide +kernel)) ggL_law_X9_feed
set_option maxRecDepth 20000 in
theorem ggL_law_X10_feed : GoodIn wsL_law wsX10_feed := goodIn_r _ [272, 273, 274, 122, 156, 157, 5, 158, 860, 861, 862, 863, 864, 865, 866, 867, 868, 869, 870, 871, 872, 873, 874, 875, 876, 877, 878, 879, 880, 881] (by decide +kernel) (by decide +kernel)
set_option maxRecDepth 20000 in
theorem gL_law_X10_feed : GoodIn wsL_law (wsV RL 39 RX10 yX10_feed wsX10_feed) := goodIn_app (goodIn_of _ (by decide +kernel)) ggL_law_X10_feed
set_option maxRecDepth 20000 in
theorem ggL_law_X9_read : GoodIn wsL_law wsX9_read := goodIn_r _ [278, 38, 264, 279, 280, 281, 37, 282, 104, 103, 283, 284, 285, 286, 287, 288, 289, 290, 105, 107, 291, 292, 293, 294, 102, 295, 296, 297, 298, 299, 300, 301, 302, 106, 145, 2, 146, 303, 304, 305, 306, 307, 308, 309, 310, 311, 312, 313, 314, 315, 316, 317, 318, 319, 320, 321, 322, 16, 139, 140, 203, 323, 324, 325, 326, 327, 160, 161, 162, 163, 164, 165, 144, 166, 167, 168, 62, 169, 69, 68, 70, 71, 328, 180, 181, 182, 183, 184, 185, 186, 187, 21, 188, 64, 63, 329, 330, 331, 332, 333, 851, 852, 853, 854, 855, 856, 857, 858, 859, 900, 901, 902, 903, 904, 905, 882, 883, 884, 885, 886, 887, 888, 889, 913, 914, 915, 916] (by decide +kernel) (by decide +kernel)
set_option maxRecDepth 20000 in
theorem gL_law_X9_read : GoodIn wsL_law (wsV RL 40 RX9 yX9_read wsX9_read) := goodIn_app (goodIn_of _ (by decide +kernel)) ggL_law_X9_read
set_option maxRecDepth 20000 in
theorem ggL_law_X10_read : GoodIn wsL_law wsX10_read := goodIn_r _ [337, 338, 339, 340, 274, 341, 342, 343, 5, 344, 123, 345, 346, 347, 348, 122, 349, 350, 351, 352, 353, 354, 355, 356, 357, 358, 156, 157, 158, 359, 360, 361, 362, 363, 364, 365, 366, 367, 368, 369, 370, 371, 372, 373, 374, 375, 376, 377, 378, 379, 380, 381, 382, 121, 175, 176, 177, 178, 119, 383, 384, 385, 386, 387, 190, 191, 192, 193, 194, 195, 196, 197, 198, 388, 389, 390, 391, 860, 861, 862, 863, 864, 865, 866, 867, 868, 869, 870, 871, 872, 873, 874, 875, 876, 877, 878, 879, 880, 881] (by decide +kernel) (by decide +kernel)
set_option maxRecDepth 20000 in
theorem gL_law_X10_read : GoodIn wsL_law (wsV RL 44 RX10 yX10_read wsX10_read) := goodIn_app (goodIn_of _ (by decide +kernel)) ggL_law_X10_read
set_option maxRecDepth 20000 in
theorem ggL_law_X9_of : GoodIn wsL_law wsX9_of := goodIn_r _ [395, 396, 397, 398, 2, 399, 16, 139, 140, 203, 26, 400, 401, 402, 403, 25, 404, 85, 405, 406, 407, 84, 408, 409, 410, 411, 412, 413, 414, 415, 83, 416, 417, 418, 62, 419, 68, 420, 421, 422, 423, 424, 70, 71, 145, 146, 425, 426, 427, 428, 429, 430, 431, 432, 433, 434, 435, 144, 851, 852, 853, 854, 855, 856, 857, 858, 859, 882, 883, 884, 885, 886, 887, 888, 889, 890, 891, 892, 913, 914, 915, 916] (by decide +kernel) (by decide +kernel)
set_option maxRecDepth 20000 in
theorem gL_law_X9_of : GoodIn wsL_law (wsV RL 45 RX9 yX9_of wsX9_of) := goodIn_app (goodIn_of _ (by decide +kernel)) ggL_law_X9_of
set_option maxRecDepth 20000 in
theorem ggL_law_X10_of : GoodIn wsL_law wsX10_of := goodIn_r _ [439, 119, 208, 126, 152, 153, 5, 154, 155, 156, 157, 158, 440, 441, 442, 443, 444, 445, 446, 447, 125, 448, 449, 450, 451, 452, 124, 453, 454, 455, 456, 193, 249, 250, 251, 252, 457, 458, 459, 460, 430, 431, 432, 461, 434, 435, 860, 861, 862, 863, 864, 865, 866, 867, 868, 869, 870, 871, 872, 873, 874, 875, 876, 877, 878, 879, 880, 881] (by decide +kernel) (by decide +kernel)
set_option maxRecDepth 20000 in
theorem gL_law_X10_of : GoodIn wsL_law (wsV RL 48 RX10 yX10_of wsX10_of) := goodIn_app (goodIn_of _ (by decide +kernel)) ggL_law_X10_of
set_option maxRecDepth 20000 in
theorem ggL_law_X9_told : GoodIn wsL_law wsX9_told := goodIn_r _ [465, 16, 139, 165, 466, 183, 184, 26, 140, 467, 185, 186, 187, 21, 188, 64, 63, 144, 145, 2, 146, 468, 413, 414, 25, 415, 83, 84, 416, 417, 418, 62, 419, 68, 420, 409, 410, 411, 421, 422, 423, 424, 70, 71, 425, 426, 427, 428, 429, 430, 431, 432, 433, 434, 435, 851, 852, 853, 854, 855, 856, 857, 858, 859, 882, 883, 884, 885, 886, 887, 888, 889, 913, 914, 915, 916, 890, 891, 892] (by decide +kernel) (by decide +kernel)
set_option maxRecDepth 20000 in
theorem gL_law_X9_told : GoodIn wsL_law (wsV RL 49 RX9 yX9_told wsX9_told) := goodIn_app (goodIn_of _ (by decide +kernel)) ggL_law_X9_told
set_option maxRecDepth 20000 in
theorem ggL_law_X10_told : GoodIn wsL_law wsX10_told := goodIn_r _ [472, 473, 155, 452, 119, 195, 196, 197, 5, 198, 156, 157, 158, 448, 449, 450, 451, 125, 124, 453, 454, 455, 456, 193, 249, 250, 251, 252, 457, 458, 459, 460, 430, 431, 432, 461, 434, 435, 860, 861, 862, 863, 864, 865, 866, 867, 868, 869, 870, 871, 872, 873, 874, 875, 876, 877, 878, 879, 880, 881] (by decide +kernel) (by decide +kernel)
set_option maxRecDepth 20000 in
theorem gL_law_X10_told : GoodIn wsL_law (wsV RL 52 RX10 yX10_told wsX10_told) := goodIn_app (goodIn_of _ (by decide +kernel)) ggL_law_X10_told
set_option maxRecDepth 20000 in
theorem ggL_law_X9_flow : GoodIn wsL_law wsX9_flow := goodIn_r _ [477, 16, 139, 26, 165, 140, 478, 479, 144, 145, 2, 146, 185, 186, 187, 21, 188, 64, 63, 468, 413, 414, 25, 415, 83, 84, 416, 417, 418, 62, 419, 68, 420, 409, 410, 411, 421, 422, 423, 424, 70, 71, 425, 426, 427, 428, 429, 430, 431, 432, 433, 434, 435, 851, 852, 853, 854, 855, 856, 857, 858, 859, 882, 883, 884, 885, 886, 887, 888, 889, 890, 891, 892, 913, 914, 915, 916] (by decide +kernel) (by decide +kernel)
set_option maxRecDepth 20000 in
theorem gL_law_X9_flow : GoodIn wsL_law (wsV RL 53 RX9 yX9_flow wsX9_flow) := goodIn_app (goodIn_of _ (by decide +kernel)) ggL_law_X9_flow
set_option maxRecDepth 20000 in
theorem ggL_law_X10_flow : GoodIn wsL_law wsX10_flow := goodIn_r _ [483, 124, 125, 156, 157, 5, 158, 195, 196, 197, 198, 119, 440, 441, 442, 443, 448, 449, 450, 451, 452, 453, 454, 455, 456, 193, 249, 250, 251, 252, 457, 458, 459, 460, 430, 431, 432, 461, 434, 435, 860, 861, 862, 863, 864, 865, 866, 867, 868, 869, 870, 871, 872, 873, 874, 875, 876, 877, 878, 879, 880, 881] (by decide +kernel) (by decide +kernel)
set_option maxRecDepth 20000 in
theorem gL_law_X10_flow : GoodIn wsL_law (wsV RL 56 RX10 yX10_flow wsX10_flow) := goodIn_app (goodIn_of _ (by decide +kernel)) ggL_law_X10_flow
set_option maxRecDepth 20000 in
theorem ggL_law_X9_row : GoodIn wsL_law wsX9_row := goodIn_r _ [487, 396, 397, 398, 2, 399, 16, 139, 140, 203, 26, 400, 401, 402, 403, 25, 404, 85, 405, 406, 407, 84, 408, 409, 410, 411, 412, 413, 414, 415, 83, 416, 417, 418, 62, 419, 68, 420, 421, 422, 423, 424, 70, 71, 145, 146, 425, 426, 427, 428, 429, 430, 431, 432, 433, 434, 435, 488, 489, 490, 491, 165, 479, 185, 186, 187, 21, 188, 64, 63, 468, 144, 234, 235, 236, 851, 852, 853, 854, 855, 856, 857, 858, 859, 882, 883, 884, 885, 886, 887, 888, 889, 890, 891, 892, 913, 914, 915, 916] (by decide +kernel) (by decide +kernel)
set_option maxRecDepth 20000 in
theorem gL_law_X9_row : GoodIn wsL_law (wsV RL 57 RX9 yX9_row wsX9_row) := goodIn_app (goodIn_of _ (by decide +kernel)) ggL_law_X9_row
set_option maxRecDepth 20000 in
theorem ggL_law_X10_row : GoodIn wsL_law wsX10_row := goodIn_r _ [495, 496, 119, 126, 125, 156, 157, 5, 158, 195, 196, 197, 198, 497, 498, 499, 444, 445, 446, 447, 448, 449, 450, 451, 452, 124, 453, 454, 455, 456, 193, 249, 250, 251, 252, 457, 458, 459, 460, 430, 431, 432, 461, 434, 435, 860, 861, 862, 863, 864, 865, 866, 867, 868, 869, 870, 871, 872, 873, 874, 875, 876, 877, 878, 879, 880, 881] (by decide +kernel) (by decide +kernel)
set_option maxRecDepth 20000 in
theorem gL_law_X10_row : GoodIn wsL_law (wsV RL 60 RX10 yX10_row wsX10_row) := goodIn_app (goodIn_of _ (by decide +kernel)) ggL_law_X10_row
set_option maxRecDepth 20000 in
theorem ggL_law_X9_basins : GoodIn wsL_law wsX9_basins := goodIn_r _ [503, 16, 139, 164, 851, 852, 853, 854, 855, 856, 857, 858, 859, 882, 883, 884, 885, 886, 887, 888, 889] (by decide +kernel) (by decide +kernel)
set_option maxRecDepth 20000 in
theorem gL_law_X9_basins : GoodIn wsL_law (wsV RL 61 RX9 yX9_basins wsX9_basins) := goodIn_app (goodIn_of _ (by decide +kernel)) ggL_law_X9_basins
set_option maxRecDepth 20000 in
theorem ggL_law_X10_basins : GoodIn wsL_law wsX10_basins := goodIn_r _ [507, 119, 860, 861, 862, 863, 864, 865, 866, 867, 868, 869, 870, 871, 872, 873, 874, 875, 876, 877, 878, 879, 880, 881] (by decide +kernel) (by decide +kernel)
set_option maxRecDepth 20000 in
theorem gL_law_X10_basins : GoodIn wsL_law (wsV RL 64 RX10 yX10_basins wsX10_basins) := goodIn_app (goodIn_of _ (by decide +kernel)) ggL_law_X10_basins
set_option maxRecDepth 20000 in
theorem ggL_law_X9_flaw : GoodIn wsL_law wsX9_flaw := goodIn_r _ [511, 16, 139, 30, 165, 203, 185, 186, 187, 21, 188, 64, 63, 215, 216, 217, 29, 218, 89, 90, 219, 220, 2, 221, 222, 223, 224, 225, 226, 227, 228, 145, 146, 229, 230, 231, 232, 851, 852, 853, 854, 855, 856, 857, 858, 859, 882, 883, 884, 885, 886, 887, 888, 889, 893, 894, 895, 913, 914, 915, 916] (by decide +kernel) (by decide +kernel)
set_option maxRecDepth 20000 in
theorem gL_law_X9_flaw : GoodIn wsL_law (wsV RL 65 RX9 yX9_flaw wsX9_flaw) := goodIn_app (goodIn_of _ (by decide +kernel)) ggL_law_X9_flaw
set_option maxRecDepth 20000 in
theorem ggL_law_X10_flaw : GoodIn wsL_law wsX10_flaw := goodIn_r _ [515, 195, 196, 197, 5, 198, 119, 156, 157, 158, 241, 242, 243, 244, 127, 128, 245, 246, 247, 248, 249, 250, 251, 252, 253, 254, 255, 256, 257, 258, 259, 860, 861, 862, 863, 864, 865, 866, 867, 868, 869, 870, 871, 872, 873, 874, 875, 876, 877, 878, 879, 880, 881] (by decide +kernel) (by decide +kernel)
set_option maxRecDepth 20000 in
theorem gL_law_X10_flaw : GoodIn wsL_law (wsV RL 68 RX10 yX10_flaw wsX10_flaw) := goodIn_app (goodIn_of _ (by decide +kernel)) ggL_law_X10_flaw
set_option maxRecDepth 20000 in
theorem ggL_law_X9_unfold : GoodIn wsL_law wsX9_unfold := goodIn_r _ [519, 16, 139, 30, 165, 203, 214, 185, 186, 187, 21, 188, 64, 63, 144, 145, 2, 146, 215, 216, 217, 29, 218, 89, 90, 219, 220, 221, 222, 223, 224, 225, 226, 227, 228, 229, 230, 231, 232, 851, 852, 853, 854, 855, 856, 857, 858, 859, 882, 883, 884, 885, 886, 887, 888, 889, 893, 894, 895, 913, 914, 915, 916] (by decide +kernel) (by decide +kernel)
set_option maxRecDepth 20000 in
theorem gL_law_X9_unfold : GoodIn wsL_law (wsV RL 69 RX9 yX9_unfold wsX9_unfold) := goodIn_app (goodIn_of _ (by decide +kernel)) ggL_law_X9_unfold
set_option maxRecDepth 20000 in
theorem ggL_law_X10_unfold : GoodIn wsL_law wsX10_unfold := goodIn_r _ [523, 128, 195, 196, 197, 5, 198, 119, 156, 157, 158, 152, 153, 154, 155, 241, 242, 243, 244, 127, 245, 246, 247, 248, 249, 250, 251, 252, 253, 254, 255, 256, 257, 258, 259, 860, 861, 862, 863, 864, 865, 866, 867, 868, 869, 870, 871, 872, 873, 874, 875, 876, 877, 878, 879, 880, 881] (by decide +kernel) (by decide +kernel)
set_option maxRecDepth 20000 in
theorem gL_law_X10_unfold : GoodIn wsL_law (wsV RL 72 RX10 yX10_unfold wsX10_unfold) := goodIn_app (goodIn_of _ (by decide +kernel)) ggL_law_X10_unfold
set_option maxRecDepth 20000 in
theorem ggL_law_X9_backFlaw : GoodIn wsL_law wsX9_backFlaw := goodIn_r _ [527, 30, 16, 139, 140, 203, 528, 529, 530, 29, 531, 89, 91, 532, 533, 534, 220, 2, 221, 222, 223, 224, 225, 226, 227, 228, 145, 146, 229, 230, 231, 232, 851, 852, 853, 854, 855, 856, 857, 858, 859, 882, 883, 884, 885, 886, 887, 888, 889, 893, 894, 895] (by decide +kernel) (by decide +kernel)
set_option maxRecDepth 20000 in
theorem gL_law_X9_backFlaw : GoodIn wsL_law (wsV RL 73 RX9 yX9_backFlaw wsX9_backFlaw) := goodIn_app (goodIn_of _ (by decide +kernel)) ggL_law_X9_backFlaw
set_option maxRecDepth 20000 in
theorem ggL_law_X10_backFlaw : GoodIn wsL_law wsX10_backFlaw := goodIn_r _ [538, 539, 540, 541, 5, 542, 127, 119, 129, 543, 544, 545, 546, 245, 246, 247, 248, 253, 254, 255, 256, 257, 258, 259, 860, 861, 862, 863, 864, 865, 866, 867, 868, 869, 870, 871, 872, 873, 874, 875, 876, 877, 878, 879, 880, 881] (by decide +kernel) (by decide +kernel)
set_option maxRecDepth 20000 in
theorem gL_law_X10_backFlaw : GoodIn wsL_law (wsV RL 76 RX10 yX10_backFlaw wsX10_backFlaw) := goodIn_app (goodIn_of _ (by decide +kernel)) ggL_law_X10_backFlaw
set_option maxRecDepth 20000 in
theorem ggL_law_X9_back : GoodIn wsL_law wsX9_back := goodIn_r _ [550, 30, 16, 139, 140, 203, 551, 144, 145, 2, 146, 528, 529, 530, 29, 531, 89, 91, 532, 533, 534, 220, 221, 222, 223, 224, 225, 226, 227, 228, 229, 230, 231, 232, 851, 852, 853, 854, 855, 856, 857, 858, 859, 882, 883, 884, 885, 886, 887, 888, 889, 893, 894, 895] (by decide +kernel) (by decide +kernel)
set_option maxRecDepth 20000 in
theorem gL_law_X9_back : GoodIn wsL_law (wsV RL 77 RX9 yX9_back wsX9_back) := goodIn_app (goodIn_of _ (by decide +kernel)) ggL_law_X9_back
set_option maxRecDepth 20000 in
theorem ggL_law_X10_back : GoodIn wsL_law wsX10_back := goodIn_r _ [555, 193, 129, 156, 157, 5, 158, 539, 540, 541, 542, 127, 119, 543, 544, 545, 546, 245, 246, 247, 248, 253, 254, 255, 256, 257, 258, 259, 860, 861, 862, 863, 864, 865, 866, 867, 868, 869, 870, 871, 872, 873, 874, 875, 876, 877, 878, 879, 880, 881] (by decide +kernel) (by decide +kernel)
set_option maxRecDepth 20000 in
theorem gL_law_X10_back : GoodIn wsL_law (wsV RL 80 RX10 yX10_back wsX10_back) := goodIn_app (goodIn_of _ (by decide +kernel)) ggL_law_X10_back
set_option maxRecDepth 20000 in
theorem ggL_law_X9_nearest : GoodIn wsL_law wsX9_nearest := goodIn_r _ [559, 16, 139, 34, 165, 203, 560, 561, 185, 186, 187, 21, 188, 64, 63, 144, 145, 2, 146, 562, 563, 564, 33, 565, 95, 97, 98, 96, 566, 567, 568, 569, 570, 417, 418, 62, 419, 68, 420, 409, 410, 411, 571, 572, 573, 574, 220, 221, 851, 852, 853, 854, 855, 856, 857, 858, 859, 882, 883, 884, 885, 886, 887, 888, 889, 896, 897, 898, 899, 913, 914, 915, 916] (by decide +kernel) (by decide +kernel)
set_option maxRecDepth 20000 in
theorem gL_law_X9_nearest : GoodIn wsL_law (wsV RL 81 RX9 yX9_nearest wsX9_nearest) := goodIn_app (goodIn_of _ (by decide +kernel)) ggL_law_X9_nearest
set_option maxRecDepth 20000 in
theorem ggL_law_X10_nearest : GoodIn wsL_law wsX10_nearest := goodIn_r _ [578, 579, 119, 195, 196, 197, 5, 198, 156, 157, 158, 580, 581, 582, 583, 130, 584, 585, 586, 587, 124, 453, 454, 455, 456, 193, 249, 250, 251, 252, 588, 589, 590, 591, 860, 861, 862, 863, 864, 865, 866, 867, 868, 869, 870, 871, 872, 873, 874, 875, 876, 877, 878, 879, 880, 881] (by decide +kernel) (by decide +kernel)
set_option maxRecDepth 20000 in
theorem gL_law_X10_nearest : GoodIn wsL_law (wsV RL 84 RX10 yX10_nearest wsX10_nearest) := goodIn_app (goodIn_of _ (by decide +kernel)) ggL_law_X10_nearest
set_option maxRecDepth 20000 in
theorem ggL_law_X9_exchange : GoodIn wsL_law wsX9_exchange := goodIn_r _ [595, 22, 16, 139, 26, 140, 144, 145, 2, 146, 596, 597, 598, 21, 599, 59, 63, 64, 220, 221, 600, 601, 602, 62, 603, 68, 69, 70, 71, 604, 605, 606, 25, 607, 85, 608, 402, 403, 404, 405, 406, 407, 84, 408, 409, 410, 411, 412, 413, 414, 415, 83, 416, 417, 418, 419, 420, 421, 422, 423, 424, 425, 426, 427, 428, 429, 430, 431, 432, 433, 434, 435, 235, 236, 609, 610, 611, 851, 852, 853, 854, 855, 856, 857, 858, 859, 882, 883, 884, 885, 886, 887, 888, 889, 913, 914, 915, 916, 890, 891, 892] (by decide +kernel) (by decide +kernel)
set_option maxRecDepth 20000 in
theorem gL_law_X9_exchange : GoodIn wsL_law (wsV RL 85 RX9 yX9_exchange wsX9_exchange) := goodIn_app (goodIn_of _ (by decide +kernel)) ggL_law_X9_exchange
set_option maxRecDepth 20000 in
theorem ggL_law_X10_exchange : GoodIn wsL_law wsX10_exchange := goodIn_r _ [615, 460, 430, 431, 432, 156, 157, 5, 158, 616, 617, 618, 619, 126, 444, 445, 446, 447, 119, 125, 448, 449, 450, 451, 452, 124, 453, 454, 455, 456, 193, 249, 250, 251, 252, 457, 458, 459, 461, 434, 435, 497, 498, 499, 620, 621, 622, 623, 860, 861, 862, 863, 864, 865, 866, 867, 868, 869, 870, 871, 872, 873, 874, 875, 876, 877, 878, 879, 880, 881] (by decide +kernel) (by decide +kernel)
set_option maxRecDepth 20000 in
theorem gL_law_X10_exchange : GoodIn wsL_law (wsV RL 88 RX10 yX10_exchange wsX10_exchange) := goodIn_app (goodIn_of _ (by decide +kernel)) ggL_law_X10_exchange
set_option maxRecDepth 20000 in
theorem ggL_law_X9_see : GoodIn wsL_law wsX9_see := goodIn_r _ [627, 16, 628, 629, 630, 2, 631, 632, 144, 145, 146, 633, 634, 635, 52, 636, 78, 79, 76, 77, 851, 852, 853, 854, 855, 856, 857, 858, 859, 882, 883, 884, 885, 886, 909, 910, 911, 912] (by decide +kernel) (by decide +kernel)
set_option maxRecDepth 20000 in
theorem gL_law_X9_see : GoodIn wsL_law (wsV RL 89 RX9 yX9_see wsX9_see) := goodIn_app (goodIn_of _ (by decide +kernel)) ggL_law_X9_see
set_option maxRecDepth 20000 in
theorem ggL_law_X10_see : GoodIn wsL_law wsX10_see := goodIn_r _ [640, 119, 641, 440, 441, 5, 442, 443, 156, 157, 158, 860, 861, 862, 863, 864, 865, 866, 867, 868, 869, 870, 871, 872, 873, 874, 875, 876, 877, 878, 879, 880, 881] (by decide +kernel) (by decide +kernel)
set_option maxRecDepth 20000 in
theorem gL_law_X10_see : GoodIn wsL_law (wsV RL 92 RX10 yX10_see wsX10_see) := goodIn_app (goodIn_of _ (by decide +kernel)) ggL_law_X10_see
set_option maxRecDepth 20000 in
theorem ggL_law_X9_fits : GoodIn wsL_law wsX9_fits := goodIn_r _ [645, 22, 16, 139, 140, 26, 628, 400, 144, 145, 2, 146, 596, 597, 598, 21, 599, 59, 63, 64, 220, 221, 600, 601, 602, 62, 603, 68, 69, 70, 71, 401, 402, 403, 25, 404, 85, 405, 406, 407, 84, 408, 409, 410, 411, 412, 413, 414, 415, 83, 416, 417, 418, 419, 420, 421, 422, 423, 424, 425, 426, 427, 428, 429, 430, 431, 432, 433, 434, 435, 646, 647, 648, 52, 649, 78, 76, 77, 851, 852, 853, 854, 855, 856, 857, 858, 859, 882, 883, 884, 885, 886, 887, 888, 889, 890, 891, 892, 913, 914, 915, 916, 909, 910, 911, 912] (by decide +kernel) (by decide +kernel)
set_option maxRecDepth 20000 in
theorem gL_law_X9_fits : GoodIn wsL_law (wsV RL 93 RX9 yX9_fits wsX9_fits) := goodIn_app (goodIn_of _ (by decide +kernel)) ggL_law_X9_fits
set_option maxRecDepth 20000 in
theorem ggL_law_X10_fits : GoodIn wsL_law wsX10_fits := goodIn_r _ [653, 119, 152, 153, 5, 154, 155, 156, 157, 158, 654, 655, 656, 657, 126, 444, 445, 446, 447, 125, 448, 449, 450, 451, 452, 124, 453, 454, 455, 456, 193, 249, 250, 251, 252, 457, 458, 459, 460, 430, 431, 432, 461, 434, 435, 860, 861, 862, 863, 864, 865, 866, 867, 868, 869, 870, 871, 872, 873, 874, 875, 876, 877, 878, 879, 880, 881] (by decide +kernel) (by decide +kernel)
set_option maxRecDepth 20000 in
theorem gL_law_X10_fits : GoodIn wsL_law (wsV RL 96 RX10 yX10_fits wsX10_fits) := goodIn_app (goodIn_of _ (by decide +kernel)) ggL_law_X10_fits
set_option maxRecDepth 20000 in
theorem ggL_law_X9_odds : GoodIn wsL_law wsX9_odds := goodIn_r _ [661, 662, 22, 16, 139, 140, 26, 144, 145, 2, 146, 596, 597, 598, 21, 599, 59, 63, 64, 220, 221, 600, 601, 602, 62, 603, 68, 69, 70, 71, 604, 605, 606, 25, 607, 85, 608, 402, 403, 404, 405, 406, 407, 84, 408, 409, 410, 411, 412, 413, 414, 415, 83, 416, 417, 418, 419, 420, 421, 422, 423, 424, 425, 426, 427, 428, 429, 430, 431, 432, 433, 434, 435, 235, 236, 663, 664, 665, 666, 667, 668, 669, 851, 852, 853, 854, 855, 856, 857, 858, 859, 882, 883, 884, 885, 886, 887, 888, 889, 913, 914, 915, 916, 890, 891, 892] (by decide +kernel) (by decide +kernel)
set_option maxRecDepth 20000 in
theorem gL_law_X9_odds : GoodIn wsL_law (wsV RL 97 RX9 yX9_odds wsX9_odds) := goodIn_app (goodIn_of _ (by decide +kernel)) ggL_law_X9_odds
set_option maxRecDepth 20000 in
theorem ggL_law_X10_odds : GoodIn wsL_law wsX10_odds := goodIn_r _ [673, 641, 674, 119, 675, 152, 153, 5, 154, 155, 156, 157, 158, 616, 617, 618, 619, 126, 444, 445, 446, 447, 125, 448, 449, 450, 451, 452, 124, 453, 454, 455, 456, 193, 249, 250, 251, 252, 457, 458, 459, 460, 430, 431, 432, 461, 434, 435, 497, 498, 499, 676, 677, 678, 860, 861, 862, 863, 864, 865, 866, 867, 868, 869, 870, 871, 872, 873, 874, 875, 876, 877, 878, 879, 880, 881] (by decide +kernel) (by decide +kernel)
set_option maxRecDepth 20000 in
theorem gL_law_X10_odds : GoodIn wsL_law (wsV RL 101 RX10 yX10_odds wsX10_odds) := goodIn_app (goodIn_of _ (by decide +kernel)) ggL_law_X10_odds
set_option maxRecDepth 20000 in
theorem ggL_law_X9_mean : GoodIn wsL_law wsX9_mean := goodIn_r _ [682, 26, 16, 139, 400, 401, 402, 403, 25, 404, 85, 405, 406, 407, 84, 408, 409, 410, 411, 412, 413, 414, 415, 83, 416, 417, 418, 62, 419, 68, 420, 421, 422, 423, 424, 70, 71, 145, 2, 146, 425, 426, 427, 428, 429, 430, 431, 432, 433, 434, 435, 234, 235, 236, 663, 664, 665, 662, 144, 666, 667, 668, 669, 851, 852, 853, 854, 855, 856, 857, 858, 859, 882, 883, 884, 885, 886, 890, 891, 892, 887, 888, 889, 913, 914, 915, 916] (by decide +kernel) (by decide +kernel)
set_option maxRecDepth 20000 in
theorem gL_law_X9_mean : GoodIn wsL_law (wsV RL 102 RX9 yX9_mean wsX9_mean) := goodIn_app (goodIn_of _ (by decide +kernel)) ggL_law_X9_mean
set_option maxRecDepth 20000 in
theorem ggL_law_X10_mean : GoodIn wsL_law wsX10_mean := goodIn_r _ [686, 126, 674, 444, 445, 446, 5, 447, 119, 125, 448, 449, 450, 451, 452, 124, 453, 454, 455, 456, 193, 156, 157, 158, 249, 250, 251, 252, 457, 458, 459, 460, 430, 431, 432, 461, 434, 435, 497, 498, 499, 676, 677, 678, 860, 861, 862, 863, 864, 865, 866, 867, 868, 869, 870, 871, 872, 873, 874, 875, 876, 877, 878, 879, 880, 881] (by decide +kernel) (by decide +kernel)
set_option maxRecDepth 20000 in
theorem gL_law_X10_mean : GoodIn wsL_law (wsV RL 106 RX10 yX10_mean wsX10_mean) := goodIn_app (goodIn_of _ (by decide +kernel)) ggL_law_X10_mean
set_option maxRecDepth 20000 in
theorem ggL_law_X9_event : GoodIn wsL_law wsX9_event := goodIn_r _ [690, 16, 691, 632, 139, 144, 145, 2, 146, 633, 634, 635, 52, 636, 78, 79, 76, 77, 185, 186, 187, 21, 188, 64, 63, 851, 852, 853, 854, 855, 856, 857, 858, 859, 882, 883, 884, 885, 886, 909, 910, 911, 912, 887, 888, 889] (by decide +kernel) (by decide +kernel)
set_option maxRecDepth 20000 in
theorem gL_law_X9_event : GoodIn wsL_law (wsV RL 107 RX9 yX9_event wsX9_event) := goodIn_app (goodIn_of _ (by decide +kernel)) ggL_law_X9_event
set_option maxRecDepth 20000 in
theorem ggL_law_X10_event : GoodIn wsL_law wsX10_event := goodIn_r _ [695, 119, 579, 155, 156, 157, 5, 158, 152, 153, 154, 195, 196, 197, 198, 860, 861, 862, 863, 864, 865, 866, 867, 868, 869, 870, 871, 872, 873, 874, 875, 876, 877, 878, 879, 880, 881] (by decide +kernel) (by decide +kernel)
set_option maxRecDepth 20000 in
theorem gL_law_X10_event : GoodIn wsL_law (wsV RL 110 RX10 yX10_event wsX10_event) := goodIn_app (goodIn_of _ (by decide +kernel)) ggL_law_X10_event
set_option maxRecDepth 20000 in
theorem ggL_law_X9_after : GoodIn wsL_law wsX9_after := goodIn_r _ [699, 22, 16, 139, 691, 632, 700, 701, 26, 400, 144, 145, 2, 146, 596, 597, 598, 21, 599, 59, 63, 64, 220, 221, 600, 601, 602, 62, 603, 68, 69, 70, 71, 702, 703, 704, 705, 706, 707, 186, 187, 188, 708, 709, 710, 711, 712, 430, 431, 432, 401, 402, 403, 25, 404, 85, 405, 406, 407, 84, 408, 409, 410, 411, 412, 413, 414, 415, 83, 416, 417, 418, 419, 420, 421, 422, 423, 424, 425, 426, 427, 428, 429, 433, 434, 435, 234, 235, 236, 851, 852, 853, 854, 855, 856, 857, 858, 859, 882, 883, 884, 885, 886, 909, 910, 911, 912, 890, 891, 892, 887, 888, 889, 913, 914, 915, 916] (by decide +kernel) (by decide +kernel)
set_option maxRecDepth 20000 in
theorem gL_law_X9_after : GoodIn wsL_law (wsV RL 111 RX9 yX9_after wsX9_after) := goodIn_app (goodIn_of _ (by decide +kernel)) ggL_law_X9_after
set_option maxRecDepth 20000 in
theorem ggL_law_X10_after : GoodIn wsL_law wsX10_after := goodIn_r _ [716, 496, 119, 131, 126, 156, 157, 5, 158, 717, 718, 719, 720, 721, 722, 723, 460, 430, 431, 432, 444, 445, 446, 447, 125, 448, 449, 450, 451, 452, 124, 453, 454, 455, 456, 193, 249, 250, 251, 252, 457, 458, 459, 461, 434, 435, 497, 498, 499, 860, 861, 862, 863, 864, 865, 866, 867, 868, 869, 870, 871, 872, 873, 874, 875, 876, 877, 878, 879, 880, 881] (by decide +kernel) (by decide +kernel)
set_option maxRecDepth 20000 in
theorem gL_law_X10_after : GoodIn wsL_law (wsV RL 114 RX10 yX10_after wsX10_after) := goodIn_app (goodIn_of _ (by decide +kernel)) ggL_law_X10_after
set_option maxRecDepth 20000 in
theorem ggL_law_X9_book : GoodIn wsL_law wsX9_book := goodIn_r _ [727, 16, 728, 629, 630, 2, 631, 632, 144, 145, 146, 633, 634, 635, 52, 636, 78, 79, 76, 77, 851, 852, 853, 854, 855, 856, 857, 858, 859, 882, 883, 884, 885, 886, 909, 910, 911, 912] (by decide +kernel) (by decide +kernel)
set_option maxRecDepth 20000 in
theorem gL_law_X9_book : GoodIn wsL_law (wsV RL 115 RX9 yX9_book wsX9_book) := goodIn_app (goodIn_of _ (by decide +kernel)) ggL_law_X9_book
set_option maxRecDepth 20000 in
theorem ggL_law_X10_book : GoodIn wsL_law wsX10_book := goodIn_r _ [732, 119, 641, 440, 441, 5, 442, 443, 156, 157, 158, 860, 861, 862, 863, 864, 865, 866, 867, 868, 869, 870, 871, 872, 873, 874, 875, 876, 877, 878, 879, 880, 881] (by decide +kernel) (by decide +kernel)
set_option maxRecDepth 20000 in
theorem gL_law_X10_book : GoodIn wsL_law (wsV RL 118 RX10 yX10_book wsX10_book) := goodIn_app (goodIn_of _ (by decide +kernel)) ggL_law_X10_book
set_option maxRecDepth 20000 in
theorem ggL_law_X9_looked : GoodIn wsL_law wsX9_looked := goodIn_r _ [736, 26, 16, 139, 728, 400, 401, 402, 403, 25, 404, 85, 405, 406, 407, 84, 408, 409, 410, 411, 412, 413, 414, 415, 83, 416, 417, 418, 62, 419, 68, 420, 421, 422, 423, 424, 70, 71, 145, 2, 146, 425, 426, 427, 428, 429, 430, 431, 432, 433, 434, 435, 646, 647, 648, 52, 649, 78, 76, 77, 851, 852, 853, 854, 855, 856, 857, 858, 859, 882, 883, 884, 885, 886, 890, 891, 892, 887, 888, 889, 913, 914, 915, 916, 909, 910, 911, 912] (by decide +kernel) (by decide +kernel)
set_option maxRecDepth 20000 in
theorem gL_law_X9_looked : GoodIn wsL_law (wsV RL 119 RX9 yX9_looked wsX9_looked) := goodIn_app (goodIn_of _ (by decide +kernel)) ggL_law_X9_looked
set_option maxRecDepth 20000 in
theorem ggL_law_X10_looked : GoodIn wsL_law wsX10_looked := goodIn_r _ [740, 119, 654, 655, 656, 5, 657, 126, 444, 445, 446, 447, 125, 448, 449, 450, 451, 452, 124, 453, 454, 455, 456, 193, 156, 157, 158, 249, 250, 251, 252, 457, 458, 459, 460, 430, 431, 432, 461, 434, 435, 860, 861, 862, 863, 864, 865, 866, 867, 868, 869, 870, 871, 872, 873, 874, 875, 876, 877, 878, 879, 880, 881] (by decide +kernel) (by decide +kernel)
set_option maxRecDepth 20000 in
theorem gL_law_X10_looked : GoodIn wsL_law (wsV RL 122 RX10 yX10_looked wsX10_looked) := goodIn_app (goodIn_of _ (by decide +kernel)) ggL_law_X10_looked
set_option maxRecDepth 20000 in
theorem ggL_law_X9_judge : GoodIn wsL_law wsX9_judge := goodIn_r _ [744, 16, 139, 42, 745, 26, 165, 140, 746, 747, 479, 185, 186, 187, 21, 188, 64, 63, 748, 749, 750, 2, 751, 144, 145, 146, 468, 413, 414, 25, 415, 83, 84, 416, 417, 418, 62, 419, 68, 420, 409, 410, 411, 421, 422, 423, 424, 70, 71, 425, 426, 427, 428, 429, 430, 431, 432, 433, 434, 435, 851, 852, 853, 854, 855, 856, 857, 858, 859, 882, 883, 884, 885, 886, 906, 907, 908, 887, 888, 889, 890, 891, 892, 913, 914, 915, 916] (by decide +kernel) (by decide +kernel)
set_option maxRecDepth 20000 in
theorem gL_law_X9_judge : GoodIn wsL_law (wsV RL 123 RX9 yX9_judge wsX9_judge) := goodIn_app (goodIn_of _ (by decide +kernel)) ggL_law_X9_judge
set_option maxRecDepth 20000 in
theorem ggL_law_X10_judge : GoodIn wsL_law wsX10_judge := goodIn_r _ [755, 132, 133, 134, 125, 195, 196, 197, 5, 198, 119, 156, 157, 158, 756, 757, 758, 759, 448, 449, 450, 451, 452, 124, 453, 454, 455, 456, 193, 249, 250, 251, 252, 457, 458, 459, 460, 430, 431, 432, 461, 434, 435, 860, 861, 862, 863, 864, 865, 866, 867, 868, 869, 870, 871, 872, 873, 874, 875, 876, 877, 878, 879, 880, 881] (by decide +kernel) (by decide +kernel)
set_option maxRecDepth 20000 in
theorem gL_law_X10_judge : GoodIn wsL_law (wsV RL 126 RX10 yX10_judge wsX10_judge) := goodIn_app (goodIn_of _ (by decide +kernel)) ggL_law_X10_judge
set_option maxRecDepth 20000 in
theorem ggL_law_X9_image : GoodIn wsL_law wsX9_image := goodIn_r _ [763, 17, 16, 18, 139, 164, 764, 765, 766, 15, 767, 47, 49, 53, 54, 55, 768, 597, 598, 21, 599, 59, 63, 64, 220, 2, 221, 600, 601, 602, 62, 603, 68, 69, 70, 71, 769, 770, 771, 52, 772, 76, 77, 78, 851, 852, 853, 854, 855, 856, 857, 858, 859, 882, 883, 884, 885, 886, 887, 888, 889, 913, 914, 915, 916, 909, 910, 911, 912] (by decide +kernel) (by decide +kernel)
set_option maxRecDepth 20000 in
theorem gL_law_X9_image : GoodIn wsL_law (wsV RL 127 RX9 yX9_image wsX9_image) := goodIn_app (goodIn_of _ (by decide +kernel)) ggL_law_X9_image
set_option maxRecDepth 20000 in
theorem ggL_law_X10_image : GoodIn wsL_law wsX10_image := goodIn_r _ [776, 777, 119, 120, 717, 718, 5, 719, 860, 861, 862, 863, 864, 865, 866, 867, 868, 869, 870, 871, 872, 873, 874, 875, 876, 877, 878, 879, 880, 881] (by decide +kernel) (by decide +kernel)
set_option maxRecDepth 20000 in
theorem gL_law_X10_image : GoodIn wsL_law (wsV RL 130 RX10 yX10_image wsX10_image) := goodIn_app (goodIn_of _ (by decide +kernel)) ggL_law_X10_image
set_option maxRecDepth 20000 in
theorem ggL_law_X9_undo : GoodIn wsL_law wsX9_undo := goodIn_r _ [781, 18, 16, 17, 139, 164, 764, 765, 766, 15, 767, 47, 49, 53, 54, 55, 768, 597, 598, 21, 599, 59, 63, 64, 220, 2, 221, 600, 601, 602, 62, 603, 68, 69, 70, 71, 769, 770, 771, 52, 772, 76, 77, 78, 851, 852, 853, 854, 855, 856, 857, 858, 859, 882, 883, 884, 885, 886, 887, 888, 889, 913, 914, 915, 916, 909, 910, 911, 912] (by decide +kernel) (by decide +kernel)
set_option maxRecDepth 20000 in
theorem gL_law_X9_undo : GoodIn wsL_law (wsV RL 131 RX9 yX9_undo wsX9_undo) := goodIn_app (goodIn_of _ (by decide +kernel)) ggL_law_X9_undo
set_option maxRecDepth 20000 in
theorem ggL_law_X10_undo : GoodIn wsL_law wsX10_undo := goodIn_r _ [785, 777, 120, 119, 717, 718, 5, 719, 860, 861, 862, 863, 864, 865, 866, 867, 868, 869, 870, 871, 872, 873, 874, 875, 876, 877, 878, 879, 880, 881] (by decide +kernel) (by decide +kernel)
set_option maxRecDepth 20000 in
theorem gL_law_X10_undo : GoodIn wsL_law (wsV RL 134 RX10 yX10_undo wsX10_undo) := goodIn_app (goodIn_of _ (by decide +kernel)) ggL_law_X10_undo
set_option maxRecDepth 20000 in
theorem ggL_law_X9_count : GoodIn wsL_law wsX9_count := goodIn_r _ [789, 16, 628, 632, 691, 728, 38, 264, 851, 852, 853, 854, 855, 856, 857, 858, 859, 882, 883, 884, 885, 886, 909, 910, 911, 912, 900, 901, 902, 903, 904, 905] (by decide +kernel) (by decide +kernel)
set_option maxRecDepth 20000 in
theorem gL_law_X9_count : GoodIn wsL_law (wsV RL 135 RX9 yX9_count wsX9_count) := goodIn_app (goodIn_of _ (by decide +kernel)) ggL_law_X9_count
set_option maxRecDepth 20000 in
theorem ggL_law_X10_count : GoodIn wsL_law wsX10_count := goodIn_r _ [793, 119, 274, 860, 861, 862, 863, 864, 865, 866, 867, 868, 869, 870, 871, 872, 873, 874, 875, 876, 877, 878, 879, 880, 881] (by decide +kernel) (by decide +kernel)
set_option maxRecDepth 20000 in
theorem gL_law_X10_count : GoodIn wsL_law (wsV RL 138 RX10 yX10_count wsX10_count) := goodIn_app (goodIn_of _ (by decide +kernel)) ggL_law_X10_count
set_option maxRecDepth 20000 in
theorem ggL_law_X9_tape : GoodIn wsL_law wsX9_tape := goodIn_r _ [797, 42, 748, 749, 750, 2, 751, 144, 145, 146, 798, 799, 800, 41, 801, 113, 114, 112, 802, 803, 410, 804, 851, 852, 853, 854, 855, 856, 857, 858, 859, 906, 907, 908] (by decide +kernel) (by decide +kernel)
set_option maxRecDepth 20000 in
theorem gL_law_X9_tape : GoodIn wsL_law (wsV RL 139 RX9 yX9_tape wsX9_tape) := goodIn_app (goodIn_of _ (by decide +kernel)) ggL_law_X9_tape
set_option maxRecDepth 20000 in
theorem ggL_law_X10_tape : GoodIn wsL_law wsX10_tape := goodIn_r _ [808, 473, 193, 132, 133, 134, 756, 757, 5, 758, 759, 156, 157, 158, 860, 861, 862, 863, 864, 865, 866, 867, 868, 869, 870, 871, 872, 873, 874, 875, 876, 877, 878, 879, 880, 881] (by decide +kernel) (by decide +kernel)
set_option maxRecDepth 20000 in
theorem gL_law_X10_tape : GoodIn wsL_law (wsV RL 142 RX10 yX10_tape wsX10_tape) := goodIn_app (goodIn_of _ (by decide +kernel)) ggL_law_X10_tape
set_option maxRecDepth 20000 in
theorem ggL_law_X9_item : GoodIn wsL_law wsX9_item := goodIn_r _ [812, 42, 745, 747, 748, 749, 750, 2, 751, 144, 145, 146, 813, 814, 815, 41, 816, 114, 112, 817, 818, 819, 851, 852, 853, 854, 855, 856, 857, 858, 859, 906, 907, 908] (by decide +kernel) (by decide +kernel)
set_option maxRecDepth 20000 in
theorem gL_law_X9_item : GoodIn wsL_law (wsV RL 145 RX9 yX9_item wsX9_item) := goodIn_app (goodIn_of _ (by decide +kernel)) ggL_law_X9_item
set_option maxRecDepth 20000 in
theorem ggL_law_X10_item : GoodIn wsL_law wsX10_item := goodIn_r _ [823, 132, 133, 134, 756, 757, 5, 758, 759, 156, 157, 158, 824, 825, 826, 860, 861, 862, 863, 864, 865, 866, 867, 868, 869, 870, 871, 872, 873, 874, 875, 876, 877, 878, 879, 880, 881] (by decide +kernel) (by decide +kernel)
set_option maxRecDepth 20000 in
theorem gL_law_X10_item : GoodIn wsL_law (wsV RL 149 RX10 yX10_item wsX10_item) := goodIn_app (goodIn_of _ (by decide +kernel)) ggL_law_X10_item
set_option maxRecDepth 20000 in
theorem ggL_law_X9_peek : GoodIn wsL_law wsX9_peek := goodIn_r _ [830, 42, 662, 747, 748, 749, 750, 2, 751, 144, 145, 146, 813, 814, 815, 41, 816, 114, 112, 851, 852, 853, 854, 855, 856, 857, 858, 859, 906, 907, 908] (by decide +kernel) (by decide +kernel)
set_option maxRecDepth 20000 in
theorem gL_law_X9_peek : GoodIn wsL_law (wsV RL 150 RX9 yX9_peek wsX9_peek) := goodIn_app (goodIn_of _ (by decide +kernel)) ggL_law_X9_peek
set_option maxRecDepth 20000 in
theorem ggL_law_X10_peek : GoodIn wsL_law wsX10_peek := goodIn_r _ [834, 133, 134, 674, 756, 757, 5, 758, 759, 156, 157, 158, 860, 861, 862, 863, 864, 865, 866, 867, 868, 869, 870, 871, 872, 873, 874, 875, 876, 877, 878, 879, 880, 881] (by decide +kernel) (by decide +kernel)
set_option maxRecDepth 20000 in
theorem gL_law_X10_peek : GoodIn wsL_law (wsV RL 154 RX10 yX10_peek wsX10_peek) := goodIn_app (goodIn_of _ (by decide +kernel)) ggL_law_X10_peek
set_option maxRecDepth 20000 in
theorem ggL_law_X9_shift : GoodIn wsL_law wsX9_shift := goodIn_r _ [838, 42, 745, 747, 839, 840, 841, 842, 748, 749, 750, 2, 751, 144, 145, 146, 843, 844, 845, 41, 846, 114, 112, 851, 852, 853, 854, 855, 856, 857, 858, 859, 906, 907, 908] (by decide +kernel) (by decide +kernel)
set_option maxRecDepth 20000 in
theorem gL_law_X9_shift : GoodIn wsL_law (wsV RL 155 RX9 yX9_shift wsX9_shift) := goodIn_app (goodIn_of _ (by decide +kernel)) ggL_law_X9_shift
set_option maxRecDepth 20000 in
theorem ggL_law_X10_shift : GoodIn wsL_law wsX10_shift := goodIn_r _ [850, 132, 133, 134, 756, 757, 5, 758, 759, 156, 157, 158, 860, 861, 862, 863, 864, 865, 866, 867, 868, 869, 870, 871, 872, 873, 874, 875, 876, 877, 878, 879, 880, 881] (by decide +kernel) (by decide +kernel)
set_option maxRecDepth 20000 in
theorem gL_law_X10_shift : GoodIn wsL_law (wsV RL 159 RX10 yX10_shift wsX10_shift) := goodIn_app (goodIn_of _ (by decide +kernel)) ggL_law_X10_shift
