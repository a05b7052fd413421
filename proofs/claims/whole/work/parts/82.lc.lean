set_option maxRecDepth 20000 in
theorem ggL_law_X5_init : GoodIn wsL_law wsX5_init := goodIn_r _ [8, 9, 10, 11, 12, 13, 14, 15, 16, 17, 18, 19, 20, 21, 22, 23, 24, 25, 26, 27, 28, 29, 30, 31, 32, 33, 34, 35, 36, 37, 38, 39, 40, 41, 42, 43, 44, 45, 46, 47, 48, 49, 50, 51, 52, 53, 54, 55, 56, 57, 58, 59, 60, 61, 62, 63, 64, 65, 66, 67, 68, 69, 70, 859, 860, 861, 862, 863, 864, 813, 814, 815, 816, 817, 818, 819, 820, 821, 822, 823, 824, 825, 865, 866, 867, 868, 869, 870, 871, 872, 873, 874, 875, 876, 877, 878, 879, 880, 881, 882, 883, 884, 885, 886, 887, 888, 889, 890, 891, 892, 893, 894, 895] (by decide +kernel) (by decide +kernel)
set_option maxRecDepth 20000 in
theorem gL_law_X5_init : GoodIn wsL_law (wsX5_init) := ggL_law_X5_init
set_option maxRecDepth 20000 in
theorem ggL_law_X6_init : GoodIn wsL_law wsX6_init := goodIn_r _ [73, 74, 10, 11, 31, 75, 76, 77, 78, 79, 80, 81, 82, 83, 84, 85, 86, 87, 88, 89, 90, 91, 29, 92, 93, 94, 95, 96, 5, 97, 826, 827, 828, 829, 830, 831, 832, 833, 834, 835, 836, 837, 838, 839, 840, 841, 842, 843, 844, 845, 846, 847, 848, 849, 850, 851, 852, 853, 854, 855, 856, 857, 858] (by decide +kernel) (by decide +kernel)
set_option maxRecDepth 20000 in
theorem gL_law_X6_init : GoodIn wsL_law (wsX6_init) := ggL_law_X6_init
set_option maxRecDepth 20000 in
theorem ggL_law_X5_feed : GoodIn wsL_law wsX5_feed := goodIn_r _ [101, 102, 15, 103, 104, 14, 105, 106, 107, 41, 813, 814, 815, 816, 817, 818, 819, 820, 821, 822, 823, 824, 825, 859, 860, 861, 862, 863, 864] (by decide +kernel) (by decide +kernel)
set_option maxRecDepth 20000 in
theorem gL_law_X5_feed : GoodIn wsL_law (wsV RL 13 RX5 yX5_feed wsX5_feed) := goodIn_app (goodIn_of _ (by decide +kernel)) ggL_law_X5_feed
set_option maxRecDepth 20000 in
theorem ggL_law_X6_feed : GoodIn wsL_law wsX6_feed := goodIn_r _ [111, 112, 113, 114, 115, 79, 116, 117, 5, 118, 826, 827, 828, 829, 830, 831, 832, 833, 834, 835, 836, 837, 838, 839, 840, 841, 842, 843, 844, 845, 846, 847, 848, 849, 850, 851, 852, 853, 854, 855, 856, 857, 858] (by decide +kernel) (by decide +kernel)
set_option maxRecDepth 20000 in
theorem gL_law_X6_feed : GoodIn wsL_law (wsV RL 17 RX6 yX6_feed wsX6_feed) := goodIn_app (goodIn_of _ (by decide +kernel)) ggL_law_X6_feed
set_option maxRecDepth 20000 in
theorem ggL_law_X5_capital : GoodIn wsL_law wsX5_capital := goodIn_r _ [122, 15, 19, 23, 27, 30, 123, 14, 124, 125, 43, 126, 127, 44, 107, 128, 18, 129, 130, 131, 132, 133, 134, 135, 136, 137, 138, 139, 140, 141, 142, 143, 41, 144, 145, 146, 147, 148, 149, 150, 151, 152, 153, 154, 155, 156, 157, 158, 159, 160, 161, 162, 163, 164, 165, 166, 167, 168, 169, 170, 171, 172, 173, 48, 174, 175, 176, 177, 49, 50, 178, 22, 179, 180, 181, 182, 183, 184, 185, 186, 187, 188, 54, 55, 56, 189, 26, 190, 191, 192, 193, 194, 195, 196, 2, 197, 198, 199, 200, 813, 814, 815, 816, 817, 818, 819, 820, 821, 822, 823, 824, 825, 859, 860, 861, 862, 863, 864, 865, 866, 867, 868, 869, 870, 871, 872, 873, 874, 875, 876, 877, 878, 879, 880, 881, 882, 883, 884, 885, 886, 887, 888, 889] (by decide +kernel) (by decide +kernel)
set_option maxRecDepth 20000 in
theorem gL_law_X5_capital : GoodIn wsL_law (wsV RL 18 RX5 yX5_capital wsX5_capital) := goodIn_app (goodIn_of _ (by decide +kernel)) ggL_law_X5_capital
set_option maxRecDepth 20000 in
theorem ggL_law_X6_capital : GoodIn wsL_law wsX6_capital := goodIn_r _ [204, 80, 205, 206, 207, 208, 209, 114, 210, 211, 92, 212, 213, 214, 215, 5, 216, 79, 217, 218, 219, 220, 221, 222, 223, 224, 225, 226, 227, 228, 229, 230, 231, 232, 233, 234, 235, 236, 237, 238, 239, 240, 241, 242, 243, 244, 116, 117, 118, 245, 246, 247, 248, 81, 249, 250, 251, 252, 82, 253, 254, 255, 256, 83, 257, 258, 259, 260, 93, 261, 262, 75, 77, 76, 78, 94, 95, 96, 97, 826, 827, 828, 829, 830, 831, 832, 833, 834, 835, 836, 837, 838, 839, 840, 841, 842, 843, 844, 845, 846, 847, 848, 849, 850, 851, 852, 853, 854, 855, 856, 857, 858] (by decide +kernel) (by decide +kernel)
set_option maxRecDepth 20000 in
theorem gL_law_X6_capital : GoodIn wsL_law (wsV RL 22 RX6 yX6_capital wsX6_capital) := goodIn_app (goodIn_of _ (by decide +kernel)) ggL_law_X6_capital
set_option maxRecDepth 20000 in
theorem ggL_law_X5_fault : GoodIn wsL_law wsX5_fault := goodIn_r _ [266, 15, 813, 814, 815, 816, 817, 818, 819, 820, 821, 822, 823, 824, 825, 859, 860, 861, 862, 863, 864] (by decide +kernel) (by decide +kernel)
set_option maxRecDepth 20000 in
theorem gL_law_X5_fault : GoodIn wsL_law (wsV RL 23 RX5 yX5_fault wsX5_fault) := goodIn_app (goodIn_of _ (by decide +kernel)) ggL_law_X5_fault
set_option maxRecDepth 20000 in
theorem ggL_law_X6_fault : GoodIn wsL_law wsX6_fault := goodIn_r _ [270, 80, 826, 827, 828, 829, 830, 831, 832, 833, 834, 835, 836, 837, 838, 839, 840, 841, 842, 843, 844, 845, 846, 847, 848, 849, 850, 851, 852, 853, 854, 855, 856, 857, 858] (by decide +kernel) (by decide +kernel)
set_option maxRecDepth 20000 in
theorem gL_law_X6_fault : GoodIn wsL_law (wsV RL 26 RX6 yX6_fault wsX6_fault) := goodIn_app (goodIn_of _ (by decide +kernel)) ggL_law_X6_fault
set_option maxRecDepth 20000 in
theorem ggL_law_X5_told : GoodIn wsL_law wsX5_told := goodIn_r _ [274, 19, 15, 23, 198, 27, 102, 275, 276, 277, 2, 278, 279, 280, 281, 282, 283, 284, 285, 286, 287, 288, 289, 290, 291, 292, 293, 294, 295, 296, 297, 298, 299, 300, 301, 302, 303, 304, 305, 199, 200, 813, 814, 815, 816, 817, 818, 819, 820, 821, 822, 823, 824, 825, 865, 866, 867, 868, 869, 870, 871, 872, 859, 860, 861, 862, 863, 864, 873, 874, 875, 876, 877, 878, 879, 880, 881, 882, 883, 884, 885, 886, 887, 888, 889] (by decide +kernel) (by decide +kernel)
set_option maxRecDepth 20000 in
theorem gL_law_X5_told : GoodIn wsL_law (wsV RL 27 RX5 yX5_told wsX5_told) := goodIn_app (goodIn_of _ (by decide +kernel)) ggL_law_X5_told
set_option maxRecDepth 20000 in
theorem ggL_law_X6_told : GoodIn wsL_law wsX6_told := goodIn_r _ [309, 93, 212, 261, 262, 114, 78, 210, 211, 113, 310, 311, 312, 5, 313, 314, 315, 316, 317, 318, 319, 320, 321, 322, 323, 324, 325, 326, 327, 328, 75, 329, 330, 331, 332, 116, 117, 118, 333, 334, 335, 336, 337, 338, 339, 340, 88, 89, 826, 827, 828, 829, 830, 831, 832, 833, 834, 835, 836, 837, 838, 839, 840, 841, 842, 843, 844, 845, 846, 847, 848, 849, 850, 851, 852, 853, 854, 855, 856, 857, 858] (by decide +kernel) (by decide +kernel)
set_option maxRecDepth 20000 in
theorem gL_law_X6_told : GoodIn wsL_law (wsV RL 30 RX6 yX6_told wsX6_told) := goodIn_app (goodIn_of _ (by decide +kernel)) ggL_law_X6_told
set_option maxRecDepth 20000 in
theorem ggL_law_X5_sitter : GoodIn wsL_law wsX5_sitter := goodIn_r _ [344, 345, 19, 23, 102, 283, 284, 285, 2, 286, 346, 22, 347, 348, 55, 349, 350, 351, 187, 58, 352, 353, 354, 355, 188, 356, 357, 358, 359, 813, 814, 815, 816, 817, 818, 819, 820, 821, 822, 823, 824, 825, 865, 866, 867, 868, 869, 870, 871, 872, 873, 874, 875, 876, 877, 878, 879, 880, 881, 882, 883, 884, 885, 886] (by decide +kernel) (by decide +kernel)
set_option maxRecDepth 20000 in
theorem gL_law_X5_sitter : GoodIn wsL_law (wsV RL 31 RX5 yX5_sitter wsX5_sitter) := goodIn_app (goodIn_of _ (by decide +kernel)) ggL_law_X5_sitter
set_option maxRecDepth 20000 in
theorem ggL_law_X6_sitter : GoodIn wsL_law wsX6_sitter := goodIn_r _ [363, 364, 75, 78, 113, 365, 366, 367, 5, 368, 212, 116, 117, 118, 369, 370, 371, 372, 826, 827, 828, 829, 830, 831, 832, 833, 834, 835, 836, 837, 838, 839, 840, 841, 842, 843, 844, 845, 846, 847, 848, 849, 850, 851, 852, 853, 854, 855, 856, 857, 858] (by decide +kernel) (by decide +kernel)
set_option maxRecDepth 20000 in
theorem gL_law_X6_sitter : GoodIn wsL_law (wsV RL 35 RX6 yX6_sitter wsX6_sitter) := goodIn_app (goodIn_of _ (by decide +kernel)) ggL_law_X6_sitter
set_option maxRecDepth 20000 in
theorem ggL_law_X5_window : GoodIn wsL_law wsX5_window := goodIn_r _ [376, 345, 23, 377, 102, 378, 379, 380, 2, 381, 19, 279, 280, 281, 282, 283, 284, 285, 286, 287, 288, 289, 290, 291, 292, 293, 294, 295, 296, 297, 382, 383, 384, 385, 386, 387, 388, 389, 390, 391, 392, 813, 814, 815, 816, 817, 818, 819, 820, 821, 822, 823, 824, 825, 873, 874, 875, 876, 877, 878, 879, 880, 881, 882, 883, 884, 885, 886, 865, 866, 867, 868, 869, 870, 871, 872] (by decide +kernel) (by decide +kernel)
set_option maxRecDepth 20000 in
theorem gL_law_X5_window : GoodIn wsL_law (wsV RL 36 RX5 yX5_window wsX5_window) := goodIn_app (goodIn_of _ (by decide +kernel)) ggL_law_X5_window
set_option maxRecDepth 20000 in
theorem ggL_law_X6_window : GoodIn wsL_law wsX6_window := goodIn_r _ [396, 364, 78, 397, 113, 398, 399, 400, 5, 401, 261, 116, 117, 118, 318, 319, 320, 321, 212, 314, 315, 316, 317, 322, 323, 324, 325, 326, 327, 328, 75, 93, 329, 330, 331, 332, 402, 403, 404, 405, 406, 407, 408, 826, 827, 828, 829, 830, 831, 832, 833, 834, 835, 836, 837, 838, 839, 840, 841, 842, 843, 844, 845, 846, 847, 848, 849, 850, 851, 852, 853, 854, 855, 856, 857, 858] (by decide +kernel) (by decide +kernel)
set_option maxRecDepth 20000 in
theorem gL_law_X6_window : GoodIn wsL_law (wsV RL 39 RX6 yX6_window wsX6_window) := goodIn_app (goodIn_of _ (by decide +kernel)) ggL_law_X6_window
set_option maxRecDepth 20000 in
theorem ggL_law_X5_album : GoodIn wsL_law wsX5_album := goodIn_r _ [412, 102, 23, 353, 22, 354, 355, 188, 356, 357, 358, 359, 813, 814, 815, 816, 817, 818, 819, 820, 821, 822, 823, 824, 825, 873, 874, 875, 876, 877, 878, 879, 880, 881, 882, 883, 884, 885, 886] (by decide +kernel) (by decide +kernel)
set_option maxRecDepth 20000 in
theorem gL_law_X5_album : GoodIn wsL_law (wsV RL 40 RX5 yX5_album wsX5_album) := goodIn_app (goodIn_of _ (by decide +kernel)) ggL_law_X5_album
set_option maxRecDepth 20000 in
theorem ggL_law_X6_album : GoodIn wsL_law wsX6_album := goodIn_r _ [416, 417, 113, 78, 116, 117, 5, 118, 826, 827, 828, 829, 830, 831, 832, 833, 834, 835, 836, 837, 838, 839, 840, 841, 842, 843, 844, 845, 846, 847, 848, 849, 850, 851, 852, 853, 854, 855, 856, 857, 858] (by decide +kernel) (by decide +kernel)
set_option maxRecDepth 20000 in
theorem gL_law_X6_album : GoodIn wsL_law (wsV RL 43 RX6 yX6_album wsX6_album) := goodIn_app (goodIn_of _ (by decide +kernel)) ggL_law_X6_album
set_option maxRecDepth 20000 in
theorem ggL_law_X5_glass : GoodIn wsL_law wsX5_glass := goodIn_r _ [421, 23, 345, 422, 423, 2, 424, 813, 814, 815, 816, 817, 818, 819, 820, 821, 822, 823, 824, 825, 873, 874, 875, 876, 877, 878, 879, 880, 881, 882, 883, 884, 885, 886] (by decide +kernel) (by decide +kernel)
set_option maxRecDepth 20000 in
theorem gL_law_X5_glass : GoodIn wsL_law (wsV RL 44 RX5 yX5_glass wsX5_glass) := goodIn_app (goodIn_of _ (by decide +kernel)) ggL_law_X5_glass
set_option maxRecDepth 20000 in
theorem ggL_law_X6_glass : GoodIn wsL_law wsX6_glass := goodIn_r _ [428, 429, 78, 364, 116, 117, 5, 118, 826, 827, 828, 829, 830, 831, 832, 833, 834, 835, 836, 837, 838, 839, 840, 841, 842, 843, 844, 845, 846, 847, 848, 849, 850, 851, 852, 853, 854, 855, 856, 857, 858] (by decide +kernel) (by decide +kernel)
set_option maxRecDepth 20000 in
theorem gL_law_X6_glass : GoodIn wsL_law (wsV RL 47 RX6 yX6_glass wsX6_glass) := goodIn_app (goodIn_of _ (by decide +kernel)) ggL_law_X6_glass
set_option maxRecDepth 20000 in
theorem ggL_law_X5_stand : GoodIn wsL_law wsX5_stand := goodIn_r _ [433, 345, 23, 434, 27, 283, 284, 285, 2, 286, 19, 378, 379, 380, 381, 435, 26, 436, 437, 193, 64, 192, 438, 439, 440, 441, 442, 22, 443, 181, 182, 183, 184, 185, 186, 187, 188, 54, 444, 175, 176, 177, 55, 56, 57, 58, 59, 346, 347, 348, 445, 446, 447, 813, 814, 815, 816, 817, 818, 819, 820, 821, 822, 823, 824, 825, 873, 874, 875, 876, 877, 878, 879, 880, 881, 882, 883, 884, 885, 886, 865, 866, 867, 868, 869, 870, 871, 872, 887, 888, 889] (by decide +kernel) (by decide +kernel)
set_option maxRecDepth 20000 in
theorem gL_law_X5_stand : GoodIn wsL_law (wsV RL 48 RX5 yX5_stand wsX5_stand) := goodIn_app (goodIn_of _ (by decide +kernel)) ggL_law_X5_stand
set_option maxRecDepth 20000 in
theorem ggL_law_X6_stand : GoodIn wsL_law wsX6_stand := goodIn_r _ [451, 364, 452, 78, 365, 366, 367, 5, 368, 212, 116, 117, 118, 398, 399, 400, 401, 261, 318, 319, 320, 321, 453, 454, 455, 456, 211, 84, 826, 827, 828, 829, 830, 831, 832, 833, 834, 835, 836, 837, 838, 839, 840, 841, 842, 843, 844, 845, 846, 847, 848, 849, 850, 851, 852, 853, 854, 855, 856, 857, 858] (by decide +kernel) (by decide +kernel)
set_option maxRecDepth 20000 in
theorem gL_law_X6_stand : GoodIn wsL_law (wsV RL 51 RX6 yX6_stand wsX6_stand) := goodIn_app (goodIn_of _ (by decide +kernel)) ggL_law_X6_stand
set_option maxRecDepth 20000 in
theorem ggL_law_X5_go : GoodIn wsL_law wsX5_go := goodIn_r _ [460, 345, 23, 434, 27, 283, 284, 285, 2, 286, 19, 346, 22, 347, 348, 55, 378, 379, 380, 381, 435, 26, 436, 437, 193, 64, 192, 438, 439, 440, 441, 442, 443, 181, 182, 183, 184, 185, 186, 187, 188, 54, 444, 175, 176, 177, 56, 57, 58, 59, 813, 814, 815, 816, 817, 818, 819, 820, 821, 822, 823, 824, 825, 873, 874, 875, 876, 877, 878, 879, 880, 881, 882, 883, 884, 885, 886, 865, 866, 867, 868, 869, 870, 871, 872, 887, 888, 889] (by decide +kernel) (by decide +kernel)
set_option maxRecDepth 20000 in
theorem gL_law_X5_go : GoodIn wsL_law (wsV RL 52 RX5 yX5_go wsX5_go) := goodIn_app (goodIn_of _ (by decide +kernel)) ggL_law_X5_go
set_option maxRecDepth 20000 in
theorem ggL_law_X6_go : GoodIn wsL_law wsX6_go := goodIn_r _ [464, 364, 78, 452, 365, 366, 367, 5, 368, 212, 116, 117, 118, 453, 454, 455, 456, 211, 84, 826, 827, 828, 829, 830, 831, 832, 833, 834, 835, 836, 837, 838, 839, 840, 841, 842, 843, 844, 845, 846, 847, 848, 849, 850, 851, 852, 853, 854, 855, 856, 857, 858] (by decide +kernel) (by decide +kernel)
set_option maxRecDepth 20000 in
theorem gL_law_X6_go : GoodIn wsL_law (wsV RL 55 RX6 yX6_go wsX6_go) := goodIn_app (goodIn_of _ (by decide +kernel)) ggL_law_X6_go
set_option maxRecDepth 20000 in
theorem ggL_law_X5_lamp : GoodIn wsL_law wsX5_lamp := goodIn_r _ [468, 345, 102, 27, 23, 378, 379, 380, 2, 381, 19, 435, 26, 436, 437, 193, 64, 192, 438, 439, 440, 441, 442, 22, 443, 181, 182, 183, 184, 185, 186, 187, 188, 54, 444, 175, 176, 177, 55, 56, 57, 58, 59, 813, 814, 815, 816, 817, 818, 819, 820, 821, 822, 823, 824, 825, 873, 874, 875, 876, 877, 878, 879, 880, 881, 882, 883, 884, 885, 886, 865, 866, 867, 868, 869, 870, 871, 872, 887, 888, 889] (by decide +kernel) (by decide +kernel)
set_option maxRecDepth 20000 in
theorem gL_law_X5_lamp : GoodIn wsL_law (wsV RL 56 RX5 yX5_lamp wsX5_lamp) := goodIn_app (goodIn_of _ (by decide +kernel)) ggL_law_X5_lamp
set_option maxRecDepth 20000 in
theorem ggL_law_X6_lamp : GoodIn wsL_law wsX6_lamp := goodIn_r _ [472, 364, 332, 113, 78, 398, 399, 400, 5, 401, 261, 116, 117, 118, 453, 454, 455, 456, 211, 84, 826, 827, 828, 829, 830, 831, 832, 833, 834, 835, 836, 837, 838, 839, 840, 841, 842, 843, 844, 845, 846, 847, 848, 849, 850, 851, 852, 853, 854, 855, 856, 857, 858] (by decide +kernel) (by decide +kernel)
set_option maxRecDepth 20000 in
theorem gL_law_X6_lamp : GoodIn wsL_law (wsV RL 59 RX6 yX6_lamp wsX6_lamp) := goodIn_app (goodIn_of _ (by decide +kernel)) ggL_law_X6_lamp
set_option maxRecDepth 20000 in
theorem ggL_law_X5_wind : GoodIn wsL_law wsX5_wind := goodIn_r _ [476, 102, 19, 434, 27, 23, 435, 26, 436, 437, 193, 64, 192, 438, 439, 440, 441, 442, 22, 443, 181, 182, 183, 184, 185, 186, 187, 188, 54, 444, 175, 176, 177, 55, 56, 57, 58, 59, 813, 814, 815, 816, 817, 818, 819, 820, 821, 822, 823, 824, 825, 865, 866, 867, 868, 869, 870, 871, 872, 873, 874, 875, 876, 877, 878, 879, 880, 881, 882, 883, 884, 885, 886, 887, 888, 889] (by decide +kernel) (by decide +kernel)
set_option maxRecDepth 20000 in
theorem gL_law_X5_wind : GoodIn wsL_law (wsV RL 60 RX5 yX5_wind wsX5_wind) := goodIn_app (goodIn_of _ (by decide +kernel)) ggL_law_X5_wind
set_option maxRecDepth 20000 in
theorem ggL_law_X6_wind : GoodIn wsL_law wsX6_wind := goodIn_r _ [480, 481, 429, 113, 452, 78, 116, 117, 5, 118, 482, 483, 484, 485, 93, 453, 454, 455, 456, 211, 84, 826, 827, 828, 829, 830, 831, 832, 833, 834, 835, 836, 837, 838, 839, 840, 841, 842, 843, 844, 845, 846, 847, 848, 849, 850, 851, 852, 853, 854, 855, 856, 857, 858] (by decide +kernel) (by decide +kernel)
set_option maxRecDepth 20000 in
theorem gL_law_X6_wind : GoodIn wsL_law (wsV RL 63 RX6 yX6_wind wsX6_wind) := goodIn_app (goodIn_of _ (by decide +kernel)) ggL_law_X6_wind
set_option maxRecDepth 20000 in
theorem ggL_law_X5_bats : GoodIn wsL_law wsX5_bats := goodIn_r _ [489, 102, 19, 434, 27, 23, 435, 26, 436, 437, 193, 64, 192, 438, 439, 440, 441, 442, 22, 443, 181, 182, 183, 184, 185, 186, 187, 188, 54, 444, 175, 176, 177, 55, 56, 57, 58, 59, 813, 814, 815, 816, 817, 818, 819, 820, 821, 822, 823, 824, 825, 865, 866, 867, 868, 869, 870, 871, 872, 873, 874, 875, 876, 877, 878, 879, 880, 881, 882, 883, 884, 885, 886, 887, 888, 889] (by decide +kernel) (by decide +kernel)
set_option maxRecDepth 20000 in
theorem gL_law_X5_bats : GoodIn wsL_law (wsV RL 64 RX5 yX5_bats wsX5_bats) := goodIn_app (goodIn_of _ (by decide +kernel)) ggL_law_X5_bats
set_option maxRecDepth 20000 in
theorem ggL_law_X6_bats : GoodIn wsL_law wsX6_bats := goodIn_r _ [493, 494, 113, 452, 78, 116, 117, 5, 118, 482, 483, 484, 485, 93, 453, 454, 455, 456, 211, 84, 826, 827, 828, 829, 830, 831, 832, 833, 834, 835, 836, 837, 838, 839, 840, 841, 842, 843, 844, 845, 846, 847, 848, 849, 850, 851, 852, 853, 854, 855, 856, 857, 858] (by decide +kernel) (by decide +kernel)
set_option maxRecDepth 20000 in
theorem gL_law_X6_bats : GoodIn wsL_law (wsV RL 67 RX6 yX6_bats wsX6_bats) := goodIn_app (goodIn_of _ (by decide +kernel)) ggL_law_X6_bats
set_option maxRecDepth 20000 in
theorem ggL_law_X5_eye : GoodIn wsL_law wsX5_eye := goodIn_r _ [498, 102, 19, 434, 27, 23, 499, 500, 2, 501, 435, 26, 436, 437, 193, 64, 192, 438, 439, 440, 441, 442, 22, 443, 181, 182, 183, 184, 185, 186, 187, 188, 54, 444, 175, 176, 177, 55, 56, 57, 58, 59, 813, 814, 815, 816, 817, 818, 819, 820, 821, 822, 823, 824, 825, 865, 866, 867, 868, 869, 870, 871, 872, 873, 874, 875, 876, 877, 878, 879, 880, 881, 882, 883, 884, 885, 886, 887, 888, 889] (by decide +kernel) (by decide +kernel)
set_option maxRecDepth 20000 in
theorem gL_law_X5_eye : GoodIn wsL_law (wsV RL 68 RX5 yX5_eye wsX5_eye) := goodIn_app (goodIn_of _ (by decide +kernel)) ggL_law_X5_eye
set_option maxRecDepth 20000 in
theorem ggL_law_X6_eye : GoodIn wsL_law wsX6_eye := goodIn_r _ [505, 506, 113, 452, 78, 116, 117, 5, 118, 482, 483, 484, 485, 93, 453, 454, 455, 456, 211, 84, 826, 827, 828, 829, 830, 831, 832, 833, 834, 835, 836, 837, 838, 839, 840, 841, 842, 843, 844, 845, 846, 847, 848, 849, 850, 851, 852, 853, 854, 855, 856, 857, 858] (by decide +kernel) (by decide +kernel)
set_option maxRecDepth 20000 in
theorem gL_law_X6_eye : GoodIn wsL_law (wsV RL 71 RX6 yX6_eye wsX6_eye) := goodIn_app (goodIn_of _ (by decide +kernel)) ggL_law_X6_eye
set_option maxRecDepth 20000 in
theorem ggL_law_X5_rain : GoodIn wsL_law wsX5_rain := goodIn_r _ [510, 19, 434, 27, 23, 435, 26, 436, 437, 193, 64, 192, 438, 439, 440, 441, 442, 22, 443, 181, 182, 183, 184, 185, 186, 187, 188, 54, 444, 175, 176, 177, 55, 56, 57, 58, 59, 813, 814, 815, 816, 817, 818, 819, 820, 821, 822, 823, 824, 825, 865, 866, 867, 868, 869, 870, 871, 872, 873, 874, 875, 876, 877, 878, 879, 880, 881, 882, 883, 884, 885, 886, 887, 888, 889] (by decide +kernel) (by decide +kernel)
set_option maxRecDepth 20000 in
theorem gL_law_X5_rain : GoodIn wsL_law (wsV RL 72 RX5 yX5_rain wsX5_rain) := goodIn_app (goodIn_of _ (by decide +kernel)) ggL_law_X5_rain
set_option maxRecDepth 20000 in
theorem ggL_law_X6_rain : GoodIn wsL_law wsX6_rain := goodIn_r _ [514, 452, 78, 482, 483, 484, 5, 485, 93, 453, 454, 455, 456, 211, 84, 826, 827, 828, 829, 830, 831, 832, 833, 834, 835, 836, 837, 838, 839, 840, 841, 842, 843, 844, 845, 846, 847, 848, 849, 850, 851, 852, 853, 854, 855, 856, 857, 858] (by decide +kernel) (by decide +kernel)
set_option maxRecDepth 20000 in
theorem gL_law_X6_rain : GoodIn wsL_law (wsV RL 76 RX6 yX6_rain wsX6_rain) := goodIn_app (goodIn_of _ (by decide +kernel)) ggL_law_X6_rain
set_option maxRecDepth 20000 in
theorem ggL_law_X5_smoke : GoodIn wsL_law wsX5_smoke := goodIn_r _ [518, 345, 27, 23, 378, 379, 380, 2, 381, 19, 435, 26, 436, 437, 193, 64, 192, 438, 439, 440, 441, 442, 22, 443, 181, 182, 183, 184, 185, 186, 187, 188, 54, 444, 175, 176, 177, 55, 56, 57, 58, 59, 813, 814, 815, 816, 817, 818, 819, 820, 821, 822, 823, 824, 825, 873, 874, 875, 876, 877, 878, 879, 880, 881, 882, 883, 884, 885, 886, 865, 866, 867, 868, 869, 870, 871, 872, 887, 888, 889] (by decide +kernel) (by decide +kernel)
set_option maxRecDepth 20000 in
theorem gL_law_X5_smoke : GoodIn wsL_law (wsV RL 77 RX5 yX5_smoke wsX5_smoke) := goodIn_app (goodIn_of _ (by decide +kernel)) ggL_law_X5_smoke
set_option maxRecDepth 20000 in
theorem ggL_law_X6_smoke : GoodIn wsL_law wsX6_smoke := goodIn_r _ [522, 364, 78, 398, 399, 400, 5, 401, 261, 116, 117, 118, 453, 454, 455, 456, 211, 84, 826, 827, 828, 829, 830, 831, 832, 833, 834, 835, 836, 837, 838, 839, 840, 841, 842, 843, 844, 845, 846, 847, 848, 849, 850, 851, 852, 853, 854, 855, 856, 857, 858] (by decide +kernel) (by decide +kernel)
set_option maxRecDepth 20000 in
theorem gL_law_X6_smoke : GoodIn wsL_law (wsV RL 81 RX6 yX6_smoke wsX6_smoke) := goodIn_app (goodIn_of _ (by decide +kernel)) ggL_law_X6_smoke
set_option maxRecDepth 20000 in
theorem ggL_law_X5_press : GoodIn wsL_law wsX5_press := goodIn_r _ [526, 345, 27, 23, 422, 423, 2, 424, 378, 379, 380, 381, 19, 435, 26, 436, 437, 193, 64, 192, 438, 439, 440, 441, 442, 22, 443, 181, 182, 183, 184, 185, 186, 187, 188, 54, 444, 175, 176, 177, 55, 56, 57, 58, 59, 279, 280, 281, 282, 283, 284, 285, 286, 287, 288, 289, 290, 291, 292, 293, 294, 295, 296, 297, 813, 814, 815, 816, 817, 818, 819, 820, 821, 822, 823, 824, 825, 873, 874, 875, 876, 877, 878, 879, 880, 881, 882, 883, 884, 885, 886, 865, 866, 867, 868, 869, 870, 871, 872, 887, 888, 889] (by decide +kernel) (by decide +kernel)
set_option maxRecDepth 20000 in
theorem gL_law_X5_press : GoodIn wsL_law (wsV RL 82 RX5 yX5_press wsX5_press) := goodIn_app (goodIn_of _ (by decide +kernel)) ggL_law_X5_press
set_option maxRecDepth 20000 in
theorem ggL_law_X6_press : GoodIn wsL_law wsX6_press := goodIn_r _ [530, 429, 364, 78, 116, 117, 5, 118, 398, 399, 400, 401, 261, 453, 454, 455, 456, 211, 84, 314, 315, 316, 317, 318, 319, 320, 321, 212, 322, 323, 324, 325, 326, 327, 328, 75, 93, 329, 330, 331, 332, 826, 827, 828, 829, 830, 831, 832, 833, 834, 835, 836, 837, 838, 839, 840, 841, 842, 843, 844, 845, 846, 847, 848, 849, 850, 851, 852, 853, 854, 855, 856, 857, 858] (by decide +kernel) (by decide +kernel)
set_option maxRecDepth 20000 in
theorem gL_law_X6_press : GoodIn wsL_law (wsV RL 85 RX6 yX6_press wsX6_press) := goodIn_app (goodIn_of _ (by decide +kernel)) ggL_law_X6_press
set_option maxRecDepth 20000 in
theorem ggL_law_X5_dusk : GoodIn wsL_law wsX5_dusk := goodIn_r _ [534, 27, 23, 535, 536, 537, 2, 538, 102, 19, 434, 103, 435, 26, 436, 437, 193, 64, 192, 438, 439, 440, 441, 442, 22, 443, 181, 182, 183, 184, 185, 186, 187, 188, 54, 444, 175, 176, 177, 55, 56, 57, 58, 59, 539, 540, 541, 542, 279, 280, 281, 282, 283, 284, 285, 286, 287, 288, 289, 290, 291, 292, 293, 294, 295, 296, 297, 543, 544, 545, 546, 547, 548, 549, 813, 814, 815, 816, 817, 818, 819, 820, 821, 822, 823, 824, 825, 873, 874, 875, 876, 877, 878, 879, 880, 881, 882, 883, 884, 885, 886, 865, 866, 867, 868, 869, 870, 871, 872, 887, 888, 889] (by decide +kernel) (by decide +kernel)
set_option maxRecDepth 20000 in
theorem gL_law_X5_dusk : GoodIn wsL_law (wsV RL 86 RX5 yX5_dusk wsX5_dusk) := goodIn_app (goodIn_of _ (by decide +kernel)) ggL_law_X5_dusk
