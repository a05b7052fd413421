set_option maxRecDepth 20000 in
theorem ggL_law_X6_dusk : GoodIn wsL_law wsX6_dusk := goodIn_r _ [553, 78, 554, 555, 556, 5, 557, 558, 113, 452, 115, 116, 117, 118, 482, 483, 484, 485, 93, 453, 454, 455, 456, 211, 84, 559, 560, 561, 562, 261, 314, 315, 316, 317, 318, 319, 320, 321, 212, 322, 323, 324, 325, 326, 327, 328, 75, 329, 330, 331, 332, 563, 564, 565, 566, 826, 827, 828, 829, 830, 831, 832, 833, 834, 835, 836, 837, 838, 839, 840, 841, 842, 843, 844, 845, 846, 847, 848, 849, 850, 851, 852, 853, 854, 855, 856, 857, 858] (by decide +kernel) (by decide +kernel)
set_option maxRecDepth 20000 in
theorem gL_law_X6_dusk : GoodIn wsL_law (wsV RL 89 RX6 yX6_dusk wsX6_dusk) := goodIn_app (goodIn_of _ (by decide +kernel)) ggL_law_X6_dusk
set_option maxRecDepth 20000 in
theorem ggL_law_X5_drift : GoodIn wsL_law wsX5_drift := goodIn_r _ [570, 27, 23, 535, 536, 537, 2, 538, 102, 19, 434, 103, 435, 26, 436, 437, 193, 64, 192, 438, 439, 440, 441, 442, 22, 443, 181, 182, 183, 184, 185, 186, 187, 188, 54, 444, 175, 176, 177, 55, 56, 57, 58, 59, 571, 572, 573, 574, 575, 576, 577, 578, 579, 580, 581, 582, 583, 584, 585, 586, 378, 379, 380, 381, 445, 446, 447, 539, 540, 541, 542, 279, 280, 281, 282, 283, 284, 285, 286, 287, 288, 289, 290, 291, 292, 293, 294, 295, 296, 297, 543, 544, 545, 546, 547, 548, 549, 813, 814, 815, 816, 817, 818, 819, 820, 821, 822, 823, 824, 825, 873, 874, 875, 876, 877, 878, 879, 880, 881, 882, 883, 884, 885, 886, 865, 866, 867, 868, 869, 870, 871, 872, 887, 888, 889] (by decide +kernel) (by decide +kernel)
set_option maxRecDepth 20000 in
theorem gL_law_X5_drift : GoodIn wsL_law (wsV RL 90 RX5 yX5_drift wsX5_drift) := goodIn_app (goodIn_of _ (by decide +kernel)) ggL_law_X5_drift
set_option maxRecDepth 20000 in
theorem ggL_law_X6_drift : GoodIn wsL_law wsX6_drift := goodIn_r _ [590, 78, 554, 555, 556, 5, 557, 558, 113, 452, 115, 116, 117, 118, 482, 483, 484, 485, 93, 453, 454, 455, 456, 211, 84, 591, 592, 593, 594, 212, 261, 595, 596, 597, 598, 599, 600, 601, 602, 603, 318, 319, 320, 321, 559, 560, 561, 562, 314, 315, 316, 317, 322, 323, 324, 325, 326, 327, 328, 75, 329, 330, 331, 332, 563, 564, 565, 566, 826, 827, 828, 829, 830, 831, 832, 833, 834, 835, 836, 837, 838, 839, 840, 841, 842, 843, 844, 845, 846, 847, 848, 849, 850, 851, 852, 853, 854, 855, 856, 857, 858] (by decide +kernel) (by decide +kernel)
set_option maxRecDepth 20000 in
theorem gL_law_X6_drift : GoodIn wsL_law (wsV RL 93 RX6 yX6_drift wsX6_drift) := goodIn_app (goodIn_of _ (by decide +kernel)) ggL_law_X6_drift
set_option maxRecDepth 20000 in
theorem ggL_law_X5_undo : GoodIn wsL_law wsX5_undo := goodIn_r _ [607, 27, 434, 23, 608, 26, 609, 610, 193, 192, 611, 612, 440, 613, 64, 614, 357, 358, 359, 442, 22, 443, 181, 182, 183, 184, 185, 186, 187, 188, 54, 444, 175, 176, 177, 55, 56, 57, 58, 59, 813, 814, 815, 816, 817, 818, 819, 820, 821, 822, 823, 824, 825, 887, 888, 889, 873, 874, 875, 876, 877, 878, 879, 880, 881, 882, 883, 884, 885, 886] (by decide +kernel) (by decide +kernel)
set_option maxRecDepth 20000 in
theorem gL_law_X5_undo : GoodIn wsL_law (wsV RL 94 RX5 yX5_undo wsX5_undo) := goodIn_app (goodIn_of _ (by decide +kernel)) ggL_law_X5_undo
set_option maxRecDepth 20000 in
theorem ggL_law_X6_undo : GoodIn wsL_law wsX6_undo := goodIn_r _ [618, 211, 452, 78, 84, 826, 827, 828, 829, 830, 831, 832, 833, 834, 835, 836, 837, 838, 839, 840, 841, 842, 843, 844, 845, 846, 847, 848, 849, 850, 851, 852, 853, 854, 855, 856, 857, 858] (by decide +kernel) (by decide +kernel)
set_option maxRecDepth 20000 in
theorem gL_law_X6_undo : GoodIn wsL_law (wsV RL 97 RX6 yX6_undo wsX6_undo) := goodIn_app (goodIn_of _ (by decide +kernel)) ggL_law_X6_undo
set_option maxRecDepth 20000 in
theorem ggL_law_X5_like : GoodIn wsL_law wsX5_like := goodIn_r _ [622, 345, 102, 19, 283, 284, 285, 2, 286, 623, 624, 625, 377, 626, 627, 628, 386, 387, 388, 389, 390, 391, 392, 813, 814, 815, 816, 817, 818, 819, 820, 821, 822, 823, 824, 825, 865, 866, 867, 868, 869, 870, 871, 872] (by decide +kernel) (by decide +kernel)
set_option maxRecDepth 20000 in
theorem gL_law_X5_like : GoodIn wsL_law (wsV RL 98 RX5 yX5_like wsX5_like) := goodIn_app (goodIn_of _ (by decide +kernel)) ggL_law_X5_like
set_option maxRecDepth 20000 in
theorem ggL_law_X6_like : GoodIn wsL_law wsX6_like := goodIn_r _ [632, 364, 633, 113, 365, 366, 367, 5, 368, 212, 116, 117, 118, 634, 635, 636, 637, 75, 406, 407, 408, 826, 827, 828, 829, 830, 831, 832, 833, 834, 835, 836, 837, 838, 839, 840, 841, 842, 843, 844, 845, 846, 847, 848, 849, 850, 851, 852, 853, 854, 855, 856, 857, 858] (by decide +kernel) (by decide +kernel)
set_option maxRecDepth 20000 in
theorem gL_law_X6_like : GoodIn wsL_law (wsV RL 101 RX6 yX6_like wsX6_like) := goodIn_app (goodIn_of _ (by decide +kernel)) ggL_law_X6_like
set_option maxRecDepth 20000 in
theorem ggL_law_X5_seenAs : GoodIn wsL_law wsX5_seenAs := goodIn_r _ [641, 377, 102, 623, 624, 2, 625, 382, 383, 384, 385, 19, 386, 387, 388, 389, 390, 391, 392, 813, 814, 815, 816, 817, 818, 819, 820, 821, 822, 823, 824, 825, 865, 866, 867, 868, 869, 870, 871, 872] (by decide +kernel) (by decide +kernel)
set_option maxRecDepth 20000 in
theorem gL_law_X5_seenAs : GoodIn wsL_law (wsV RL 102 RX5 yX5_seenAs wsX5_seenAs) := goodIn_app (goodIn_of _ (by decide +kernel)) ggL_law_X5_seenAs
set_option maxRecDepth 20000 in
theorem ggL_law_X6_seenAs : GoodIn wsL_law wsX6_seenAs := goodIn_r _ [645, 633, 397, 113, 116, 117, 5, 118, 402, 403, 404, 405, 212, 75, 406, 407, 408, 826, 827, 828, 829, 830, 831, 832, 833, 834, 835, 836, 837, 838, 839, 840, 841, 842, 843, 844, 845, 846, 847, 848, 849, 850, 851, 852, 853, 854, 855, 856, 857, 858] (by decide +kernel) (by decide +kernel)
set_option maxRecDepth 20000 in
theorem gL_law_X6_seenAs : GoodIn wsL_law (wsV RL 105 RX6 yX6_seenAs wsX6_seenAs) := goodIn_app (goodIn_of _ (by decide +kernel)) ggL_law_X6_seenAs
set_option maxRecDepth 20000 in
theorem ggL_law_X5_bestLamp : GoodIn wsL_law wsX5_bestLamp := goodIn_r _ [649, 345, 102, 19, 378, 379, 380, 2, 381, 283, 284, 285, 286, 287, 288, 289, 290, 23, 291, 292, 293, 294, 295, 296, 297, 626, 627, 628, 386, 387, 388, 389, 390, 391, 392, 813, 814, 815, 816, 817, 818, 819, 820, 821, 822, 823, 824, 825, 865, 866, 867, 868, 869, 870, 871, 872, 873, 874, 875, 876, 877, 878, 879, 880, 881, 882, 883, 884, 885, 886] (by decide +kernel) (by decide +kernel)
set_option maxRecDepth 20000 in
theorem gL_law_X5_bestLamp : GoodIn wsL_law (wsV RL 106 RX5 yX5_bestLamp wsX5_bestLamp) := goodIn_app (goodIn_of _ (by decide +kernel)) ggL_law_X5_bestLamp
set_option maxRecDepth 20000 in
theorem ggL_law_X6_bestLamp : GoodIn wsL_law wsX6_bestLamp := goodIn_r _ [653, 364, 113, 78, 398, 399, 400, 5, 401, 261, 116, 117, 118, 365, 366, 367, 368, 212, 325, 326, 327, 328, 75, 93, 329, 330, 331, 332, 322, 323, 324, 634, 635, 636, 637, 406, 407, 408, 826, 827, 828, 829, 830, 831, 832, 833, 834, 835, 836, 837, 838, 839, 840, 841, 842, 843, 844, 845, 846, 847, 848, 849, 850, 851, 852, 853, 854, 855, 856, 857, 858] (by decide +kernel) (by decide +kernel)
set_option maxRecDepth 20000 in
theorem gL_law_X6_bestLamp : GoodIn wsL_law (wsV RL 110 RX6 yX6_bestLamp wsX6_bestLamp) := goodIn_app (goodIn_of _ (by decide +kernel)) ggL_law_X6_bestLamp
set_option maxRecDepth 20000 in
theorem ggL_law_X5_who : GoodIn wsL_law wsX5_who := goodIn_r _ [657, 102, 19, 623, 624, 2, 625, 377, 292, 293, 294, 813, 814, 815, 816, 817, 818, 819, 820, 821, 822, 823, 824, 825, 865, 866, 867, 868, 869, 870, 871, 872] (by decide +kernel) (by decide +kernel)
set_option maxRecDepth 20000 in
theorem gL_law_X5_who : GoodIn wsL_law (wsV RL 111 RX5 yX5_who wsX5_who) := goodIn_app (goodIn_of _ (by decide +kernel)) ggL_law_X5_who
set_option maxRecDepth 20000 in
theorem ggL_law_X6_who : GoodIn wsL_law wsX6_who := goodIn_r _ [661, 633, 417, 113, 212, 75, 116, 117, 5, 118, 329, 330, 331, 332, 322, 323, 324, 826, 827, 828, 829, 830, 831, 832, 833, 834, 835, 836, 837, 838, 839, 840, 841, 842, 843, 844, 845, 846, 847, 848, 849, 850, 851, 852, 853, 854, 855, 856, 857, 858] (by decide +kernel) (by decide +kernel)
set_option maxRecDepth 20000 in
theorem gL_law_X6_who : GoodIn wsL_law (wsV RL 114 RX6 yX6_who wsX6_who) := goodIn_app (goodIn_of _ (by decide +kernel)) ggL_law_X6_who
set_option maxRecDepth 20000 in
theorem ggL_law_X5_parted : GoodIn wsL_law wsX5_parted := goodIn_r _ [665, 102, 19, 623, 624, 2, 625, 377, 292, 293, 294, 813, 814, 815, 816, 817, 818, 819, 820, 821, 822, 823, 824, 825, 865, 866, 867, 868, 869, 870, 871, 872] (by decide +kernel) (by decide +kernel)
set_option maxRecDepth 20000 in
theorem gL_law_X5_parted : GoodIn wsL_law (wsV RL 115 RX5 yX5_parted wsX5_parted) := goodIn_app (goodIn_of _ (by decide +kernel)) ggL_law_X5_parted
set_option maxRecDepth 20000 in
theorem ggL_law_X6_parted : GoodIn wsL_law wsX6_parted := goodIn_r _ [669, 633, 113, 212, 75, 116, 117, 5, 118, 329, 330, 331, 332, 322, 323, 324, 826, 827, 828, 829, 830, 831, 832, 833, 834, 835, 836, 837, 838, 839, 840, 841, 842, 843, 844, 845, 846, 847, 848, 849, 850, 851, 852, 853, 854, 855, 856, 857, 858] (by decide +kernel) (by decide +kernel)
set_option maxRecDepth 20000 in
theorem gL_law_X6_parted : GoodIn wsL_law (wsV RL 118 RX6 yX6_parted wsX6_parted) := goodIn_app (goodIn_of _ (by decide +kernel)) ggL_law_X6_parted
set_option maxRecDepth 20000 in
theorem ggL_law_X5_places : GoodIn wsL_law wsX5_places := goodIn_r _ [673, 345, 36, 19, 23, 378, 379, 380, 2, 381, 674, 35, 675, 676, 677, 678, 679, 69, 70, 287, 288, 289, 290, 291, 292, 293, 294, 295, 296, 297, 680, 681, 682, 683, 684, 685, 813, 814, 815, 816, 817, 818, 819, 820, 821, 822, 823, 824, 825, 865, 866, 867, 868, 869, 870, 871, 872, 890, 891, 892, 893, 894, 895, 873, 874, 875, 876, 877, 878, 879, 880, 881, 882, 883, 884, 885, 886] (by decide +kernel) (by decide +kernel)
set_option maxRecDepth 20000 in
theorem gL_law_X5_places : GoodIn wsL_law (wsV RL 119 RX5 yX5_places wsX5_places) := goodIn_app (goodIn_of _ (by decide +kernel)) ggL_law_X5_places
set_option maxRecDepth 20000 in
theorem ggL_law_X6_places : GoodIn wsL_law wsX6_places := goodIn_r _ [689, 364, 86, 398, 399, 400, 5, 401, 261, 116, 117, 118, 690, 691, 692, 693, 212, 87, 78, 85, 325, 326, 327, 328, 75, 93, 329, 330, 331, 332, 322, 323, 324, 826, 827, 828, 829, 830, 831, 832, 833, 834, 835, 836, 837, 838, 839, 840, 841, 842, 843, 844, 845, 846, 847, 848, 849, 850, 851, 852, 853, 854, 855, 856, 857, 858] (by decide +kernel) (by decide +kernel)
set_option maxRecDepth 20000 in
theorem gL_law_X6_places : GoodIn wsL_law (wsV RL 122 RX6 yX6_places wsX6_places) := goodIn_app (goodIn_of _ (by decide +kernel)) ggL_law_X6_places
set_option maxRecDepth 20000 in
theorem ggL_law_X5_apart : GoodIn wsL_law wsX5_apart := goodIn_r _ [697, 345, 19, 102, 283, 284, 285, 2, 286, 386, 387, 388, 389, 390, 391, 392, 813, 814, 815, 816, 817, 818, 819, 820, 821, 822, 823, 824, 825, 865, 866, 867, 868, 869, 870, 871, 872] (by decide +kernel) (by decide +kernel)
set_option maxRecDepth 20000 in
theorem gL_law_X5_apart : GoodIn wsL_law (wsV RL 123 RX5 yX5_apart wsX5_apart) := goodIn_app (goodIn_of _ (by decide +kernel)) ggL_law_X5_apart
set_option maxRecDepth 20000 in
theorem ggL_law_X6_apart : GoodIn wsL_law wsX6_apart := goodIn_r _ [701, 364, 75, 113, 365, 366, 367, 5, 368, 212, 116, 117, 118, 406, 407, 408, 826, 827, 828, 829, 830, 831, 832, 833, 834, 835, 836, 837, 838, 839, 840, 841, 842, 843, 844, 845, 846, 847, 848, 849, 850, 851, 852, 853, 854, 855, 856, 857, 858] (by decide +kernel) (by decide +kernel)
set_option maxRecDepth 20000 in
theorem gL_law_X6_apart : GoodIn wsL_law (wsV RL 126 RX6 yX6_apart wsX6_apart) := goodIn_app (goodIn_of _ (by decide +kernel)) ggL_law_X6_apart
set_option maxRecDepth 20000 in
theorem ggL_law_X5_turned : GoodIn wsL_law wsX5_turned := goodIn_r _ [705, 102, 623, 624, 2, 625, 377, 706, 707, 708, 709, 710, 711, 712, 713, 714] (by decide +kernel) (by decide +kernel)
set_option maxRecDepth 20000 in
theorem gL_law_X5_turned : GoodIn wsL_law (wsV RL 127 RX5 yX5_turned wsX5_turned) := goodIn_app (goodIn_of _ (by decide +kernel)) ggL_law_X5_turned
set_option maxRecDepth 20000 in
theorem ggL_law_X6_turned : GoodIn wsL_law wsX6_turned := goodIn_r _ [718, 633, 113, 116, 117, 5, 118, 719, 720, 721, 322, 323, 324] (by decide +kernel) (by decide +kernel)
set_option maxRecDepth 20000 in
theorem gL_law_X6_turned : GoodIn wsL_law (wsV RL 130 RX6 yX6_turned wsX6_turned) := goodIn_app (goodIn_of _ (by decide +kernel)) ggL_law_X6_turned
set_option maxRecDepth 20000 in
theorem ggL_law_X5_votes : GoodIn wsL_law wsX5_votes := goodIn_r _ [725, 345, 102, 37, 283, 284, 285, 2, 286, 19, 623, 624, 625, 377, 726, 727, 728, 729, 291, 382, 383, 384, 385, 386, 387, 388, 389, 390, 391, 392, 730, 731, 732, 733, 813, 814, 815, 816, 817, 818, 819, 820, 821, 822, 823, 824, 825, 865, 866, 867, 868, 869, 870, 871, 872] (by decide +kernel) (by decide +kernel)
set_option maxRecDepth 20000 in
theorem gL_law_X5_votes : GoodIn wsL_law (wsV RL 131 RX5 yX5_votes wsX5_votes) := goodIn_app (goodIn_of _ (by decide +kernel)) ggL_law_X5_votes
set_option maxRecDepth 20000 in
theorem ggL_law_X6_votes : GoodIn wsL_law wsX6_votes := goodIn_r _ [737, 364, 633, 113, 212, 365, 366, 367, 5, 368, 116, 117, 118, 738, 739, 740, 741, 262, 77, 742, 743, 744, 322, 323, 324, 402, 403, 404, 405, 75, 406, 407, 408, 826, 827, 828, 829, 830, 831, 832, 833, 834, 835, 836, 837, 838, 839, 840, 841, 842, 843, 844, 845, 846, 847, 848, 849, 850, 851, 852, 853, 854, 855, 856, 857, 858] (by decide +kernel) (by decide +kernel)
set_option maxRecDepth 20000 in
theorem gL_law_X6_votes : GoodIn wsL_law (wsV RL 134 RX6 yX6_votes wsX6_votes) := goodIn_app (goodIn_of _ (by decide +kernel)) ggL_law_X6_votes
set_option maxRecDepth 20000 in
theorem ggL_law_X5_clear : GoodIn wsL_law wsX5_clear := goodIn_r _ [748, 102, 749, 750] (by decide +kernel) (by decide +kernel)
set_option maxRecDepth 20000 in
theorem gL_law_X5_clear : GoodIn wsL_law (wsV RL 135 RX5 yX5_clear wsX5_clear) := goodIn_app (goodIn_of _ (by decide +kernel)) ggL_law_X5_clear
set_option maxRecDepth 20000 in
theorem ggL_law_X6_clear : GoodIn wsL_law wsX6_clear := goodIn_r _ [754, 558, 755, 113, 756, 116, 117, 5, 118] (by decide +kernel) (by decide +kernel)
set_option maxRecDepth 20000 in
theorem gL_law_X6_clear : GoodIn wsL_law (wsV RL 138 RX6 yX6_clear wsX6_clear) := goodIn_app (goodIn_of _ (by decide +kernel)) ggL_law_X6_clear
set_option maxRecDepth 20000 in
theorem ggL_law_X5_tellOf : GoodIn wsL_law wsX5_tellOf := goodIn_r _ [760, 102, 198, 103, 199, 200, 499, 500, 2, 501, 813, 814, 815, 816, 817, 818, 819, 820, 821, 822, 823, 824, 825] (by decide +kernel) (by decide +kernel)
set_option maxRecDepth 20000 in
theorem gL_law_X5_tellOf : GoodIn wsL_law (wsV RL 139 RX5 yX5_tellOf wsX5_tellOf) := goodIn_app (goodIn_of _ (by decide +kernel)) ggL_law_X5_tellOf
set_option maxRecDepth 20000 in
theorem ggL_law_X6_tellOf : GoodIn wsL_law wsX6_tellOf := goodIn_r _ [764, 506, 113, 210, 115, 88, 89, 116, 117, 5, 118, 826, 827, 828, 829, 830, 831, 832, 833, 834, 835, 836, 837, 838, 839, 840, 841, 842, 843, 844, 845, 846, 847, 848, 849, 850, 851, 852, 853, 854, 855, 856, 857, 858] (by decide +kernel) (by decide +kernel)
set_option maxRecDepth 20000 in
theorem gL_law_X6_tellOf : GoodIn wsL_law (wsV RL 142 RX6 yX6_tellOf wsX6_tellOf) := goodIn_app (goodIn_of _ (by decide +kernel)) ggL_law_X6_tellOf
set_option maxRecDepth 20000 in
theorem ggL_law_X5_ask : GoodIn wsL_law wsX5_ask := goodIn_r _ [768, 769, 612, 440, 613, 770, 771, 772, 2, 773, 19, 302, 303, 304, 305, 199, 200, 292, 293, 294, 813, 814, 815, 816, 817, 818, 819, 820, 821, 822, 823, 824, 825, 865, 866, 867, 868, 869, 870, 871, 872] (by decide +kernel) (by decide +kernel)
set_option maxRecDepth 20000 in
theorem gL_law_X5_ask : GoodIn wsL_law (wsV RL 143 RX5 yX5_ask wsX5_ask) := goodIn_app (goodIn_of _ (by decide +kernel)) ggL_law_X5_ask
set_option maxRecDepth 20000 in
theorem ggL_law_X6_ask : GoodIn wsL_law wsX6_ask := goodIn_r _ [777, 90, 212, 75, 329, 330, 5, 331, 332, 322, 323, 324, 116, 117, 118, 337, 338, 339, 340, 210, 88, 89, 826, 827, 828, 829, 830, 831, 832, 833, 834, 835, 836, 837, 838, 839, 840, 841, 842, 843, 844, 845, 846, 847, 848, 849, 850, 851, 852, 853, 854, 855, 856, 857, 858] (by decide +kernel) (by decide +kernel)
set_option maxRecDepth 20000 in
theorem gL_law_X6_ask : GoodIn wsL_law (wsV RL 146 RX6 yX6_ask wsX6_ask) := goodIn_app (goodIn_of _ (by decide +kernel)) ggL_law_X6_ask
set_option maxRecDepth 20000 in
theorem ggL_law_X5_tear : GoodIn wsL_law wsX5_tear := goodIn_r _ [781, 198, 194, 195, 196, 2, 197, 199, 200, 813, 814, 815, 816, 817, 818, 819, 820, 821, 822, 823, 824, 825] (by decide +kernel) (by decide +kernel)
set_option maxRecDepth 20000 in
theorem gL_law_X5_tear : GoodIn wsL_law (wsV RL 147 RX5 yX5_tear wsX5_tear) := goodIn_app (goodIn_of _ (by decide +kernel)) ggL_law_X5_tear
set_option maxRecDepth 20000 in
theorem ggL_law_X6_tear : GoodIn wsL_law wsX6_tear := goodIn_r _ [785, 210, 826, 827, 828, 829, 830, 831, 832, 833, 834, 835, 836, 837, 838, 839, 840, 841, 842, 843, 844, 845, 846, 847, 848, 849, 850, 851, 852, 853, 854, 855, 856, 857, 858] (by decide +kernel) (by decide +kernel)
set_option maxRecDepth 20000 in
theorem gL_law_X6_tear : GoodIn wsL_law (wsV RL 150 RX6 yX6_tear wsX6_tear) := goodIn_app (goodIn_of _ (by decide +kernel)) ggL_law_X6_tear
set_option maxRecDepth 20000 in
theorem ggL_law_X5_seed : GoodIn wsL_law wsX5_seed := goodIn_r _ [789, 102, 579, 813, 814, 815, 816, 817, 818, 819, 820, 821, 822, 823, 824, 825] (by decide +kernel) (by decide +kernel)
set_option maxRecDepth 20000 in
theorem gL_law_X5_seed : GoodIn wsL_law (wsV RL 151 RX5 yX5_seed wsX5_seed) := goodIn_app (goodIn_of _ (by decide +kernel)) ggL_law_X5_seed
set_option maxRecDepth 20000 in
theorem ggL_law_X6_seed : GoodIn wsL_law wsX6_seed := goodIn_r _ [793, 113, 599, 826, 827, 828, 829, 830, 831, 832, 833, 834, 835, 836, 837, 838, 839, 840, 841, 842, 843, 844, 845, 846, 847, 848, 849, 850, 851, 852, 853, 854, 855, 856, 857, 858] (by decide +kernel) (by decide +kernel)
set_option maxRecDepth 20000 in
theorem gL_law_X6_seed : GoodIn wsL_law (wsV RL 154 RX6 yX6_seed wsX6_seed) := goodIn_app (goodIn_of _ (by decide +kernel)) ggL_law_X6_seed
set_option maxRecDepth 20000 in
theorem ggL_law_X5_keep : GoodIn wsL_law wsX5_keep := goodIn_r _ [797, 345, 23, 28, 32, 579, 30, 27, 798, 799, 2, 800, 442, 22, 443, 181, 182, 183, 184, 185, 186, 187, 188, 54, 444, 175, 176, 177, 55, 56, 57, 58, 59, 189, 26, 190, 191, 192, 193, 813, 814, 815, 816, 817, 818, 819, 820, 821, 822, 823, 824, 825, 873, 874, 875, 876, 877, 878, 879, 880, 881, 882, 883, 884, 885, 886, 887, 888, 889] (by decide +kernel) (by decide +kernel)
set_option maxRecDepth 20000 in
theorem gL_law_X5_keep : GoodIn wsL_law (wsV RL 155 RX5 yX5_keep wsX5_keep) := goodIn_app (goodIn_of _ (by decide +kernel)) ggL_law_X5_keep
set_option maxRecDepth 20000 in
theorem ggL_law_X6_keep : GoodIn wsL_law wsX6_keep := goodIn_r _ [804, 364, 91, 78, 599, 92, 211, 116, 117, 5, 118, 826, 827, 828, 829, 830, 831, 832, 833, 834, 835, 836, 837, 838, 839, 840, 841, 842, 843, 844, 845, 846, 847, 848, 849, 850, 851, 852, 853, 854, 855, 856, 857, 858] (by decide +kernel) (by decide +kernel)
set_option maxRecDepth 20000 in
theorem gL_law_X6_keep : GoodIn wsL_law (wsV RL 158 RX6 yX6_keep wsX6_keep) := goodIn_app (goodIn_of _ (by decide +kernel)) ggL_law_X6_keep
set_option maxRecDepth 20000 in
theorem ggL_law_X5_goBack : GoodIn wsL_law wsX5_goBack := goodIn_r _ [808, 345, 30, 434, 28, 23, 32, 579, 27, 798, 799, 2, 800, 442, 22, 443, 181, 182, 183, 184, 185, 186, 187, 188, 54, 444, 175, 176, 177, 55, 56, 57, 58, 59, 189, 26, 190, 191, 192, 193, 813, 814, 815, 816, 817, 818, 819, 820, 821, 822, 823, 824, 825, 873, 874, 875, 876, 877, 878, 879, 880, 881, 882, 883, 884, 885, 886, 887, 888, 889] (by decide +kernel) (by decide +kernel)
set_option maxRecDepth 20000 in
theorem gL_law_X5_goBack : GoodIn wsL_law (wsV RL 159 RX5 yX5_goBack wsX5_goBack) := goodIn_app (goodIn_of _ (by decide +kernel)) ggL_law_X5_goBack
set_option maxRecDepth 20000 in
theorem ggL_law_X6_goBack : GoodIn wsL_law wsX6_goBack := goodIn_r _ [812, 364, 92, 452, 78, 91, 599, 211, 116, 117, 5, 118, 826, 827, 828, 829, 830, 831, 832, 833, 834, 835, 836, 837, 838, 839, 840, 841, 842, 843, 844, 845, 846, 847, 848, 849, 850, 851, 852, 853, 854, 855, 856, 857, 858] (by decide +kernel) (by decide +kernel)
set_option maxRecDepth 20000 in
theorem gL_law_X6_goBack : GoodIn wsL_law (wsV RL 162 RX6 yX6_goBack wsX6_goBack) := goodIn_app (goodIn_of _ (by decide +kernel)) ggL_law_X6_goBack
