set_option maxRecDepth 20000 in
theorem ggL_law_X10_init : GoodIn wsL_law wsX10_init := goodIn_r _ [8, 9, 10, 11, 12, 13, 14, 15, 16, 17, 18, 19, 20, 21, 22, 23, 24, 25, 26, 27, 28, 29, 30, 31, 32, 33, 34, 35, 36, 37, 38, 39, 40, 41, 42, 43, 44, 45, 46, 47, 48, 49, 50, 51, 52, 53, 54, 55, 56, 57, 58, 59, 752, 753, 754, 755, 756, 757, 758, 759, 760, 761, 762, 763, 764, 765, 766, 767, 768, 769, 770, 820, 821, 822, 823, 824, 825, 826, 827, 828, 829, 830, 831] (by decide +kernel) (by decide +kernel)
set_option maxRecDepth 20000 in
theorem gL_law_X10_init : GoodIn wsL_law (wsX10_init) := ggL_law_X10_init
set_option maxRecDepth 20000 in
theorem ggL_law_X11_init : GoodIn wsL_law wsX11_init := goodIn_r _ [62, 63, 10, 11, 30, 64, 65, 66, 67, 68, 69, 70, 71, 72, 73, 74, 75, 76, 77, 78, 79, 80, 81, 82, 83, 84, 85, 86, 87, 88, 89, 90, 91, 92, 93, 94, 95, 96, 97, 98, 58, 99, 100, 101, 102, 103, 771, 772, 773, 774, 775, 776, 777, 778, 779, 780, 781, 782, 783, 784, 785, 786, 787, 788, 789, 790, 791, 792, 793, 794, 795, 796, 797, 798, 799, 800, 801, 802, 803, 804, 805, 806, 807, 808, 809, 810, 811, 812, 813, 814, 815, 816, 817, 818, 819] (by decide +kernel) (by decide +kernel)
set_option maxRecDepth 20000 in
theorem gL_law_X11_init : GoodIn wsL_law (wsX11_init) := ggL_law_X11_init
set_option maxRecDepth 20000 in
theorem ggL_law_X10_later : GoodIn wsL_law wsX10_later := goodIn_r _ [107, 108, 109, 110, 2, 111, 752, 753, 754, 755, 756, 757, 758, 759, 760, 761, 762, 763, 764, 765, 766, 767, 768, 769, 770] (by decide +kernel) (by decide +kernel)
set_option maxRecDepth 20000 in
theorem gL_law_X10_later : GoodIn wsL_law (wsV RL 13 RX10 yX10_later wsX10_later) := goodIn_app (goodIn_of _ (by decide +kernel)) ggL_law_X10_later
set_option maxRecDepth 20000 in
theorem ggL_law_X11_later : GoodIn wsL_law wsX11_later := goodIn_r _ [115, 116, 771, 772, 773, 774, 775, 776, 777, 778, 779, 780, 781, 782, 783, 784, 785, 786, 787, 788, 789, 790, 791, 792, 793, 794, 795, 796, 797, 798, 799, 800, 801, 802, 803, 804, 805, 806, 807, 808, 809, 810, 811, 812, 813, 814, 815, 816, 817, 818, 819] (by decide +kernel) (by decide +kernel)
set_option maxRecDepth 20000 in
theorem gL_law_X11_later : GoodIn wsL_law (wsV RL 17 RX11 yX11_later wsX11_later) := goodIn_app (goodIn_of _ (by decide +kernel)) ggL_law_X11_later
set_option maxRecDepth 20000 in
theorem ggL_law_X10_fellow : GoodIn wsL_law wsX10_fellow := goodIn_r _ [120, 121, 122, 123, 124, 2, 125, 752, 753, 754, 755, 756, 757, 758, 759, 760, 761, 762, 763, 764, 765, 766, 767, 768, 769, 770] (by decide +kernel) (by decide +kernel)
set_option maxRecDepth 20000 in
theorem gL_law_X10_fellow : GoodIn wsL_law (wsV RL 18 RX10 yX10_fellow wsX10_fellow) := goodIn_app (goodIn_of _ (by decide +kernel)) ggL_law_X10_fellow
set_option maxRecDepth 20000 in
theorem ggL_law_X11_fellow : GoodIn wsL_law wsX11_fellow := goodIn_r _ [129, 130, 771, 772, 773, 774, 775, 776, 777, 778, 779, 780, 781, 782, 783, 784, 785, 786, 787, 788, 789, 790, 791, 792, 793, 794, 795, 796, 797, 798, 799, 800, 801, 802, 803, 804, 805, 806, 807, 808, 809, 810, 811, 812, 813, 814, 815, 816, 817, 818, 819] (by decide +kernel) (by decide +kernel)
set_option maxRecDepth 20000 in
theorem gL_law_X11_fellow : GoodIn wsL_law (wsV RL 22 RX11 yX11_fellow wsX11_fellow) := goodIn_app (goodIn_of _ (by decide +kernel)) ggL_law_X11_fellow
set_option maxRecDepth 20000 in
theorem ggL_law_X10_post : GoodIn wsL_law wsX10_post := goodIn_r _ [134, 13, 135, 136, 109, 110, 2, 111, 752, 753, 754, 755, 756, 757, 758, 759, 760, 761, 762, 763, 764, 765, 766, 767, 768, 769, 770, 823, 824] (by decide +kernel) (by decide +kernel)
set_option maxRecDepth 20000 in
theorem gL_law_X10_post : GoodIn wsL_law (wsV RL 23 RX10 yX10_post wsX10_post) := goodIn_app (goodIn_of _ (by decide +kernel)) ggL_law_X10_post
set_option maxRecDepth 20000 in
theorem ggL_law_X11_post : GoodIn wsL_law wsX11_post := goodIn_r _ [140, 65, 66, 141, 142, 5, 143, 771, 772, 773, 774, 775, 776, 777, 778, 779, 780, 781, 782, 783, 784, 785, 786, 787, 788, 789, 790, 791, 792, 793, 794, 795, 796, 797, 798, 799, 800, 801, 802, 803, 804, 805, 806, 807, 808, 809, 810, 811, 812, 813, 814, 815, 816, 817, 818, 819] (by decide +kernel) (by decide +kernel)
set_option maxRecDepth 20000 in
theorem gL_law_X11_post : GoodIn wsL_law (wsV RL 27 RX11 yX11_post wsX11_post) := goodIn_app (goodIn_of _ (by decide +kernel)) ggL_law_X11_post
set_option maxRecDepth 20000 in
theorem ggL_law_X10_paper : GoodIn wsL_law wsX10_paper := goodIn_r _ [147, 148, 108, 149, 14, 150, 151, 13, 15, 109, 110, 2, 111, 152, 153, 154, 155, 121, 156, 157, 158, 159, 10, 11, 160, 161, 162, 163, 164, 165, 166, 167, 168, 169, 170, 171, 172, 173, 174, 175, 752, 753, 754, 755, 756, 757, 758, 759, 760, 761, 762, 763, 764, 765, 766, 767, 768, 769, 770, 832, 833, 834, 835, 836, 837, 838, 839, 840, 823, 824] (by decide +kernel) (by decide +kernel)
set_option maxRecDepth 20000 in
theorem gL_law_X10_paper : GoodIn wsL_law (wsV RL 28 RX10 yX10_paper wsX10_paper) := goodIn_app (goodIn_of _ (by decide +kernel)) ggL_law_X10_paper
set_option maxRecDepth 20000 in
theorem ggL_law_X11_paper : GoodIn wsL_law wsX11_paper := goodIn_r _ [179, 180, 116, 181, 67, 68, 69, 70, 74, 71, 72, 65, 73, 66, 141, 142, 5, 143, 182, 183, 184, 185, 130, 771, 772, 773, 774, 775, 776, 777, 778, 779, 780, 781, 782, 783, 784, 785, 786, 787, 788, 789, 790, 791, 792, 793, 794, 795, 796, 797, 798, 799, 800, 801, 802, 803, 804, 805, 806, 807, 808, 809, 810, 811, 812, 813, 814, 815, 816, 817, 818, 819] (by decide +kernel) (by decide +kernel)
set_option maxRecDepth 20000 in
theorem gL_law_X11_paper : GoodIn wsL_law (wsV RL 32 RX11 yX11_paper wsX11_paper) := goodIn_app (goodIn_of _ (by decide +kernel)) ggL_law_X11_paper
set_option maxRecDepth 20000 in
theorem ggL_law_X10_note : GoodIn wsL_law wsX10_note := goodIn_r _ [189, 108, 190, 191, 192, 193, 194, 195, 196, 197, 2, 198, 149, 15, 109, 110, 111, 199, 200, 201, 151, 202, 166, 161, 162, 203, 204, 205, 206, 165, 207, 208, 209, 210, 211, 10, 11, 212, 213, 214, 752, 753, 754, 755, 756, 757, 758, 759, 760, 761, 762, 763, 764, 765, 766, 767, 768, 769, 770, 832, 833, 834, 835, 836, 837, 838, 839, 840, 841, 842, 843] (by decide +kernel) (by decide +kernel)
set_option maxRecDepth 20000 in
theorem gL_law_X10_note : GoodIn wsL_law (wsV RL 33 RX10 yX10_note wsX10_note) := goodIn_app (goodIn_of _ (by decide +kernel)) ggL_law_X10_note
set_option maxRecDepth 20000 in
theorem ggL_law_X11_note : GoodIn wsL_law wsX11_note := goodIn_r _ [218, 116, 219, 75, 76, 77, 78, 220, 221, 222, 5, 223, 181, 141, 142, 143, 224, 225, 226, 227, 67, 72, 73, 228, 229, 230, 231, 771, 772, 773, 774, 775, 776, 777, 778, 779, 780, 781, 782, 783, 784, 785, 786, 787, 788, 789, 790, 791, 792, 793, 794, 795, 796, 797, 798, 799, 800, 801, 802, 803, 804, 805, 806, 807, 808, 809, 810, 811, 812, 813, 814, 815, 816, 817, 818, 819] (by decide +kernel) (by decide +kernel)
set_option maxRecDepth 20000 in
theorem gL_law_X11_note : GoodIn wsL_law (wsV RL 36 RX11 yX11_note wsX11_note) := goodIn_app (goodIn_of _ (by decide +kernel)) ggL_law_X11_note
set_option maxRecDepth 20000 in
theorem ggL_law_X10_open : GoodIn wsL_law wsX10_open := goodIn_r _ [235, 236, 237, 238, 108, 195, 196, 197, 2, 198, 149, 15, 109, 110, 111, 152, 153, 154, 155, 121, 239, 240, 241, 242, 243, 31, 832, 833, 834, 835, 836, 837, 838, 839, 840, 752, 753, 754, 755, 756, 757, 758, 759, 760, 761, 762, 763, 764, 765, 766, 767, 768, 769, 770] (by decide +kernel) (by decide +kernel)
set_option maxRecDepth 20000 in
theorem gL_law_X10_open : GoodIn wsL_law (wsV RL 37 RX10 yX10_open wsX10_open) := goodIn_app (goodIn_of _ (by decide +kernel)) ggL_law_X10_open
set_option maxRecDepth 20000 in
theorem ggL_law_X11_open : GoodIn wsL_law wsX11_open := goodIn_r _ [247, 68, 67, 74, 116, 220, 221, 222, 5, 223, 181, 141, 142, 143, 182, 183, 184, 185, 130, 248, 249, 250, 251, 252, 64, 771, 772, 773, 774, 775, 776, 777, 778, 779, 780, 781, 782, 783, 784, 785, 786, 787, 788, 789, 790, 791, 792, 793, 794, 795, 796, 797, 798, 799, 800, 801, 802, 803, 804, 805, 806, 807, 808, 809, 810, 811, 812, 813, 814, 815, 816, 817, 818, 819] (by decide +kernel) (by decide +kernel)
set_option maxRecDepth 20000 in
theorem gL_law_X11_open : GoodIn wsL_law (wsV RL 40 RX11 yX11_open wsX11_open) := goodIn_app (goodIn_of _ (by decide +kernel)) ggL_law_X11_open
set_option maxRecDepth 20000 in
theorem ggL_law_X10_told : GoodIn wsL_law wsX10_told := goodIn_r _ [256, 237, 236, 257, 258, 195, 196, 197, 2, 198, 149, 15, 109, 110, 111, 259, 204, 205, 151, 206, 165, 207, 832, 833, 834, 835, 836, 837, 838, 839, 840, 752, 753, 754, 755, 756, 757, 758, 759, 760, 761, 762, 763, 764, 765, 766, 767, 768, 769, 770, 841, 842, 843] (by decide +kernel) (by decide +kernel)
set_option maxRecDepth 20000 in
theorem gL_law_X10_told : GoodIn wsL_law (wsV RL 41 RX10 yX10_told wsX10_told) := goodIn_app (goodIn_of _ (by decide +kernel)) ggL_law_X10_told
set_option maxRecDepth 20000 in
theorem ggL_law_X11_told : GoodIn wsL_law wsX11_told := goodIn_r _ [263, 220, 221, 222, 5, 223, 181, 141, 142, 143, 264, 265, 266, 267, 67, 68, 69, 70, 228, 229, 230, 231, 219, 75, 76, 78, 77, 771, 772, 773, 774, 775, 776, 777, 778, 779, 780, 781, 782, 783, 784, 785, 786, 787, 788, 789, 790, 791, 792, 793, 794, 795, 796, 797, 798, 799, 800, 801, 802, 803, 804, 805, 806, 807, 808, 809, 810, 811, 812, 813, 814, 815, 816, 817, 818, 819] (by decide +kernel) (by decide +kernel)
set_option maxRecDepth 20000 in
theorem gL_law_X11_told : GoodIn wsL_law (wsV RL 45 RX11 yX11_told wsX11_told) := goodIn_app (goodIn_of _ (by decide +kernel)) ggL_law_X11_told
set_option maxRecDepth 20000 in
theorem ggL_law_X10_mark : GoodIn wsL_law wsX10_mark := goodIn_r _ [271, 257, 237, 238, 272, 195, 196, 197, 2, 198, 149, 15, 109, 110, 111, 273, 274, 275, 276, 277, 278, 279, 239, 240, 241, 242, 243, 31, 832, 833, 834, 835, 836, 837, 838, 839, 840, 752, 753, 754, 755, 756, 757, 758, 759, 760, 761, 762, 763, 764, 765, 766, 767, 768, 769, 770] (by decide +kernel) (by decide +kernel)
set_option maxRecDepth 20000 in
theorem gL_law_X10_mark : GoodIn wsL_law (wsV RL 46 RX10 yX10_mark wsX10_mark) := goodIn_app (goodIn_of _ (by decide +kernel)) ggL_law_X10_mark
set_option maxRecDepth 20000 in
theorem ggL_law_X11_mark : GoodIn wsL_law wsX11_mark := goodIn_r _ [283, 69, 67, 74, 71, 220, 221, 222, 5, 223, 181, 141, 142, 143, 284, 285, 286, 248, 249, 250, 251, 252, 64, 771, 772, 773, 774, 775, 776, 777, 778, 779, 780, 781, 782, 783, 784, 785, 786, 787, 788, 789, 790, 791, 792, 793, 794, 795, 796, 797, 798, 799, 800, 801, 802, 803, 804, 805, 806, 807, 808, 809, 810, 811, 812, 813, 814, 815, 816, 817, 818, 819] (by decide +kernel) (by decide +kernel)
set_option maxRecDepth 20000 in
theorem gL_law_X11_mark : GoodIn wsL_law (wsV RL 49 RX11 yX11_mark wsX11_mark) := goodIn_app (goodIn_of _ (by decide +kernel)) ggL_law_X11_mark
set_option maxRecDepth 20000 in
theorem ggL_law_X10_known : GoodIn wsL_law wsX10_known := goodIn_r _ [290, 195, 196, 197, 2, 198, 149, 15, 109, 110, 111, 291, 292, 293, 294, 295, 296, 151, 297, 165, 298, 299, 207, 752, 753, 754, 755, 756, 757, 758, 759, 760, 761, 762, 763, 764, 765, 766, 767, 768, 769, 770, 832, 833, 834, 835, 836, 837, 838, 839, 840, 841, 842, 843] (by decide +kernel) (by decide +kernel)
set_option maxRecDepth 20000 in
theorem gL_law_X10_known : GoodIn wsL_law (wsV RL 50 RX10 yX10_known wsX10_known) := goodIn_app (goodIn_of _ (by decide +kernel)) ggL_law_X10_known
set_option maxRecDepth 20000 in
theorem ggL_law_X11_known : GoodIn wsL_law wsX11_known := goodIn_r _ [303, 220, 221, 222, 5, 223, 181, 141, 142, 143, 304, 305, 306, 228, 229, 230, 231, 219, 75, 76, 78, 77, 771, 772, 773, 774, 775, 776, 777, 778, 779, 780, 781, 782, 783, 784, 785, 786, 787, 788, 789, 790, 791, 792, 793, 794, 795, 796, 797, 798, 799, 800, 801, 802, 803, 804, 805, 806, 807, 808, 809, 810, 811, 812, 813, 814, 815, 816, 817, 818, 819] (by decide +kernel) (by decide +kernel)
set_option maxRecDepth 20000 in
theorem gL_law_X11_known : GoodIn wsL_law (wsV RL 53 RX11 yX11_known wsX11_known) := goodIn_app (goodIn_of _ (by decide +kernel)) ggL_law_X11_known
set_option maxRecDepth 20000 in
theorem ggL_law_X10_statute : GoodIn wsL_law wsX10_statute := goodIn_r _ [310, 311, 17, 16, 312, 313, 291, 292, 2, 293, 109, 110, 111, 314, 315, 316, 317, 318, 319, 320, 321, 322, 323, 10, 11, 324, 752, 753, 754, 755, 756, 757, 758, 759, 760, 761, 762, 763, 764, 765, 766, 767, 768, 769, 770, 844, 845, 846, 847, 848, 849, 850, 851, 852] (by decide +kernel) (by decide +kernel)
set_option maxRecDepth 20000 in
theorem gL_law_X10_statute : GoodIn wsL_law (wsV RL 54 RX10 yX10_statute wsX10_statute) := goodIn_app (goodIn_of _ (by decide +kernel)) ggL_law_X10_statute
set_option maxRecDepth 20000 in
theorem ggL_law_X11_statute : GoodIn wsL_law wsX11_statute := goodIn_r _ [328, 329, 79, 80, 82, 304, 305, 5, 306, 141, 142, 143, 771, 772, 773, 774, 775, 776, 777, 778, 779, 780, 781, 782, 783, 784, 785, 786, 787, 788, 789, 790, 791, 792, 793, 794, 795, 796, 797, 798, 799, 800, 801, 802, 803, 804, 805, 806, 807, 808, 809, 810, 811, 812, 813, 814, 815, 816, 817, 818, 819] (by decide +kernel) (by decide +kernel)
set_option maxRecDepth 20000 in
theorem gL_law_X11_statute : GoodIn wsL_law (wsV RL 58 RX11 yX11_statute wsX11_statute) := goodIn_app (goodIn_of _ (by decide +kernel)) ggL_law_X11_statute
set_option maxRecDepth 20000 in
theorem ggL_law_X10_force : GoodIn wsL_law wsX10_force := goodIn_r _ [333, 17, 311, 291, 292, 2, 293, 109, 110, 111, 334, 335, 336, 337, 752, 753, 754, 755, 756, 757, 758, 759, 760, 761, 762, 763, 764, 765, 766, 767, 768, 769, 770, 847, 848, 849, 850, 851, 852, 844, 845, 846] (by decide +kernel) (by decide +kernel)
set_option maxRecDepth 20000 in
theorem gL_law_X10_force : GoodIn wsL_law (wsV RL 59 RX10 yX10_force wsX10_force) := goodIn_app (goodIn_of _ (by decide +kernel)) ggL_law_X10_force
set_option maxRecDepth 20000 in
theorem ggL_law_X11_force : GoodIn wsL_law wsX11_force := goodIn_r _ [341, 79, 329, 304, 305, 5, 306, 141, 142, 143, 342, 343, 344, 771, 772, 773, 774, 775, 776, 777, 778, 779, 780, 781, 782, 783, 784, 785, 786, 787, 788, 789, 790, 791, 792, 793, 794, 795, 796, 797, 798, 799, 800, 801, 802, 803, 804, 805, 806, 807, 808, 809, 810, 811, 812, 813, 814, 815, 816, 817, 818, 819] (by decide +kernel) (by decide +kernel)
set_option maxRecDepth 20000 in
theorem gL_law_X11_force : GoodIn wsL_law (wsV RL 62 RX11 yX11_force wsX11_force) := goodIn_app (goodIn_of _ (by decide +kernel)) ggL_law_X11_force
set_option maxRecDepth 20000 in
theorem ggL_law_X10_when : GoodIn wsL_law wsX10_when := goodIn_r _ [348, 311, 17, 195, 196, 197, 2, 198, 149, 15, 109, 110, 111, 291, 292, 293, 349, 350, 351, 151, 352, 353, 163, 169, 354, 166, 162, 161, 355, 295, 296, 297, 165, 298, 299, 207, 752, 753, 754, 755, 756, 757, 758, 759, 760, 761, 762, 763, 764, 765, 766, 767, 768, 769, 770, 844, 845, 846, 832, 833, 834, 835, 836, 837, 838, 839, 840, 841, 842, 843] (by decide +kernel) (by decide +kernel)
set_option maxRecDepth 20000 in
theorem gL_law_X10_when : GoodIn wsL_law (wsV RL 63 RX10 yX10_when wsX10_when) := goodIn_app (goodIn_of _ (by decide +kernel)) ggL_law_X10_when
set_option maxRecDepth 20000 in
theorem ggL_law_X11_when : GoodIn wsL_law wsX11_when := goodIn_r _ [359, 329, 220, 221, 222, 5, 223, 181, 141, 142, 143, 304, 305, 306, 360, 361, 362, 363, 82, 67, 74, 70, 80, 73, 72, 228, 229, 230, 231, 219, 75, 76, 78, 77, 771, 772, 773, 774, 775, 776, 777, 778, 779, 780, 781, 782, 783, 784, 785, 786, 787, 788, 789, 790, 791, 792, 793, 794, 795, 796, 797, 798, 799, 800, 801, 802, 803, 804, 805, 806, 807, 808, 809, 810, 811, 812, 813, 814, 815, 816, 817, 818, 819] (by decide +kernel) (by decide +kernel)
set_option maxRecDepth 20000 in
theorem gL_law_X11_when : GoodIn wsL_law (wsV RL 67 RX11 yX11_when wsX11_when) := goodIn_app (goodIn_of _ (by decide +kernel)) ggL_law_X11_when
set_option maxRecDepth 20000 in
theorem ggL_law_X10_first : GoodIn wsL_law wsX10_first := goodIn_r _ [367, 17, 311, 368, 109, 110, 2, 111, 291, 292, 293, 334, 335, 336, 337, 369, 370, 371, 372, 149, 15, 373, 374, 375, 376, 377, 378, 379, 380, 381, 382, 383, 151, 384, 168, 385, 350, 351, 352, 353, 163, 169, 354, 166, 162, 161, 355, 295, 296, 297, 165, 298, 299, 207, 273, 274, 275, 276, 277, 278, 279, 752, 753, 754, 755, 756, 757, 758, 759, 760, 761, 762, 763, 764, 765, 766, 767, 768, 769, 770, 847, 848, 849, 850, 851, 852, 844, 845, 846, 832, 833, 834, 835, 836, 837, 838, 839, 840, 841, 842, 843] (by decide +kernel) (by decide +kernel)
set_option maxRecDepth 20000 in
theorem gL_law_X10_first : GoodIn wsL_law (wsV RL 68 RX10 yX10_first wsX10_first) := goodIn_app (goodIn_of _ (by decide +kernel)) ggL_law_X10_first
set_option maxRecDepth 20000 in
theorem ggL_law_X11_first : GoodIn wsL_law wsX11_first := goodIn_r _ [389, 79, 329, 181, 69, 390, 141, 142, 5, 143, 304, 305, 306, 342, 343, 344, 391, 392, 393, 360, 361, 362, 363, 82, 67, 74, 70, 80, 73, 72, 228, 229, 230, 231, 219, 75, 76, 78, 77, 284, 285, 286, 771, 772, 773, 774, 775, 776, 777, 778, 779, 780, 781, 782, 783, 784, 785, 786, 787, 788, 789, 790, 791, 792, 793, 794, 795, 796, 797, 798, 799, 800, 801, 802, 803, 804, 805, 806, 807, 808, 809, 810, 811, 812, 813, 814, 815, 816, 817, 818, 819] (by decide +kernel) (by decide +kernel)
set_option maxRecDepth 20000 in
theorem gL_law_X11_first : GoodIn wsL_law (wsV RL 71 RX11 yX11_first wsX11_first) := goodIn_app (goodIn_of _ (by decide +kernel)) ggL_law_X11_first
set_option maxRecDepth 20000 in
theorem ggL_law_X10_mean : GoodIn wsL_law wsX10_mean := goodIn_r _ [397, 149, 15, 259, 204, 205, 151, 206, 165, 207, 239, 240, 241, 2, 242, 243, 31, 752, 753, 754, 755, 756, 757, 758, 759, 760, 761, 762, 763, 764, 765, 766, 767, 768, 769, 770, 832, 833, 834, 835, 836, 837, 838, 839, 840, 841, 842, 843] (by decide +kernel) (by decide +kernel)
set_option maxRecDepth 20000 in
theorem gL_law_X10_mean : GoodIn wsL_law (wsV RL 72 RX10 yX10_mean wsX10_mean) := goodIn_app (goodIn_of _ (by decide +kernel)) ggL_law_X10_mean
set_option maxRecDepth 20000 in
theorem ggL_law_X11_mean : GoodIn wsL_law wsX11_mean := goodIn_r _ [401, 181, 228, 229, 230, 5, 231, 219, 75, 76, 78, 77, 248, 249, 250, 251, 252, 64, 771, 772, 773, 774, 775, 776, 777, 778, 779, 780, 781, 782, 783, 784, 785, 786, 787, 788, 789, 790, 791, 792, 793, 794, 795, 796, 797, 798, 799, 800, 801, 802, 803, 804, 805, 806, 807, 808, 809, 810, 811, 812, 813, 814, 815, 816, 817, 818, 819] (by decide +kernel) (by decide +kernel)
set_option maxRecDepth 20000 in
theorem gL_law_X11_mean : GoodIn wsL_law (wsV RL 75 RX11 yX11_mean wsX11_mean) := goodIn_app (goodIn_of _ (by decide +kernel)) ggL_law_X11_mean
set_option maxRecDepth 20000 in
theorem ggL_law_X10_byelaw : GoodIn wsL_law wsX10_byelaw := goodIn_r _ [405, 406, 19, 18, 407, 408, 291, 292, 2, 293, 109, 110, 111, 409, 410, 411, 412, 413, 414, 415, 416, 417, 320, 321, 322, 323, 10, 11, 324, 752, 753, 754, 755, 756, 757, 758, 759, 760, 761, 762, 763, 764, 765, 766, 767, 768, 769, 770, 847, 848, 849, 850, 851, 852, 844, 845, 846] (by decide +kernel) (by decide +kernel)
set_option maxRecDepth 20000 in
theorem gL_law_X10_byelaw : GoodIn wsL_law (wsV RL 76 RX10 yX10_byelaw wsX10_byelaw) := goodIn_app (goodIn_of _ (by decide +kernel)) ggL_law_X10_byelaw
set_option maxRecDepth 20000 in
theorem ggL_law_X11_byelaw : GoodIn wsL_law wsX11_byelaw := goodIn_r _ [421, 422, 83, 84, 85, 86, 87, 88, 304, 305, 5, 306, 141, 142, 143, 771, 772, 773, 774, 775, 776, 777, 778, 779, 780, 781, 782, 783, 784, 785, 786, 787, 788, 789, 790, 791, 792, 793, 794, 795, 796, 797, 798, 799, 800, 801, 802, 803, 804, 805, 806, 807, 808, 809, 810, 811, 812, 813, 814, 815, 816, 817, 818, 819] (by decide +kernel) (by decide +kernel)
set_option maxRecDepth 20000 in
theorem gL_law_X11_byelaw : GoodIn wsL_law (wsV RL 80 RX11 yX11_byelaw wsX11_byelaw) := goodIn_app (goodIn_of _ (by decide +kernel)) ggL_law_X11_byelaw
set_option maxRecDepth 20000 in
theorem ggL_law_X10_candidate : GoodIn wsL_law wsX10_candidate := goodIn_r _ [426, 121, 427, 21, 20, 428, 429, 108, 109, 110, 2, 111, 430, 431, 432, 433, 10, 11, 434, 435, 752, 753, 754, 755, 756, 757, 758, 759, 760, 761, 762, 763, 764, 765, 766, 767, 768, 769, 770, 853, 854, 855] (by decide +kernel) (by decide +kernel)
set_option maxRecDepth 20000 in
theorem gL_law_X10_candidate : GoodIn wsL_law (wsV RL 81 RX10 yX10_candidate wsX10_candidate) := goodIn_app (goodIn_of _ (by decide +kernel)) ggL_law_X10_candidate
set_option maxRecDepth 20000 in
theorem ggL_law_X11_candidate : GoodIn wsL_law wsX11_candidate := goodIn_r _ [439, 130, 440, 89, 116, 90, 91, 141, 142, 5, 143, 771, 772, 773, 774, 775, 776, 777, 778, 779, 780, 781, 782, 783, 784, 785, 786, 787, 788, 789, 790, 791, 792, 793, 794, 795, 796, 797, 798, 799, 800, 801, 802, 803, 804, 805, 806, 807, 808, 809, 810, 811, 812, 813, 814, 815, 816, 817, 818, 819] (by decide +kernel) (by decide +kernel)
set_option maxRecDepth 20000 in
theorem gL_law_X11_candidate : GoodIn wsL_law (wsV RL 84 RX11 yX11_candidate wsX11_candidate) := goodIn_app (goodIn_of _ (by decide +kernel)) ggL_law_X11_candidate
set_option maxRecDepth 20000 in
theorem ggL_law_X10_propose : GoodIn wsL_law wsX10_propose := goodIn_r _ [444, 445, 446, 447, 448, 449, 2, 450, 427, 21, 109, 110, 111, 152, 153, 154, 155, 121, 239, 240, 241, 242, 243, 31, 273, 274, 275, 276, 277, 278, 279, 853, 854, 855, 752, 753, 754, 755, 756, 757, 758, 759, 760, 761, 762, 763, 764, 765, 766, 767, 768, 769, 770] (by decide +kernel) (by decide +kernel)
set_option maxRecDepth 20000 in
theorem gL_law_X10_propose : GoodIn wsL_law (wsV RL 85 RX10 yX10_propose wsX10_propose) := goodIn_app (goodIn_of _ (by decide +kernel)) ggL_law_X10_propose
set_option maxRecDepth 20000 in
theorem ggL_law_X11_propose : GoodIn wsL_law wsX11_propose := goodIn_r _ [454, 90, 182, 183, 184, 5, 185, 130, 141, 142, 143, 455, 456, 457, 458, 440, 91, 248, 249, 250, 251, 252, 64, 284, 285, 286, 771, 772, 773, 774, 775, 776, 777, 778, 779, 780, 781, 782, 783, 784, 785, 786, 787, 788, 789, 790, 791, 792, 793, 794, 795, 796, 797, 798, 799, 800, 801, 802, 803, 804, 805, 806, 807, 808, 809, 810, 811, 812, 813, 814, 815, 816, 817, 818, 819] (by decide +kernel) (by decide +kernel)
set_option maxRecDepth 20000 in
theorem gL_law_X11_propose : GoodIn wsL_law (wsV RL 88 RX11 yX11_propose wsX11_propose) := goodIn_app (goodIn_of _ (by decide +kernel)) ggL_law_X11_propose
set_option maxRecDepth 20000 in
theorem ggL_law_X10_withdraw : GoodIn wsL_law wsX10_withdraw := goodIn_r _ [462, 445, 447, 448, 449, 2, 450, 427, 21, 109, 110, 111, 239, 240, 241, 242, 243, 31, 853, 854, 855, 752, 753, 754, 755, 756, 757, 758, 759, 760, 761, 762, 763, 764, 765, 766, 767, 768, 769, 770] (by decide +kernel) (by decide +kernel)
set_option maxRecDepth 20000 in
theorem gL_law_X10_withdraw : GoodIn wsL_law (wsV RL 89 RX10 yX10_withdraw wsX10_withdraw) := goodIn_app (goodIn_of _ (by decide +kernel)) ggL_law_X10_withdraw
set_option maxRecDepth 20000 in
theorem ggL_law_X11_withdraw : GoodIn wsL_law wsX11_withdraw := goodIn_r _ [466, 91, 455, 456, 457, 5, 458, 440, 141, 142, 143, 248, 249, 250, 251, 252, 64, 771, 772, 773, 774, 775, 776, 777, 778, 779, 780, 781, 782, 783, 784, 785, 786, 787, 788, 789, 790, 791, 792, 793, 794, 795, 796, 797, 798, 799, 800, 801, 802, 803, 804, 805, 806, 807, 808, 809, 810, 811, 812, 813, 814, 815, 816, 817, 818, 819] (by decide +kernel) (by decide +kernel)
set_option maxRecDepth 20000 in
theorem gL_law_X11_withdraw : GoodIn wsL_law (wsV RL 92 RX11 yX11_withdraw wsX11_withdraw) := goodIn_app (goodIn_of _ (by decide +kernel)) ggL_law_X11_withdraw
set_option maxRecDepth 20000 in
theorem ggL_law_X10_ballot : GoodIn wsL_law wsX10_ballot := goodIn_r _ [470, 19, 406, 108, 121, 445, 368, 447, 448, 449, 2, 450, 427, 21, 109, 110, 111, 334, 335, 336, 337, 239, 240, 241, 242, 243, 31, 471, 472, 473, 408, 474, 475, 412, 476, 413, 414, 416, 415, 477, 274, 275, 276, 277, 278, 279, 122, 123, 124, 125, 752, 753, 754, 755, 756, 757, 758, 759, 760, 761, 762, 763, 764, 765, 766, 767, 768, 769, 770, 853, 854, 855, 847, 848, 849, 850, 851, 852, 844, 845, 846] (by decide +kernel) (by decide +kernel)
set_option maxRecDepth 20000 in
theorem gL_law_X10_ballot : GoodIn wsL_law (wsV RL 93 RX10 yX10_ballot wsX10_ballot) := goodIn_app (goodIn_of _ (by decide +kernel)) ggL_law_X10_ballot
set_option maxRecDepth 20000 in
theorem ggL_law_X11_ballot : GoodIn wsL_law wsX11_ballot := goodIn_r _ [481, 440, 83, 422, 116, 130, 91, 390, 141, 142, 5, 143, 342, 343, 344, 248, 249, 250, 251, 252, 64, 482, 483, 484, 485, 89, 84, 90, 85, 86, 88, 87, 284, 285, 286, 771, 772, 773, 774, 775, 776, 777, 778, 779, 780, 781, 782, 783, 784, 785, 786, 787, 788, 789, 790, 791, 792, 793, 794, 795, 796, 797, 798, 799, 800, 801, 802, 803, 804, 805, 806, 807, 808, 809, 810, 811, 812, 813, 814, 815, 816, 817, 818, 819] (by decide +kernel) (by decide +kernel)
set_option maxRecDepth 20000 in
theorem gL_law_X11_ballot : GoodIn wsL_law (wsV RL 96 RX11 yX11_ballot wsX11_ballot) := goodIn_app (goodIn_of _ (by decide +kernel)) ggL_law_X11_ballot
set_option maxRecDepth 20000 in
theorem ggL_law_X10_medal : GoodIn wsL_law wsX10_medal := goodIn_r _ [489, 23, 490, 491, 109, 110, 2, 111, 291, 292, 293, 752, 753, 754, 755, 756, 757, 758, 759, 760, 761, 762, 763, 764, 765, 766, 767, 768, 769, 770, 825, 826, 827, 828] (by decide +kernel) (by decide +kernel)
set_option maxRecDepth 20000 in
theorem gL_law_X10_medal : GoodIn wsL_law (wsV RL 97 RX10 yX10_medal wsX10_medal) := goodIn_app (goodIn_of _ (by decide +kernel)) ggL_law_X10_medal
set_option maxRecDepth 20000 in
theorem ggL_law_X11_medal : GoodIn wsL_law wsX11_medal := goodIn_r _ [495, 92, 93, 141, 142, 5, 143, 304, 305, 306, 771, 772, 773, 774, 775, 776, 777, 778, 779, 780, 781, 782, 783, 784, 785, 786, 787, 788, 789, 790, 791, 792, 793, 794, 795, 796, 797, 798, 799, 800, 801, 802, 803, 804, 805, 806, 807, 808, 809, 810, 811, 812, 813, 814, 815, 816, 817, 818, 819] (by decide +kernel) (by decide +kernel)
set_option maxRecDepth 20000 in
theorem gL_law_X11_medal : GoodIn wsL_law (wsV RL 100 RX11 yX11_medal wsX11_medal) := goodIn_app (goodIn_of _ (by decide +kernel)) ggL_law_X11_medal
set_option maxRecDepth 20000 in
theorem ggL_law_X10_award : GoodIn wsL_law wsX10_award := goodIn_r _ [499, 500, 23, 108, 491, 501, 502, 109, 110, 2, 111, 152, 153, 154, 155, 121, 503, 504, 505, 35, 506, 52, 53, 507, 508, 509, 510, 511, 149, 15, 236, 259, 204, 205, 151, 206, 165, 207, 752, 753, 754, 755, 756, 757, 758, 759, 760, 761, 762, 763, 764, 765, 766, 767, 768, 769, 770, 825, 826, 827, 828, 832, 833, 834, 835, 836, 837, 838, 839, 840, 841, 842, 843] (by decide +kernel) (by decide +kernel)
set_option maxRecDepth 20000 in
theorem gL_law_X10_award : GoodIn wsL_law (wsV RL 101 RX10 yX10_award wsX10_award) := goodIn_app (goodIn_of _ (by decide +kernel)) ggL_law_X10_award
set_option maxRecDepth 20000 in
theorem ggL_law_X11_award : GoodIn wsL_law wsX11_award := goodIn_r _ [515, 516, 94, 95, 96, 116, 141, 142, 5, 143, 182, 183, 184, 185, 130, 517, 518, 519, 520, 92, 521, 522, 523, 524, 181, 68, 93, 228, 229, 230, 231, 219, 75, 76, 78, 77, 771, 772, 773, 774, 775, 776, 777, 778, 779, 780, 781, 782, 783, 784, 785, 786, 787, 788, 789, 790, 791, 792, 793, 794, 795, 796, 797, 798, 799, 800, 801, 802, 803, 804, 805, 806, 807, 808, 809, 810, 811, 812, 813, 814, 815, 816, 817, 818, 819] (by decide +kernel) (by decide +kernel)
set_option maxRecDepth 20000 in
theorem gL_law_X11_award : GoodIn wsL_law (wsV RL 104 RX11 yX11_award wsX11_award) := goodIn_app (goodIn_of _ (by decide +kernel)) ggL_law_X11_award
set_option maxRecDepth 20000 in
theorem ggL_law_X10_medals : GoodIn wsL_law wsX10_medals := goodIn_r _ [528, 23, 501, 109, 110, 2, 111, 152, 153, 154, 155, 121, 752, 753, 754, 755, 756, 757, 758, 759, 760, 761, 762, 763, 764, 765, 766, 767, 768, 769, 770, 825, 826, 827, 828] (by decide +kernel) (by decide +kernel)
set_option maxRecDepth 20000 in
theorem gL_law_X10_medals : GoodIn wsL_law (wsV RL 105 RX10 yX10_medals wsX10_medals) := goodIn_app (goodIn_of _ (by decide +kernel)) ggL_law_X10_medals
set_option maxRecDepth 20000 in
theorem ggL_law_X11_medals : GoodIn wsL_law wsX11_medals := goodIn_r _ [532, 516, 94, 95, 141, 142, 5, 143, 182, 183, 184, 185, 130, 771, 772, 773, 774, 775, 776, 777, 778, 779, 780, 781, 782, 783, 784, 785, 786, 787, 788, 789, 790, 791, 792, 793, 794, 795, 796, 797, 798, 799, 800, 801, 802, 803, 804, 805, 806, 807, 808, 809, 810, 811, 812, 813, 814, 815, 816, 817, 818, 819] (by decide +kernel) (by decide +kernel)
set_option maxRecDepth 20000 in
theorem gL_law_X11_medals : GoodIn wsL_law (wsV RL 108 RX11 yX11_medals wsX11_medals) := goodIn_app (goodIn_of _ (by decide +kernel)) ggL_law_X11_medals
set_option maxRecDepth 20000 in
theorem ggL_law_X10_stock : GoodIn wsL_law wsX10_stock := goodIn_r _ [536, 27, 537, 538, 539, 2, 540, 109, 110, 111, 752, 753, 754, 755, 756, 757, 758, 759, 760, 761, 762, 763, 764, 765, 766, 767, 768, 769, 770, 820, 821, 822] (by decide +kernel) (by decide +kernel)
set_option maxRecDepth 20000 in
theorem gL_law_X10_stock : GoodIn wsL_law (wsV RL 109 RX10 yX10_stock wsX10_stock) := goodIn_app (goodIn_of _ (by decide +kernel)) ggL_law_X10_stock
set_option maxRecDepth 20000 in
theorem ggL_law_X11_stock : GoodIn wsL_law wsX11_stock := goodIn_r _ [544, 97, 545, 546, 5, 547, 141, 142, 143, 771, 772, 773, 774, 775, 776, 777, 778, 779, 780, 781, 782, 783, 784, 785, 786, 787, 788, 789, 790, 791, 792, 793, 794, 795, 796, 797, 798, 799, 800, 801, 802, 803, 804, 805, 806, 807, 808, 809, 810, 811, 812, 813, 814, 815, 816, 817, 818, 819] (by decide +kernel) (by decide +kernel)
set_option maxRecDepth 20000 in
theorem gL_law_X11_stock : GoodIn wsL_law (wsV RL 112 RX11 yX11_stock wsX11_stock) := goodIn_app (goodIn_of _ (by decide +kernel)) ggL_law_X11_stock
set_option maxRecDepth 20000 in
theorem ggL_law_X10_copies : GoodIn wsL_law wsX10_copies := goodIn_r _ [551, 27, 537, 538, 539, 2, 540, 109, 110, 111, 752, 753, 754, 755, 756, 757, 758, 759, 760, 761, 762, 763, 764, 765, 766, 767, 768, 769, 770, 820, 821, 822] (by decide +kernel) (by decide +kernel)
set_option maxRecDepth 20000 in
theorem gL_law_X10_copies : GoodIn wsL_law (wsV RL 113 RX10 yX10_copies wsX10_copies) := goodIn_app (goodIn_of _ (by decide +kernel)) ggL_law_X10_copies
set_option maxRecDepth 20000 in
theorem ggL_law_X11_copies : GoodIn wsL_law wsX11_copies := goodIn_r _ [555, 97, 545, 546, 5, 547, 141, 142, 143, 771, 772, 773, 774, 775, 776, 777, 778, 779, 780, 781, 782, 783, 784, 785, 786, 787, 788, 789, 790, 791, 792, 793, 794, 795, 796, 797, 798, 799, 800, 801, 802, 803, 804, 805, 806, 807, 808, 809, 810, 811, 812, 813, 814, 815, 816, 817, 818, 819] (by decide +kernel) (by decide +kernel)
set_option maxRecDepth 20000 in
theorem gL_law_X11_copies : GoodIn wsL_law (wsV RL 116 RX11 yX11_copies wsX11_copies) := goodIn_app (goodIn_of _ (by decide +kernel)) ggL_law_X11_copies
set_option maxRecDepth 20000 in
theorem ggL_law_X10_sheet : GoodIn wsL_law wsX10_sheet := goodIn_r _ [559, 29, 560, 561, 2, 562, 109, 110, 111, 239, 240, 241, 242, 243, 31, 563, 564, 565, 37, 566, 57, 567, 59, 752, 753, 754, 755, 756, 757, 758, 759, 760, 761, 762, 763, 764, 765, 766, 767, 768, 769, 770, 829, 830, 831] (by decide +kernel) (by decide +kernel)
set_option maxRecDepth 20000 in
theorem gL_law_X10_sheet : GoodIn wsL_law (wsV RL 117 RX10 yX10_sheet wsX10_sheet) := goodIn_app (goodIn_of _ (by decide +kernel)) ggL_law_X10_sheet
set_option maxRecDepth 20000 in
theorem ggL_law_X11_sheet : GoodIn wsL_law wsX11_sheet := goodIn_r _ [571, 98, 99, 572, 573, 5, 574, 141, 142, 143, 248, 249, 250, 251, 252, 64, 771, 772, 773, 774, 775, 776, 777, 778, 779, 780, 781, 782, 783, 784, 785, 786, 787, 788, 789, 790, 791, 792, 793, 794, 795, 796, 797, 798, 799, 800, 801, 802, 803, 804, 805, 806, 807, 808, 809, 810, 811, 812, 813, 814, 815, 816, 817, 818, 819] (by decide +kernel) (by decide +kernel)
set_option maxRecDepth 20000 in
theorem gL_law_X11_sheet : GoodIn wsL_law (wsV RL 120 RX11 yX11_sheet wsX11_sheet) := goodIn_app (goodIn_of _ (by decide +kernel)) ggL_law_X11_sheet
set_option maxRecDepth 20000 in
theorem ggL_law_X10_lay : GoodIn wsL_law wsX10_lay := goodIn_r _ [578, 29, 579, 580, 581, 560, 561, 2, 562, 109, 110, 111, 239, 240, 241, 242, 243, 31, 752, 753, 754, 755, 756, 757, 758, 759, 760, 761, 762, 763, 764, 765, 766, 767, 768, 769, 770, 829, 830, 831] (by decide +kernel) (by decide +kernel)
set_option maxRecDepth 20000 in
theorem gL_law_X10_lay : GoodIn wsL_law (wsV RL 121 RX10 yX10_lay wsX10_lay) := goodIn_app (goodIn_of _ (by decide +kernel)) ggL_law_X10_lay
set_option maxRecDepth 20000 in
theorem ggL_law_X11_lay : GoodIn wsL_law wsX11_lay := goodIn_r _ [585, 98, 99, 572, 573, 5, 574, 141, 142, 143, 248, 249, 250, 251, 252, 64, 771, 772, 773, 774, 775, 776, 777, 778, 779, 780, 781, 782, 783, 784, 785, 786, 787, 788, 789, 790, 791, 792, 793, 794, 795, 796, 797, 798, 799, 800, 801, 802, 803, 804, 805, 806, 807, 808, 809, 810, 811, 812, 813, 814, 815, 816, 817, 818, 819] (by decide +kernel) (by decide +kernel)
set_option maxRecDepth 20000 in
theorem gL_law_X11_lay : GoodIn wsL_law (wsV RL 124 RX11 yX11_lay wsX11_lay) := goodIn_app (goodIn_of _ (by decide +kernel)) ggL_law_X11_lay
set_option maxRecDepth 20000 in
theorem ggL_law_X10_tear : GoodIn wsL_law wsX10_tear := goodIn_r _ [589, 29, 579, 560, 561, 2, 562, 109, 110, 111, 239, 240, 241, 242, 243, 31, 752, 753, 754, 755, 756, 757, 758, 759, 760, 761, 762, 763, 764, 765, 766, 767, 768, 769, 770, 829, 830, 831] (by decide +kernel) (by decide +kernel)
set_option maxRecDepth 20000 in
theorem gL_law_X10_tear : GoodIn wsL_law (wsV RL 125 RX10 yX10_tear wsX10_tear) := goodIn_app (goodIn_of _ (by decide +kernel)) ggL_law_X10_tear
set_option maxRecDepth 20000 in
theorem ggL_law_X11_tear : GoodIn wsL_law wsX11_tear := goodIn_r _ [593, 98, 572, 573, 5, 574, 141, 142, 143, 248, 249, 250, 251, 252, 64, 771, 772, 773, 774, 775, 776, 777, 778, 779, 780, 781, 782, 783, 784, 785, 786, 787, 788, 789, 790, 791, 792, 793, 794, 795, 796, 797, 798, 799, 800, 801, 802, 803, 804, 805, 806, 807, 808, 809, 810, 811, 812, 813, 814, 815, 816, 817, 818, 819] (by decide +kernel) (by decide +kernel)
set_option maxRecDepth 20000 in
theorem gL_law_X11_tear : GoodIn wsL_law (wsV RL 128 RX11 yX11_tear wsX11_tear) := goodIn_app (goodIn_of _ (by decide +kernel)) ggL_law_X11_tear
set_option maxRecDepth 20000 in
theorem ggL_law_X10_copy : GoodIn wsL_law wsX10_copy := goodIn_r _ [597, 29, 579, 581, 598, 599, 600, 601, 560, 561, 2, 562, 109, 110, 111, 239, 240, 241, 242, 243, 31, 602, 603, 604, 37, 605, 567, 752, 753, 754, 755, 756, 757, 758, 759, 760, 761, 762, 763, 764, 765, 766, 767, 768, 769, 770, 829, 830, 831] (by decide +kernel) (by decide +kernel)
set_option maxRecDepth 20000 in
theorem gL_law_X10_copy : GoodIn wsL_law (wsV RL 129 RX10 yX10_copy wsX10_copy) := goodIn_app (goodIn_of _ (by decide +kernel)) ggL_law_X10_copy
set_option maxRecDepth 20000 in
theorem ggL_law_X11_copy : GoodIn wsL_law wsX11_copy := goodIn_r _ [609, 98, 100, 99, 572, 573, 5, 574, 141, 142, 143, 248, 249, 250, 251, 252, 64, 771, 772, 773, 774, 775, 776, 777, 778, 779, 780, 781, 782, 783, 784, 785, 786, 787, 788, 789, 790, 791, 792, 793, 794, 795, 796, 797, 798, 799, 800, 801, 802, 803, 804, 805, 806, 807, 808, 809, 810, 811, 812, 813, 814, 815, 816, 817, 818, 819] (by decide +kernel) (by decide +kernel)
set_option maxRecDepth 20000 in
theorem gL_law_X11_copy : GoodIn wsL_law (wsV RL 132 RX11 yX11_copy wsX11_copy) := goodIn_app (goodIn_of _ (by decide +kernel)) ggL_law_X11_copy
set_option maxRecDepth 20000 in
theorem ggL_law_X10_fill : GoodIn wsL_law wsX10_fill := goodIn_r _ [613, 29, 579, 27, 109, 110, 2, 111, 560, 561, 562, 239, 240, 241, 242, 243, 31, 614, 615, 616, 26, 617, 618, 42, 619, 620, 378, 379, 380, 621, 622, 623, 752, 753, 754, 755, 756, 757, 758, 759, 760, 761, 762, 763, 764, 765, 766, 767, 768, 769, 770, 829, 830, 831, 820, 821, 822] (by decide +kernel) (by decide +kernel)
set_option maxRecDepth 20000 in
theorem gL_law_X10_fill : GoodIn wsL_law (wsV RL 133 RX10 yX10_fill wsX10_fill) := goodIn_app (goodIn_of _ (by decide +kernel)) ggL_law_X10_fill
set_option maxRecDepth 20000 in
theorem ggL_law_X11_fill : GoodIn wsL_law wsX11_fill := goodIn_r _ [627, 98, 99, 97, 141, 142, 5, 143, 572, 573, 574, 248, 249, 250, 251, 252, 64, 771, 772, 773, 774, 775, 776, 777, 778, 779, 780, 781, 782, 783, 784, 785, 786, 787, 788, 789, 790, 791, 792, 793, 794, 795, 796, 797, 798, 799, 800, 801, 802, 803, 804, 805, 806, 807, 808, 809, 810, 811, 812, 813, 814, 815, 816, 817, 818, 819] (by decide +kernel) (by decide +kernel)
set_option maxRecDepth 20000 in
theorem gL_law_X11_fill : GoodIn wsL_law (wsV RL 136 RX11 yX11_fill wsX11_fill) := goodIn_app (goodIn_of _ (by decide +kernel)) ggL_law_X11_fill
set_option maxRecDepth 20000 in
theorem ggL_law_X10_lacks : GoodIn wsL_law wsX10_lacks := goodIn_r _ [631, 27, 632, 633, 634, 26, 635, 42, 752, 753, 754, 755, 756, 757, 758, 759, 760, 761, 762, 763, 764, 765, 766, 767, 768, 769, 770, 820, 821, 822] (by decide +kernel) (by decide +kernel)
set_option maxRecDepth 20000 in
theorem gL_law_X10_lacks : GoodIn wsL_law (wsV RL 137 RX10 yX10_lacks wsX10_lacks) := goodIn_app (goodIn_of _ (by decide +kernel)) ggL_law_X10_lacks
set_option maxRecDepth 20000 in
theorem ggL_law_X11_lacks : GoodIn wsL_law wsX11_lacks := goodIn_r _ [639, 640, 641, 642, 5, 643, 97, 771, 772, 773, 774, 775, 776, 777, 778, 779, 780, 781, 782, 783, 784, 785, 786, 787, 788, 789, 790, 791, 792, 793, 794, 795, 796, 797, 798, 799, 800, 801, 802, 803, 804, 805, 806, 807, 808, 809, 810, 811, 812, 813, 814, 815, 816, 817, 818, 819] (by decide +kernel) (by decide +kernel)
set_option maxRecDepth 20000 in
theorem gL_law_X11_lacks : GoodIn wsL_law (wsV RL 140 RX11 yX11_lacks wsX11_lacks) := goodIn_app (goodIn_of _ (by decide +kernel)) ggL_law_X11_lacks
set_option maxRecDepth 20000 in
theorem ggL_law_X10_swaps : GoodIn wsL_law wsX10_swaps := goodIn_r _ [647, 27, 648, 649, 650, 26, 651, 43, 44, 652, 653, 654, 655, 42, 621, 622, 379, 623, 620, 378, 380, 656, 657, 658, 659, 110, 2, 111, 660, 274, 275, 276, 277, 278, 279, 661, 662, 663, 664, 752, 753, 754, 755, 756, 757, 758, 759, 760, 761, 762, 763, 764, 765, 766, 767, 768, 769, 770, 820, 821, 822] (by decide +kernel) (by decide +kernel)
set_option maxRecDepth 20000 in
theorem gL_law_X10_swaps : GoodIn wsL_law (wsV RL 141 RX10 yX10_swaps wsX10_swaps) := goodIn_app (goodIn_of _ (by decide +kernel)) ggL_law_X10_swaps
set_option maxRecDepth 20000 in
theorem ggL_law_X11_swaps : GoodIn wsL_law wsX11_swaps := goodIn_r _ [668, 669, 670, 671, 5, 672, 673, 674, 675, 676, 101, 97, 391, 392, 393, 677, 678, 679, 680, 102, 103, 771, 772, 773, 774, 775, 776, 777, 778, 779, 780, 781, 782, 783, 784, 785, 786, 787, 788, 789, 790, 791, 792, 793, 794, 795, 796, 797, 798, 799, 800, 801, 802, 803, 804, 805, 806, 807, 808, 809, 810, 811, 812, 813, 814, 815, 816, 817, 818, 819] (by decide +kernel) (by decide +kernel)
set_option maxRecDepth 20000 in
theorem gL_law_X11_swaps : GoodIn wsL_law (wsV RL 144 RX11 yX11_swaps wsX11_swaps) := goodIn_app (goodIn_of _ (by decide +kernel)) ggL_law_X11_swaps
set_option maxRecDepth 20000 in
theorem ggL_law_X10_whole : GoodIn wsL_law wsX10_whole := goodIn_r _ [684, 27, 368, 632, 633, 634, 26, 635, 42, 273, 274, 275, 276, 277, 278, 279, 648, 649, 650, 651, 43, 44, 652, 653, 654, 655, 621, 622, 379, 623, 620, 378, 380, 656, 657, 658, 659, 110, 2, 111, 660, 661, 662, 663, 664, 752, 753, 754, 755, 756, 757, 758, 759, 760, 761, 762, 763, 764, 765, 766, 767, 768, 769, 770, 820, 821, 822] (by decide +kernel) (by decide +kernel)
set_option maxRecDepth 20000 in
theorem gL_law_X10_whole : GoodIn wsL_law (wsV RL 145 RX10 yX10_whole wsX10_whole) := goodIn_app (goodIn_of _ (by decide +kernel)) ggL_law_X10_whole
set_option maxRecDepth 20000 in
theorem ggL_law_X11_whole : GoodIn wsL_law wsX11_whole := goodIn_r _ [688, 390, 640, 641, 642, 5, 643, 97, 284, 285, 286, 669, 670, 671, 672, 673, 674, 675, 676, 101, 391, 392, 393, 677, 678, 679, 680, 102, 103, 771, 772, 773, 774, 775, 776, 777, 778, 779, 780, 781, 782, 783, 784, 785, 786, 787, 788, 789, 790, 791, 792, 793, 794, 795, 796, 797, 798, 799, 800, 801, 802, 803, 804, 805, 806, 807, 808, 809, 810, 811, 812, 813, 814, 815, 816, 817, 818, 819] (by decide +kernel) (by decide +kernel)
set_option maxRecDepth 20000 in
theorem gL_law_X11_whole : GoodIn wsL_law (wsV RL 148 RX11 yX11_whole wsX11_whole) := goodIn_app (goodIn_of _ (by decide +kernel)) ggL_law_X11_whole
set_option maxRecDepth 20000 in
theorem ggL_law_X10_asked : GoodIn wsL_law wsX10_asked := goodIn_r _ [692, 368, 752, 753, 754, 755, 756, 757, 758, 759, 760, 761, 762, 763, 764, 765, 766, 767, 768, 769, 770] (by decide +kernel) (by decide +kernel)
set_option maxRecDepth 20000 in
theorem gL_law_X10_asked : GoodIn wsL_law (wsV RL 149 RX10 yX10_asked wsX10_asked) := goodIn_app (goodIn_of _ (by decide +kernel)) ggL_law_X10_asked
set_option maxRecDepth 20000 in
theorem ggL_law_X11_asked : GoodIn wsL_law wsX11_asked := goodIn_r _ [696, 390, 771, 772, 773, 774, 775, 776, 777, 778, 779, 780, 781, 782, 783, 784, 785, 786, 787, 788, 789, 790, 791, 792, 793, 794, 795, 796, 797, 798, 799, 800, 801, 802, 803, 804, 805, 806, 807, 808, 809, 810, 811, 812, 813, 814, 815, 816, 817, 818, 819] (by decide +kernel) (by decide +kernel)
set_option maxRecDepth 20000 in
theorem gL_law_X11_asked : GoodIn wsL_law (wsV RL 152 RX11 yX11_asked wsX11_asked) := goodIn_app (goodIn_of _ (by decide +kernel)) ggL_law_X11_asked
set_option maxRecDepth 20000 in
theorem ggL_law_X10_count : GoodIn wsL_law wsX10_count := goodIn_r _ [700, 108, 121, 149, 190, 311, 406, 427, 500, 752, 753, 754, 755, 756, 757, 758, 759, 760, 761, 762, 763, 764, 765, 766, 767, 768, 769, 770] (by decide +kernel) (by decide +kernel)
set_option maxRecDepth 20000 in
theorem gL_law_X10_count : GoodIn wsL_law (wsV RL 153 RX10 yX10_count wsX10_count) := goodIn_app (goodIn_of _ (by decide +kernel)) ggL_law_X10_count
set_option maxRecDepth 20000 in
theorem ggL_law_X11_count : GoodIn wsL_law wsX11_count := goodIn_r _ [704, 116, 130, 181, 219, 329, 422, 440, 516, 771, 772, 773, 774, 775, 776, 777, 778, 779, 780, 781, 782, 783, 784, 785, 786, 787, 788, 789, 790, 791, 792, 793, 794, 795, 796, 797, 798, 799, 800, 801, 802, 803, 804, 805, 806, 807, 808, 809, 810, 811, 812, 813, 814, 815, 816, 817, 818, 819] (by decide +kernel) (by decide +kernel)
set_option maxRecDepth 20000 in
theorem gL_law_X11_count : GoodIn wsL_law (wsV RL 156 RX11 yX11_count wsX11_count) := goodIn_app (goodIn_of _ (by decide +kernel)) ggL_law_X11_count
set_option maxRecDepth 20000 in
theorem ggL_law_X10_finding : GoodIn wsL_law wsX10_finding := goodIn_r _ [708, 243, 752, 753, 754, 755, 756, 757, 758, 759, 760, 761, 762, 763, 764, 765, 766, 767, 768, 769, 770] (by decide +kernel) (by decide +kernel)
set_option maxRecDepth 20000 in
theorem gL_law_X10_finding : GoodIn wsL_law (wsV RL 157 RX10 yX10_finding wsX10_finding) := goodIn_app (goodIn_of _ (by decide +kernel)) ggL_law_X10_finding
set_option maxRecDepth 20000 in
theorem ggL_law_X11_finding : GoodIn wsL_law wsX11_finding := goodIn_r _ [712, 252, 771, 772, 773, 774, 775, 776, 777, 778, 779, 780, 781, 782, 783, 784, 785, 786, 787, 788, 789, 790, 791, 792, 793, 794, 795, 796, 797, 798, 799, 800, 801, 802, 803, 804, 805, 806, 807, 808, 809, 810, 811, 812, 813, 814, 815, 816, 817, 818, 819] (by decide +kernel) (by decide +kernel)
set_option maxRecDepth 20000 in
theorem gL_law_X11_finding : GoodIn wsL_law (wsV RL 160 RX11 yX11_finding wsX11_finding) := goodIn_app (goodIn_of _ (by decide +kernel)) ggL_law_X11_finding
set_option maxRecDepth 20000 in
theorem ggL_law_X10_findings : GoodIn wsL_law wsX10_findings := goodIn_r _ [716, 31, 109, 110, 2, 111, 752, 753, 754, 755, 756, 757, 758, 759, 760, 761, 762, 763, 764, 765, 766, 767, 768, 769, 770] (by decide +kernel) (by decide +kernel)
set_option maxRecDepth 20000 in
theorem gL_law_X10_findings : GoodIn wsL_law (wsV RL 161 RX10 yX10_findings wsX10_findings) := goodIn_app (goodIn_of _ (by decide +kernel)) ggL_law_X10_findings
set_option maxRecDepth 20000 in
theorem ggL_law_X11_findings : GoodIn wsL_law wsX11_findings := goodIn_r _ [720, 64, 141, 142, 5, 143, 771, 772, 773, 774, 775, 776, 777, 778, 779, 780, 781, 782, 783, 784, 785, 786, 787, 788, 789, 790, 791, 792, 793, 794, 795, 796, 797, 798, 799, 800, 801, 802, 803, 804, 805, 806, 807, 808, 809, 810, 811, 812, 813, 814, 815, 816, 817, 818, 819] (by decide +kernel) (by decide +kernel)
set_option maxRecDepth 20000 in
theorem gL_law_X11_findings : GoodIn wsL_law (wsV RL 164 RX11 yX11_findings wsX11_findings) := goodIn_app (goodIn_of _ (by decide +kernel)) ggL_law_X11_findings
set_option maxRecDepth 20000 in
theorem ggL_law_X10_digest : GoodIn wsL_law wsX10_digest := goodIn_r _ [724, 725, 427, 21, 445, 446, 29, 726, 698, 699, 2, 700, 108, 121, 149, 190, 311, 406, 500, 727, 728, 729, 730, 731, 732, 733, 734, 735, 254, 255, 256, 237, 236, 257, 258, 195, 196, 197, 198, 15, 109, 110, 111, 259, 204, 205, 151, 206, 165, 207, 736, 737, 738, 739, 740, 549, 550, 551, 27, 537, 538, 539, 540, 741, 742, 743, 37, 744, 57, 567, 59, 752, 753, 754, 755, 756, 757, 758, 759, 760, 761, 762, 763, 764, 765, 766, 767, 768, 769, 770, 853, 854, 855, 832, 833, 834, 835, 836, 837, 838, 839, 840, 841, 842, 843, 820, 821, 822, 829, 830, 831] (by decide +kernel) (by decide +kernel)
set_option maxRecDepth 20000 in
theorem gL_law_X10_digest : GoodIn wsL_law (wsV RL 165 RX10 yX10_digest wsX10_digest) := goodIn_app (goodIn_of _ (by decide +kernel)) ggL_law_X10_digest
set_option maxRecDepth 20000 in
theorem ggL_law_X11_digest : GoodIn wsL_law wsX11_digest := goodIn_r _ [748, 749, 750, 181, 440, 91, 90, 97, 98, 99, 751, 702, 703, 5, 704, 116, 130, 219, 329, 422, 516, 264, 265, 266, 267, 67, 68, 69, 70, 228, 229, 230, 231, 75, 76, 78, 77, 771, 772, 773, 774, 775, 776, 777, 778, 779, 780, 781, 782, 783, 784, 785, 786, 787, 788, 789, 790, 791, 792, 793, 794, 795, 796, 797, 798, 799, 800, 801, 802, 803, 804, 805, 806, 807, 808, 809, 810, 811, 812, 813, 814, 815, 816, 817, 818, 819] (by decide +kernel) (by decide +kernel)
set_option maxRecDepth 20000 in
theorem gL_law_X11_digest : GoodIn wsL_law (wsV RL 169 RX11 yX11_digest wsX11_digest) := goodIn_app (goodIn_of _ (by decide +kernel)) ggL_law_X11_digest
