set_option maxRecDepth 20000 in
theorem ggL_law_X8_good : GoodIn wsL_law wsX8_good := goodIn_r _ [682, 105, 654, 650, 651, 652, 5, 653, 648, 107, 655, 65, 66, 67, 656, 649, 120, 493, 494, 495, 321, 322, 323, 324, 481, 482, 483, 484, 423, 424, 425, 426, 427, 428, 429, 430, 299, 300, 301, 302, 274, 275, 276, 277, 431, 432, 433, 434, 657, 658, 659, 660, 849, 850, 851, 852, 853, 854, 855, 856, 857, 858, 859, 860, 861, 862, 863, 864, 865, 866, 867, 868, 869, 870, 871, 872, 873, 874, 875, 876, 877, 878, 879, 880, 881] (by decide +kernel) (by decide +kernel)
set_option maxRecDepth 20000 in
theorem gL_law_X8_good : GoodIn wsL_law (wsV RL 99 RX8 yX8_good wsX8_good) := goodIn_app (goodIn_of _ (by decide +kernel)) ggL_law_X8_good
set_option maxRecDepth 20000 in
theorem ggL_law_X7_far : GoodIn wsL_law wsX7_far := goodIn_r _ [686, 33, 15, 609, 338, 687, 611, 612, 613, 32, 614, 96, 97, 98, 615, 616, 617, 618, 94, 619, 620, 155, 156, 14, 157, 44, 45, 46, 47, 48, 49, 50, 158, 159, 160, 161, 51, 52, 53, 54, 55, 56, 57, 58, 621, 198, 199, 200, 201, 202, 203, 204, 622, 623, 624, 625, 626, 627, 628, 629, 630, 631, 632, 382, 383, 384, 385, 386, 387, 388, 389, 390, 391, 392, 393, 394, 395, 396, 397, 398, 399, 400, 401, 402, 403, 404, 405, 66, 406, 633, 634, 635, 636, 95, 637, 638, 65, 67, 639, 475, 476, 461, 640, 641, 642, 643, 674, 675, 676, 677, 678, 837, 838, 839, 840, 841, 842, 843, 844, 845, 846, 847, 848, 907, 908, 909, 910, 911, 882, 883, 884, 885, 886, 887, 888, 889, 890, 891, 892, 893, 894, 895, 896, 897] (by decide +kernel) (by decide +kernel)
set_option maxRecDepth 20000 in
theorem gL_law_X7_far : GoodIn wsL_law (wsV RL 100 RX7 yX7_far wsX7_far) := goodIn_app (goodIn_of _ (by decide +kernel)) ggL_law_X7_far
set_option maxRecDepth 20000 in
theorem ggL_law_X8_far : GoodIn wsL_law wsX8_far := goodIn_r _ [691, 105, 648, 654, 656, 650, 651, 652, 5, 653, 107, 655, 65, 66, 67, 649, 120, 493, 494, 495, 321, 322, 323, 324, 481, 482, 483, 484, 423, 424, 425, 426, 427, 428, 429, 430, 299, 300, 301, 302, 274, 275, 276, 277, 431, 432, 433, 434, 657, 658, 659, 660, 849, 850, 851, 852, 853, 854, 855, 856, 857, 858, 859, 860, 861, 862, 863, 864, 865, 866, 867, 868, 869, 870, 871, 872, 873, 874, 875, 876, 877, 878, 879, 880, 881] (by decide +kernel) (by decide +kernel)
set_option maxRecDepth 20000 in
theorem gL_law_X8_far : GoodIn wsL_law (wsV RL 103 RX8 yX8_far wsX8_far) := goodIn_app (goodIn_of _ (by decide +kernel)) ggL_law_X8_far
set_option maxRecDepth 20000 in
theorem ggL_law_X7_byLaw : GoodIn wsL_law wsX7_byLaw := goodIn_r _ [695, 33, 15, 339, 217, 2, 218, 128, 129, 130, 131, 35, 674, 675, 676, 32, 677, 94, 678, 638, 65, 66, 67, 615, 616, 617, 618, 619, 620, 155, 156, 14, 157, 44, 45, 46, 47, 48, 49, 50, 158, 159, 160, 161, 51, 52, 53, 54, 55, 56, 57, 58, 621, 198, 199, 200, 201, 202, 203, 204, 639, 475, 383, 476, 385, 392, 461, 382, 384, 386, 387, 388, 389, 390, 391, 393, 394, 395, 396, 397, 398, 399, 400, 401, 402, 403, 404, 405, 406, 640, 641, 642, 643, 630, 631, 837, 838, 839, 840, 841, 842, 843, 844, 845, 846, 847, 848, 907, 908, 909, 910, 911, 882, 883, 884, 885, 886, 887, 888, 889, 890, 891, 892, 893, 894, 895, 896, 897] (by decide +kernel) (by decide +kernel)
set_option maxRecDepth 20000 in
theorem gL_law_X7_byLaw : GoodIn wsL_law (wsV RL 104 RX7 yX7_byLaw wsX7_byLaw) := goodIn_app (goodIn_of _ (by decide +kernel)) ggL_law_X7_byLaw
set_option maxRecDepth 20000 in
theorem ggL_law_X8_byLaw : GoodIn wsL_law wsX8_byLaw := goodIn_r _ [699, 654, 146, 147, 148, 5, 149, 104, 650, 651, 652, 653, 105, 648, 107, 655, 65, 66, 67, 656, 649, 120, 493, 494, 495, 321, 322, 323, 324, 481, 482, 483, 484, 423, 424, 425, 426, 427, 428, 429, 430, 299, 300, 301, 302, 274, 275, 276, 277, 431, 432, 433, 434, 657, 658, 659, 660, 849, 850, 851, 852, 853, 854, 855, 856, 857, 858, 859, 860, 861, 862, 863, 864, 865, 866, 867, 868, 869, 870, 871, 872, 873, 874, 875, 876, 877, 878, 879, 880, 881] (by decide +kernel) (by decide +kernel)
set_option maxRecDepth 20000 in
theorem gL_law_X8_byLaw : GoodIn wsL_law (wsV RL 107 RX8 yX8_byLaw wsX8_byLaw) := goodIn_app (goodIn_of _ (by decide +kernel)) ggL_law_X8_byLaw
set_option maxRecDepth 20000 in
theorem ggL_law_X7_hour : GoodIn wsL_law wsX7_hour := goodIn_r _ [703, 15, 16, 286, 289, 202, 203, 14, 204, 44, 128, 129, 130, 2, 131, 35, 154, 155, 156, 157, 45, 46, 47, 48, 49, 50, 158, 159, 160, 161, 51, 52, 53, 54, 55, 56, 57, 58, 474, 475, 383, 476, 385, 392, 461, 382, 384, 386, 387, 388, 389, 390, 391, 393, 394, 395, 396, 397, 398, 399, 400, 401, 402, 403, 404, 405, 66, 406, 704, 705, 706, 837, 838, 839, 840, 841, 842, 843, 844, 845, 846, 847, 848, 882, 883, 884, 885, 886, 887, 888, 889, 890, 891, 892, 893, 894, 895, 896, 897] (by decide +kernel) (by decide +kernel)
set_option maxRecDepth 20000 in
theorem gL_law_X7_hour : GoodIn wsL_law (wsV RL 108 RX7 yX7_hour wsX7_hour) := goodIn_app (goodIn_of _ (by decide +kernel)) ggL_law_X7_hour
set_option maxRecDepth 20000 in
theorem ggL_law_X8_hour : GoodIn wsL_law wsX8_hour := goodIn_r _ [710, 105, 121, 295, 296, 297, 5, 298, 146, 147, 148, 149, 104, 423, 424, 425, 426, 427, 428, 429, 430, 299, 300, 301, 302, 274, 275, 276, 277, 431, 432, 433, 434, 849, 850, 851, 852, 853, 854, 855, 856, 857, 858, 859, 860, 861, 862, 863, 864, 865, 866, 867, 868, 869, 870, 871, 872, 873, 874, 875, 876, 877, 878, 879, 880, 881] (by decide +kernel) (by decide +kernel)
set_option maxRecDepth 20000 in
theorem gL_law_X8_hour : GoodIn wsL_law (wsV RL 111 RX8 yX8_hour wsX8_hour) := goodIn_app (goodIn_of _ (by decide +kernel)) ggL_law_X8_hour
set_option maxRecDepth 20000 in
theorem ggL_law_X7_mends : GoodIn wsL_law wsX7_mends := goodIn_r _ [714, 15, 516, 16, 128, 129, 130, 2, 131, 35, 154, 155, 156, 14, 157, 44, 45, 46, 47, 48, 49, 50, 158, 159, 160, 161, 51, 52, 53, 54, 55, 56, 57, 58, 715, 716, 717, 457, 458, 383, 459, 392, 460, 461, 382, 384, 385, 386, 387, 388, 202, 203, 204, 389, 390, 391, 393, 394, 395, 396, 397, 398, 399, 400, 401, 402, 403, 404, 405, 66, 406, 329, 228, 229, 230, 231, 232, 233, 234, 205, 206, 207, 208, 201, 837, 838, 839, 840, 841, 842, 843, 844, 845, 846, 847, 848, 882, 883, 884, 885, 886, 887, 888, 889, 890, 891, 892, 893, 894, 895, 896, 897] (by decide +kernel) (by decide +kernel)
set_option maxRecDepth 20000 in
theorem gL_law_X7_mends : GoodIn wsL_law (wsV RL 112 RX7 yX7_mends wsX7_mends) := goodIn_app (goodIn_of _ (by decide +kernel)) ggL_law_X7_mends
set_option maxRecDepth 20000 in
theorem ggL_law_X8_mends : GoodIn wsL_law wsX8_mends := goodIn_r _ [721, 105, 146, 147, 148, 5, 149, 104, 722, 723, 724, 725, 466, 467, 468, 469, 423, 424, 425, 426, 427, 428, 429, 430, 299, 300, 301, 302, 274, 275, 276, 277, 431, 432, 433, 434, 270, 271, 272, 273, 849, 850, 851, 852, 853, 854, 855, 856, 857, 858, 859, 860, 861, 862, 863, 864, 865, 866, 867, 868, 869, 870, 871, 872, 873, 874, 875, 876, 877, 878, 879, 880, 881] (by decide +kernel) (by decide +kernel)
set_option maxRecDepth 20000 in
theorem gL_law_X8_mends : GoodIn wsL_law (wsV RL 115 RX8 yX8_mends wsX8_mends) := goodIn_app (goodIn_of _ (by decide +kernel)) ggL_law_X8_mends
set_option maxRecDepth 20000 in
theorem ggL_law_X7_row : GoodIn wsL_law wsX7_row := goodIn_r _ [729, 21, 127, 128, 129, 130, 2, 131, 35, 132, 133, 134, 19, 135, 69, 68, 136, 137, 138, 139, 140, 837, 838, 839, 840, 841, 842, 843, 844, 845, 846, 847, 848, 898, 899] (by decide +kernel) (by decide +kernel)
set_option maxRecDepth 20000 in
theorem gL_law_X7_row : GoodIn wsL_law (wsV RL 116 RX7 yX7_row wsX7_row) := goodIn_app (goodIn_of _ (by decide +kernel)) ggL_law_X7_row
set_option maxRecDepth 20000 in
theorem ggL_law_X8_row : GoodIn wsL_law wsX8_row := goodIn_r _ [733, 570, 122, 146, 147, 148, 5, 149, 104, 849, 850, 851, 852, 853, 854, 855, 856, 857, 858, 859, 860, 861, 862, 863, 864, 865, 866, 867, 868, 869, 870, 871, 872, 873, 874, 875, 876, 877, 878, 879, 880, 881] (by decide +kernel) (by decide +kernel)
set_option maxRecDepth 20000 in
theorem gL_law_X8_row : GoodIn wsL_law (wsV RL 119 RX8 yX8_row wsX8_row) := goodIn_app (goodIn_of _ (by decide +kernel)) ggL_law_X8_row
set_option maxRecDepth 20000 in
theorem ggL_law_X7_fitting : GoodIn wsL_law wsX7_fitting := goodIn_r _ [737, 21, 127, 15, 516, 29, 738, 586, 128, 129, 130, 2, 131, 35, 739, 740, 741, 28, 742, 87, 523, 524, 525, 526, 83, 527, 155, 156, 14, 157, 44, 45, 46, 47, 48, 49, 50, 158, 159, 160, 161, 51, 52, 53, 54, 55, 56, 57, 58, 528, 529, 530, 531, 205, 206, 207, 208, 201, 202, 203, 204, 743, 744, 745, 746, 552, 747, 382, 383, 384, 385, 386, 387, 388, 389, 390, 391, 392, 393, 394, 395, 396, 397, 398, 399, 400, 401, 402, 403, 404, 405, 66, 406, 748, 172, 173, 19, 174, 69, 68, 541, 542, 543, 544, 545, 84, 546, 547, 548, 549, 550, 551, 553, 554, 555, 556, 837, 838, 839, 840, 841, 842, 843, 844, 845, 846, 847, 848, 898, 899, 882, 883, 884, 885, 886, 887, 888, 889, 890, 891, 892, 893, 894, 895, 896, 897, 902, 903, 904, 905, 906] (by decide +kernel) (by decide +kernel)
set_option maxRecDepth 20000 in
theorem gL_law_X7_fitting : GoodIn wsL_law (wsV RL 120 RX7 yX7_fitting wsX7_fitting) := goodIn_app (goodIn_of _ (by decide +kernel)) ggL_law_X7_fitting
set_option maxRecDepth 20000 in
theorem ggL_law_X8_fitting : GoodIn wsL_law wsX8_fitting := goodIn_r _ [752, 570, 105, 568, 119, 146, 147, 148, 5, 149, 104, 563, 564, 565, 566, 561, 562, 567, 569, 117, 122, 107, 493, 494, 495, 571, 572, 573, 574, 575, 576, 577, 578, 118, 466, 467, 468, 469, 423, 424, 425, 426, 427, 428, 429, 430, 299, 300, 301, 302, 274, 275, 276, 277, 431, 432, 433, 434, 579, 580, 581, 481, 482, 483, 484, 849, 850, 851, 852, 853, 854, 855, 856, 857, 858, 859, 860, 861, 862, 863, 864, 865, 866, 867, 868, 869, 870, 871, 872, 873, 874, 875, 876, 877, 878, 879, 880, 881] (by decide +kernel) (by decide +kernel)
set_option maxRecDepth 20000 in
theorem gL_law_X8_fitting : GoodIn wsL_law (wsV RL 123 RX8 yX8_fitting wsX8_fitting) := goodIn_app (goodIn_of _ (by decide +kernel)) ggL_law_X8_fitting
set_option maxRecDepth 20000 in
theorem ggL_law_X7_forged : GoodIn wsL_law wsX7_forged := goodIn_r _ [756, 21, 127, 15, 516, 29, 128, 129, 130, 2, 131, 35, 757, 758, 759, 28, 760, 83, 552, 523, 524, 525, 526, 527, 155, 156, 14, 157, 44, 45, 46, 47, 48, 49, 50, 158, 159, 160, 161, 51, 52, 53, 54, 55, 56, 57, 58, 528, 529, 530, 531, 205, 206, 207, 208, 201, 202, 203, 204, 743, 744, 745, 746, 747, 382, 383, 384, 385, 386, 387, 388, 389, 390, 391, 392, 393, 394, 395, 396, 397, 398, 399, 400, 401, 402, 403, 404, 405, 66, 406, 748, 172, 173, 19, 174, 69, 68, 533, 534, 535, 536, 537, 538, 539, 547, 548, 549, 550, 545, 551, 553, 554, 555, 556, 837, 838, 839, 840, 841, 842, 843, 844, 845, 846, 847, 848, 898, 899, 882, 883, 884, 885, 886, 887, 888, 889, 890, 891, 892, 893, 894, 895, 896, 897, 902, 903, 904, 905, 906] (by decide +kernel) (by decide +kernel)
set_option maxRecDepth 20000 in
theorem gL_law_X7_forged : GoodIn wsL_law (wsV RL 124 RX7 yX7_forged wsX7_forged) := goodIn_app (goodIn_of _ (by decide +kernel)) ggL_law_X7_forged
set_option maxRecDepth 20000 in
theorem ggL_law_X8_forged : GoodIn wsL_law wsX8_forged := goodIn_r _ [764, 570, 105, 569, 146, 147, 148, 5, 149, 104, 563, 564, 565, 566, 561, 562, 567, 568, 117, 122, 107, 493, 494, 495, 571, 572, 573, 574, 575, 576, 577, 578, 118, 119, 466, 467, 468, 469, 423, 424, 425, 426, 427, 428, 429, 430, 299, 300, 301, 302, 274, 275, 276, 277, 431, 432, 433, 434, 579, 580, 581, 481, 482, 483, 484, 849, 850, 851, 852, 853, 854, 855, 856, 857, 858, 859, 860, 861, 862, 863, 864, 865, 866, 867, 868, 869, 870, 871, 872, 873, 874, 875, 876, 877, 878, 879, 880, 881] (by decide +kernel) (by decide +kernel)
set_option maxRecDepth 20000 in
theorem gL_law_X8_forged : GoodIn wsL_law (wsV RL 127 RX8 yX8_forged wsX8_forged) := goodIn_app (goodIn_of _ (by decide +kernel)) ggL_law_X8_forged
set_option maxRecDepth 20000 in
theorem ggL_law_X7_judge : GoodIn wsL_law wsX7_judge := goodIn_r _ [768, 21, 769, 770, 771, 2, 772, 127, 15, 516, 773, 405, 66, 406, 774, 448, 382, 383, 384, 385, 386, 387, 388, 202, 203, 14, 204, 44, 389, 390, 391, 392, 393, 394, 395, 396, 397, 398, 399, 400, 401, 402, 403, 404, 235, 236, 237, 19, 238, 69, 837, 838, 839, 840, 841, 842, 843, 844, 845, 846, 847, 848, 898, 899, 882, 883, 884, 885, 886, 887, 888, 889, 890, 891, 892, 893, 894, 895, 896, 897] (by decide +kernel) (by decide +kernel)
set_option maxRecDepth 20000 in
theorem gL_law_X7_judge : GoodIn wsL_law (wsV RL 128 RX7 yX7_judge wsX7_judge) := goodIn_app (goodIn_of _ (by decide +kernel)) ggL_law_X7_judge
set_option maxRecDepth 20000 in
theorem ggL_law_X8_judge : GoodIn wsL_law wsX8_judge := goodIn_r _ [778, 570, 105, 122, 423, 424, 425, 5, 426, 427, 428, 429, 430, 299, 300, 301, 302, 274, 275, 276, 277, 431, 432, 433, 434, 849, 850, 851, 852, 853, 854, 855, 856, 857, 858, 859, 860, 861, 862, 863, 864, 865, 866, 867, 868, 869, 870, 871, 872, 873, 874, 875, 876, 877, 878, 879, 880, 881] (by decide +kernel) (by decide +kernel)
set_option maxRecDepth 20000 in
theorem gL_law_X8_judge : GoodIn wsL_law (wsV RL 131 RX8 yX8_judge wsX8_judge) := goodIn_app (goodIn_of _ (by decide +kernel)) ggL_law_X8_judge
set_option maxRecDepth 20000 in
theorem ggL_law_X7_seeds : GoodIn wsL_law wsX7_seeds := goodIn_r _ [782, 15, 516, 16, 128, 129, 130, 2, 131, 35, 154, 155, 156, 14, 157, 44, 45, 46, 47, 48, 49, 50, 158, 159, 160, 161, 51, 52, 53, 54, 55, 56, 57, 58, 783, 784, 785, 786, 787, 788, 789, 790, 791, 329, 228, 229, 230, 231, 232, 233, 234, 205, 206, 207, 208, 201, 202, 203, 204, 358, 359, 360, 361, 362, 363, 364, 365, 366, 367, 368, 369, 370, 371, 372, 373, 374, 375, 376, 377, 378, 379, 380, 198, 199, 200, 381, 382, 383, 384, 385, 386, 387, 388, 389, 390, 391, 392, 393, 394, 395, 396, 397, 398, 399, 400, 401, 402, 403, 404, 405, 66, 406, 457, 458, 459, 460, 461, 792, 534, 535, 536, 537, 538, 539, 837, 838, 839, 840, 841, 842, 843, 844, 845, 846, 847, 848, 882, 883, 884, 885, 886, 887, 888, 889, 890, 891, 892, 893, 894, 895, 896, 897] (by decide +kernel) (by decide +kernel)
set_option maxRecDepth 20000 in
theorem gL_law_X7_seeds : GoodIn wsL_law (wsV RL 132 RX7 yX7_seeds wsX7_seeds) := goodIn_app (goodIn_of _ (by decide +kernel)) ggL_law_X7_seeds
set_option maxRecDepth 20000 in
theorem ggL_law_X8_seeds : GoodIn wsL_law wsX8_seeds := goodIn_r _ [796, 105, 108, 797, 146, 147, 148, 5, 149, 104, 493, 494, 495, 798, 799, 800, 801, 802, 803, 804, 270, 271, 272, 273, 274, 275, 276, 277, 411, 412, 413, 414, 114, 415, 416, 417, 418, 299, 300, 301, 302, 419, 420, 421, 422, 321, 322, 323, 324, 423, 424, 425, 426, 427, 428, 429, 430, 431, 432, 433, 434, 466, 467, 468, 469, 579, 580, 581, 849, 850, 851, 852, 853, 854, 855, 856, 857, 858, 859, 860, 861, 862, 863, 864, 865, 866, 867, 868, 869, 870, 871, 872, 873, 874, 875, 876, 877, 878, 879, 880, 881] (by decide +kernel) (by decide +kernel)
set_option maxRecDepth 20000 in
theorem gL_law_X8_seeds : GoodIn wsL_law (wsV RL 135 RX8 yX8_seeds wsX8_seeds) := goodIn_app (goodIn_of _ (by decide +kernel)) ggL_law_X8_seeds
set_option maxRecDepth 20000 in
theorem ggL_law_X7_image : GoodIn wsL_law wsX7_image := goodIn_r _ [808, 36, 15, 37, 20, 38, 21, 39, 357, 154, 155, 156, 14, 157, 44, 45, 46, 47, 48, 49, 50, 158, 159, 160, 161, 51, 52, 53, 54, 55, 56, 57, 58, 809, 810, 811, 19, 812, 69, 68, 813, 405, 66, 406, 814, 837, 838, 839, 840, 841, 842, 843, 844, 845, 846, 847, 848, 882, 883, 884, 885, 886, 887, 888, 889, 890, 891, 892, 893, 894, 895, 896, 897, 898, 899] (by decide +kernel) (by decide +kernel)
set_option maxRecDepth 20000 in
theorem gL_law_X7_image : GoodIn wsL_law (wsV RL 136 RX7 yX7_image wsX7_image) := goodIn_app (goodIn_of _ (by decide +kernel)) ggL_law_X7_image
set_option maxRecDepth 20000 in
theorem ggL_law_X8_image : GoodIn wsL_law wsX8_image := goodIn_r _ [818, 819, 105, 106, 493, 494, 5, 495, 849, 850, 851, 852, 853, 854, 855, 856, 857, 858, 859, 860, 861, 862, 863, 864, 865, 866, 867, 868, 869, 870, 871, 872, 873, 874, 875, 876, 877, 878, 879, 880, 881] (by decide +kernel) (by decide +kernel)
set_option maxRecDepth 20000 in
theorem gL_law_X8_image : GoodIn wsL_law (wsV RL 139 RX8 yX8_image wsX8_image) := goodIn_app (goodIn_of _ (by decide +kernel)) ggL_law_X8_image
set_option maxRecDepth 20000 in
theorem ggL_law_X7_on : GoodIn wsL_law wsX7_on := goodIn_r _ [823, 39, 15, 36, 20, 37, 21, 38, 357, 128, 129, 130, 2, 131, 35, 154, 155, 156, 14, 157, 44, 45, 46, 47, 48, 49, 50, 158, 159, 160, 161, 51, 52, 53, 54, 55, 56, 57, 58, 809, 810, 811, 19, 812, 69, 68, 813, 405, 66, 406, 814, 837, 838, 839, 840, 841, 842, 843, 844, 845, 846, 847, 848, 882, 883, 884, 885, 886, 887, 888, 889, 890, 891, 892, 893, 894, 895, 896, 897, 898, 899] (by decide +kernel) (by decide +kernel)
set_option maxRecDepth 20000 in
theorem gL_law_X7_on : GoodIn wsL_law (wsV RL 140 RX7 yX7_on wsX7_on) := goodIn_app (goodIn_of _ (by decide +kernel)) ggL_law_X7_on
set_option maxRecDepth 20000 in
theorem ggL_law_X8_on : GoodIn wsL_law wsX8_on := goodIn_r _ [827, 819, 106, 105, 146, 147, 148, 5, 149, 104, 493, 494, 495, 849, 850, 851, 852, 853, 854, 855, 856, 857, 858, 859, 860, 861, 862, 863, 864, 865, 866, 867, 868, 869, 870, 871, 872, 873, 874, 875, 876, 877, 878, 879, 880, 881] (by decide +kernel) (by decide +kernel)
set_option maxRecDepth 20000 in
theorem gL_law_X8_on : GoodIn wsL_law (wsV RL 143 RX8 yX8_on wsX8_on) := goodIn_app (goodIn_of _ (by decide +kernel)) ggL_law_X8_on
set_option maxRecDepth 20000 in
theorem ggL_law_X7_count : GoodIn wsL_law wsX7_count := goodIn_r _ [831, 15, 516, 315, 357, 338, 348, 832, 21, 127, 20, 35, 837, 838, 839, 840, 841, 842, 843, 844, 845, 846, 847, 848, 882, 883, 884, 885, 886, 887, 888, 889, 890, 891, 892, 893, 894, 895, 896, 897, 898, 899] (by decide +kernel) (by decide +kernel)
set_option maxRecDepth 20000 in
theorem gL_law_X7_count : GoodIn wsL_law (wsV RL 144 RX7 yX7_count wsX7_count) := goodIn_app (goodIn_of _ (by decide +kernel)) ggL_law_X7_count
set_option maxRecDepth 20000 in
theorem ggL_law_X8_count : GoodIn wsL_law wsX8_count := goodIn_r _ [836, 105, 570, 145, 104, 849, 850, 851, 852, 853, 854, 855, 856, 857, 858, 859, 860, 861, 862, 863, 864, 865, 866, 867, 868, 869, 870, 871, 872, 873, 874, 875, 876, 877, 878, 879, 880, 881] (by decide +kernel) (by decide +kernel)
set_option maxRecDepth 20000 in
theorem gL_law_X8_count : GoodIn wsL_law (wsV RL 147 RX8 yX8_count wsX8_count) := goodIn_app (goodIn_of _ (by decide +kernel)) ggL_law_X8_count
