set_option maxRecDepth 20000 in
theorem ggL_law_X7_week : GoodIn wsL_law wsX7_week := goodIn_r _ [356, 15, 357, 128, 129, 130, 2, 131, 35, 358, 359, 360, 361, 362, 363, 364, 365, 366, 367, 368, 369, 370, 371, 372, 373, 374, 375, 202, 203, 14, 204, 44, 376, 377, 378, 379, 380, 198, 199, 200, 54, 55, 45, 201, 381, 382, 383, 384, 385, 386, 387, 388, 389, 390, 391, 392, 393, 394, 395, 396, 397, 398, 399, 400, 401, 402, 403, 404, 405, 66, 406, 837, 838, 839, 840, 841, 842, 843, 844, 845, 846, 847, 848, 882, 883, 884, 885, 886, 887, 888, 889, 890, 891, 892, 893, 894, 895, 896, 897] (by decide +kernel) (by decide +kernel)
set_option maxRecDepth 20000 in
theorem gL_law_X7_week : GoodIn wsL_law (wsV RL 48 RX7 yX7_week wsX7_week) := goodIn_app (goodIn_of _ (by decide +kernel)) ggL_law_X7_week
set_option maxRecDepth 20000 in
theorem ggL_law_X8_week : GoodIn wsL_law wsX8_week := goodIn_r _ [410, 105, 146, 147, 148, 5, 149, 104, 411, 412, 413, 414, 114, 415, 416, 417, 418, 299, 300, 301, 302, 274, 275, 276, 277, 419, 420, 421, 422, 321, 322, 323, 324, 423, 424, 425, 426, 427, 428, 429, 430, 431, 432, 433, 434, 849, 850, 851, 852, 853, 854, 855, 856, 857, 858, 859, 860, 861, 862, 863, 864, 865, 866, 867, 868, 869, 870, 871, 872, 873, 874, 875, 876, 877, 878, 879, 880, 881] (by decide +kernel) (by decide +kernel)
set_option maxRecDepth 20000 in
theorem gL_law_X8_week : GoodIn wsL_law (wsV RL 51 RX8 yX8_week wsX8_week) := goodIn_app (goodIn_of _ (by decide +kernel)) ggL_law_X8_week
set_option maxRecDepth 20000 in
theorem ggL_law_X7_knows : GoodIn wsL_law wsX7_knows := goodIn_r _ [438, 15, 289, 202, 203, 14, 204, 44, 128, 129, 130, 2, 131, 35, 439, 390, 383, 391, 392, 393, 387, 394, 395, 396, 397, 837, 838, 839, 840, 841, 842, 843, 844, 845, 846, 847, 848, 882, 883, 884, 885, 886, 887, 888, 889, 890, 891, 892, 893, 894, 895, 896, 897] (by decide +kernel) (by decide +kernel)
set_option maxRecDepth 20000 in
theorem gL_law_X7_knows : GoodIn wsL_law (wsV RL 52 RX7 yX7_knows wsX7_knows) := goodIn_app (goodIn_of _ (by decide +kernel)) ggL_law_X7_knows
set_option maxRecDepth 20000 in
theorem ggL_law_X8_knows : GoodIn wsL_law wsX8_knows := goodIn_r _ [443, 295, 296, 297, 5, 298, 105, 146, 147, 148, 149, 104, 427, 428, 429, 430, 299, 300, 301, 302, 274, 275, 276, 277, 849, 850, 851, 852, 853, 854, 855, 856, 857, 858, 859, 860, 861, 862, 863, 864, 865, 866, 867, 868, 869, 870, 871, 872, 873, 874, 875, 876, 877, 878, 879, 880, 881] (by decide +kernel) (by decide +kernel)
set_option maxRecDepth 20000 in
theorem gL_law_X8_knows : GoodIn wsL_law (wsV RL 55 RX8 yX8_knows wsX8_knows) := goodIn_app (goodIn_of _ (by decide +kernel)) ggL_law_X8_knows
set_option maxRecDepth 20000 in
theorem ggL_law_X7_mark : GoodIn wsL_law wsX7_mark := goodIn_r _ [447, 15, 289, 202, 203, 14, 204, 44, 128, 129, 130, 2, 131, 35, 448, 382, 383, 384, 385, 386, 387, 388, 389, 390, 391, 392, 393, 394, 395, 396, 397, 398, 399, 400, 401, 402, 403, 404, 405, 66, 406, 837, 838, 839, 840, 841, 842, 843, 844, 845, 846, 847, 848, 882, 883, 884, 885, 886, 887, 888, 889, 890, 891, 892, 893, 894, 895, 896, 897] (by decide +kernel) (by decide +kernel)
set_option maxRecDepth 20000 in
theorem gL_law_X7_mark : GoodIn wsL_law (wsV RL 56 RX7 yX7_mark wsX7_mark) := goodIn_app (goodIn_of _ (by decide +kernel)) ggL_law_X7_mark
set_option maxRecDepth 20000 in
theorem ggL_law_X8_mark : GoodIn wsL_law wsX8_mark := goodIn_r _ [452, 105, 295, 296, 297, 5, 298, 146, 147, 148, 149, 104, 423, 424, 425, 426, 427, 428, 429, 430, 299, 300, 301, 302, 274, 275, 276, 277, 431, 432, 433, 434, 849, 850, 851, 852, 853, 854, 855, 856, 857, 858, 859, 860, 861, 862, 863, 864, 865, 866, 867, 868, 869, 870, 871, 872, 873, 874, 875, 876, 877, 878, 879, 880, 881] (by decide +kernel) (by decide +kernel)
set_option maxRecDepth 20000 in
theorem gL_law_X8_mark : GoodIn wsL_law (wsV RL 59 RX8 yX8_mark wsX8_mark) := goodIn_app (goodIn_of _ (by decide +kernel)) ggL_law_X8_mark
set_option maxRecDepth 20000 in
theorem ggL_law_X7_passed : GoodIn wsL_law wsX7_passed := goodIn_r _ [456, 15, 457, 458, 383, 459, 392, 460, 461, 382, 384, 385, 386, 387, 388, 202, 203, 14, 204, 44, 389, 390, 391, 393, 394, 395, 396, 397, 398, 399, 400, 401, 402, 403, 404, 405, 66, 406, 837, 838, 839, 840, 841, 842, 843, 844, 845, 846, 847, 848, 882, 883, 884, 885, 886, 887, 888, 889, 890, 891, 892, 893, 894, 895, 896, 897] (by decide +kernel) (by decide +kernel)
set_option maxRecDepth 20000 in
theorem gL_law_X7_passed : GoodIn wsL_law (wsV RL 60 RX7 yX7_passed wsX7_passed) := goodIn_app (goodIn_of _ (by decide +kernel)) ggL_law_X7_passed
set_option maxRecDepth 20000 in
theorem ggL_law_X8_passed : GoodIn wsL_law wsX8_passed := goodIn_r _ [465, 466, 467, 468, 5, 469, 105, 423, 424, 425, 426, 427, 428, 429, 430, 299, 300, 301, 302, 274, 275, 276, 277, 431, 432, 433, 434, 849, 850, 851, 852, 853, 854, 855, 856, 857, 858, 859, 860, 861, 862, 863, 864, 865, 866, 867, 868, 869, 870, 871, 872, 873, 874, 875, 876, 877, 878, 879, 880, 881] (by decide +kernel) (by decide +kernel)
set_option maxRecDepth 20000 in
theorem gL_law_X8_passed : GoodIn wsL_law (wsV RL 63 RX8 yX8_passed wsX8_passed) := goodIn_app (goodIn_of _ (by decide +kernel)) ggL_law_X8_passed
set_option maxRecDepth 20000 in
theorem ggL_law_X7_all : GoodIn wsL_law wsX7_all := goodIn_r _ [473, 15, 474, 475, 383, 476, 385, 392, 461, 382, 384, 386, 387, 388, 202, 203, 14, 204, 44, 389, 390, 391, 393, 394, 395, 396, 397, 398, 399, 400, 401, 402, 403, 404, 405, 66, 406, 837, 838, 839, 840, 841, 842, 843, 844, 845, 846, 847, 848, 882, 883, 884, 885, 886, 887, 888, 889, 890, 891, 892, 893, 894, 895, 896, 897] (by decide +kernel) (by decide +kernel)
set_option maxRecDepth 20000 in
theorem gL_law_X7_all : GoodIn wsL_law (wsV RL 64 RX7 yX7_all wsX7_all) := goodIn_app (goodIn_of _ (by decide +kernel)) ggL_law_X7_all
set_option maxRecDepth 20000 in
theorem ggL_law_X8_all : GoodIn wsL_law wsX8_all := goodIn_r _ [480, 105, 481, 482, 483, 5, 484, 423, 424, 425, 426, 427, 428, 429, 430, 299, 300, 301, 302, 274, 275, 276, 277, 431, 432, 433, 434, 849, 850, 851, 852, 853, 854, 855, 856, 857, 858, 859, 860, 861, 862, 863, 864, 865, 866, 867, 868, 869, 870, 871, 872, 873, 874, 875, 876, 877, 878, 879, 880, 881] (by decide +kernel) (by decide +kernel)
set_option maxRecDepth 20000 in
theorem gL_law_X8_all : GoodIn wsL_law (wsV RL 67 RX8 yX8_all wsX8_all) := goodIn_app (goodIn_of _ (by decide +kernel)) ggL_law_X8_all
set_option maxRecDepth 20000 in
theorem ggL_law_X7_after : GoodIn wsL_law wsX7_after := goodIn_r _ [488, 15, 16, 289, 202, 203, 14, 204, 44, 128, 129, 130, 2, 131, 35, 154, 155, 156, 157, 45, 46, 47, 48, 49, 50, 158, 159, 160, 161, 51, 52, 53, 54, 55, 56, 57, 58, 358, 359, 360, 361, 362, 363, 364, 365, 366, 367, 368, 369, 370, 371, 372, 373, 374, 375, 376, 377, 378, 379, 380, 198, 199, 200, 201, 381, 382, 383, 384, 385, 386, 387, 388, 389, 390, 391, 392, 393, 394, 395, 396, 397, 398, 399, 400, 401, 402, 403, 404, 405, 66, 406, 474, 475, 476, 461, 448, 837, 838, 839, 840, 841, 842, 843, 844, 845, 846, 847, 848, 882, 883, 884, 885, 886, 887, 888, 889, 890, 891, 892, 893, 894, 895, 896, 897] (by decide +kernel) (by decide +kernel)
set_option maxRecDepth 20000 in
theorem gL_law_X7_after : GoodIn wsL_law (wsV RL 68 RX7 yX7_after wsX7_after) := goodIn_app (goodIn_of _ (by decide +kernel)) ggL_law_X7_after
set_option maxRecDepth 20000 in
theorem ggL_law_X8_after : GoodIn wsL_law wsX8_after := goodIn_r _ [492, 105, 107, 146, 147, 148, 5, 149, 104, 493, 494, 495, 411, 412, 413, 414, 114, 415, 416, 417, 418, 299, 300, 301, 302, 274, 275, 276, 277, 419, 420, 421, 422, 321, 322, 323, 324, 423, 424, 425, 426, 427, 428, 429, 430, 431, 432, 433, 434, 481, 482, 483, 484, 849, 850, 851, 852, 853, 854, 855, 856, 857, 858, 859, 860, 861, 862, 863, 864, 865, 866, 867, 868, 869, 870, 871, 872, 873, 874, 875, 876, 877, 878, 879, 880, 881] (by decide +kernel) (by decide +kernel)
set_option maxRecDepth 20000 in
theorem gL_law_X8_after : GoodIn wsL_law (wsV RL 71 RX8 yX8_after wsX8_after) := goodIn_app (goodIn_of _ (by decide +kernel)) ggL_law_X8_after
set_option maxRecDepth 20000 in
theorem ggL_law_X7_again : GoodIn wsL_law wsX7_again := goodIn_r _ [499, 16, 15, 154, 155, 156, 14, 157, 44, 45, 46, 47, 48, 49, 50, 158, 159, 160, 161, 51, 52, 53, 54, 55, 56, 57, 58, 358, 359, 360, 361, 362, 363, 364, 365, 366, 367, 368, 369, 370, 371, 372, 373, 374, 375, 202, 203, 204, 376, 377, 378, 379, 380, 198, 199, 200, 201, 381, 382, 383, 384, 385, 386, 387, 388, 389, 390, 391, 392, 393, 394, 395, 396, 397, 398, 399, 400, 401, 402, 403, 404, 405, 66, 406, 500, 501, 502, 503, 837, 838, 839, 840, 841, 842, 843, 844, 845, 846, 847, 848, 882, 883, 884, 885, 886, 887, 888, 889, 890, 891, 892, 893, 894, 895, 896, 897] (by decide +kernel) (by decide +kernel)
set_option maxRecDepth 20000 in
theorem gL_law_X7_again : GoodIn wsL_law (wsV RL 72 RX7 yX7_again wsX7_again) := goodIn_app (goodIn_of _ (by decide +kernel)) ggL_law_X7_again
set_option maxRecDepth 20000 in
theorem ggL_law_X8_again : GoodIn wsL_law wsX8_again := goodIn_r _ [507, 105, 107, 116, 493, 494, 5, 495, 411, 412, 413, 414, 114, 415, 416, 417, 418, 299, 300, 301, 302, 274, 275, 276, 277, 419, 420, 421, 422, 321, 322, 323, 324, 423, 424, 425, 426, 427, 428, 429, 430, 431, 432, 433, 434, 508, 509, 510, 511, 849, 850, 851, 852, 853, 854, 855, 856, 857, 858, 859, 860, 861, 862, 863, 864, 865, 866, 867, 868, 869, 870, 871, 872, 873, 874, 875, 876, 877, 878, 879, 880, 881] (by decide +kernel) (by decide +kernel)
set_option maxRecDepth 20000 in
theorem gL_law_X8_again : GoodIn wsL_law (wsV RL 75 RX8 yX8_again wsX8_again) := goodIn_app (goodIn_of _ (by decide +kernel)) ggL_law_X8_again
set_option maxRecDepth 20000 in
theorem ggL_law_X7_best : GoodIn wsL_law wsX7_best := goodIn_r _ [515, 15, 516, 29, 517, 518, 128, 129, 130, 2, 131, 35, 519, 520, 521, 28, 522, 85, 86, 83, 523, 524, 525, 526, 527, 155, 156, 14, 157, 44, 45, 46, 47, 48, 49, 50, 158, 159, 160, 161, 51, 52, 53, 54, 55, 56, 57, 58, 528, 529, 530, 531, 205, 206, 207, 208, 201, 202, 203, 204, 532, 458, 383, 459, 392, 460, 461, 382, 384, 385, 386, 387, 388, 389, 390, 391, 393, 394, 395, 396, 397, 398, 399, 400, 401, 402, 403, 404, 405, 66, 406, 533, 534, 535, 536, 537, 538, 539, 540, 475, 476, 541, 542, 543, 544, 545, 84, 546, 547, 548, 549, 550, 551, 552, 553, 554, 555, 556, 837, 838, 839, 840, 841, 842, 843, 844, 845, 846, 847, 848, 882, 883, 884, 885, 886, 887, 888, 889, 890, 891, 892, 893, 894, 895, 896, 897, 902, 903, 904, 905, 906] (by decide +kernel) (by decide +kernel)
set_option maxRecDepth 20000 in
theorem gL_law_X7_best : GoodIn wsL_law (wsV RL 76 RX7 yX7_best wsX7_best) := goodIn_app (goodIn_of _ (by decide +kernel)) ggL_law_X7_best
set_option maxRecDepth 20000 in
theorem ggL_law_X8_best : GoodIn wsL_law wsX8_best := goodIn_r _ [560, 105, 561, 562, 146, 147, 148, 5, 149, 104, 563, 564, 565, 566, 567, 568, 569, 117, 570, 122, 107, 493, 494, 495, 571, 572, 573, 574, 575, 576, 577, 578, 118, 119, 466, 467, 468, 469, 423, 424, 425, 426, 427, 428, 429, 430, 299, 300, 301, 302, 274, 275, 276, 277, 431, 432, 433, 434, 579, 580, 581, 481, 482, 483, 484, 849, 850, 851, 852, 853, 854, 855, 856, 857, 858, 859, 860, 861, 862, 863, 864, 865, 866, 867, 868, 869, 870, 871, 872, 873, 874, 875, 876, 877, 878, 879, 880, 881] (by decide +kernel) (by decide +kernel)
set_option maxRecDepth 20000 in
theorem gL_law_X8_best : GoodIn wsL_law (wsV RL 79 RX8 yX8_best wsX8_best) := goodIn_app (goodIn_of _ (by decide +kernel)) ggL_law_X8_best
set_option maxRecDepth 20000 in
theorem ggL_law_X7_bestSeat : GoodIn wsL_law wsX7_bestSeat := goodIn_r _ [585, 15, 516, 29, 586, 128, 129, 130, 2, 131, 35, 519, 520, 521, 28, 522, 85, 86, 83, 523, 524, 525, 526, 527, 155, 156, 14, 157, 44, 45, 46, 47, 48, 49, 50, 158, 159, 160, 161, 51, 52, 53, 54, 55, 56, 57, 58, 528, 529, 530, 531, 205, 206, 207, 208, 201, 202, 203, 204, 532, 458, 383, 459, 392, 460, 461, 382, 384, 385, 386, 387, 388, 389, 390, 391, 393, 394, 395, 396, 397, 398, 399, 400, 401, 402, 403, 404, 405, 66, 406, 533, 534, 535, 536, 537, 538, 539, 540, 475, 476, 541, 542, 543, 544, 545, 84, 546, 547, 548, 549, 550, 551, 552, 553, 554, 555, 556, 837, 838, 839, 840, 841, 842, 843, 844, 845, 846, 847, 848, 882, 883, 884, 885, 886, 887, 888, 889, 890, 891, 892, 893, 894, 895, 896, 897, 902, 903, 904, 905, 906] (by decide +kernel) (by decide +kernel)
set_option maxRecDepth 20000 in
theorem gL_law_X7_bestSeat : GoodIn wsL_law (wsV RL 80 RX7 yX7_bestSeat wsX7_bestSeat) := goodIn_app (goodIn_of _ (by decide +kernel)) ggL_law_X7_bestSeat
set_option maxRecDepth 20000 in
theorem ggL_law_X8_bestSeat : GoodIn wsL_law wsX8_bestSeat := goodIn_r _ [590, 105, 118, 146, 147, 148, 5, 149, 104, 563, 564, 565, 566, 561, 562, 567, 568, 569, 117, 570, 122, 107, 493, 494, 495, 571, 572, 573, 574, 575, 576, 577, 578, 119, 466, 467, 468, 469, 423, 424, 425, 426, 427, 428, 429, 430, 299, 300, 301, 302, 274, 275, 276, 277, 431, 432, 433, 434, 579, 580, 581, 481, 482, 483, 484, 849, 850, 851, 852, 853, 854, 855, 856, 857, 858, 859, 860, 861, 862, 863, 864, 865, 866, 867, 868, 869, 870, 871, 872, 873, 874, 875, 876, 877, 878, 879, 880, 881] (by decide +kernel) (by decide +kernel)
set_option maxRecDepth 20000 in
theorem gL_law_X8_bestSeat : GoodIn wsL_law (wsV RL 83 RX8 yX8_bestSeat wsX8_bestSeat) := goodIn_app (goodIn_of _ (by decide +kernel)) ggL_law_X8_bestSeat
set_option maxRecDepth 20000 in
theorem ggL_law_X7_sumLeast : GoodIn wsL_law wsX7_sumLeast := goodIn_r _ [594, 15, 516, 29, 128, 129, 130, 2, 131, 35, 595, 596, 597, 28, 598, 599, 83, 600, 405, 66, 406, 523, 524, 525, 526, 527, 155, 156, 14, 157, 44, 45, 46, 47, 48, 49, 50, 158, 159, 160, 161, 51, 52, 53, 54, 55, 56, 57, 58, 528, 529, 530, 531, 205, 206, 207, 208, 201, 202, 203, 204, 540, 475, 383, 476, 385, 392, 461, 382, 384, 386, 387, 388, 389, 390, 391, 393, 394, 395, 396, 397, 398, 399, 400, 401, 402, 403, 404, 547, 548, 549, 550, 545, 551, 552, 553, 554, 555, 556, 837, 838, 839, 840, 841, 842, 843, 844, 845, 846, 847, 848, 882, 883, 884, 885, 886, 887, 888, 889, 890, 891, 892, 893, 894, 895, 896, 897, 902, 903, 904, 905, 906] (by decide +kernel) (by decide +kernel)
set_option maxRecDepth 20000 in
theorem gL_law_X7_sumLeast : GoodIn wsL_law (wsV RL 84 RX7 yX7_sumLeast wsX7_sumLeast) := goodIn_app (goodIn_of _ (by decide +kernel)) ggL_law_X7_sumLeast
set_option maxRecDepth 20000 in
theorem ggL_law_X8_sumLeast : GoodIn wsL_law wsX8_sumLeast := goodIn_r _ [604, 105, 567, 146, 147, 148, 5, 149, 104, 563, 564, 565, 566, 561, 562, 568, 569, 117, 570, 122, 107, 493, 494, 495, 571, 572, 573, 574, 575, 576, 577, 578, 118, 119, 466, 467, 468, 469, 423, 424, 425, 426, 427, 428, 429, 430, 299, 300, 301, 302, 274, 275, 276, 277, 431, 432, 433, 434, 579, 580, 581, 481, 482, 483, 484, 849, 850, 851, 852, 853, 854, 855, 856, 857, 858, 859, 860, 861, 862, 863, 864, 865, 866, 867, 868, 869, 870, 871, 872, 873, 874, 875, 876, 877, 878, 879, 880, 881] (by decide +kernel) (by decide +kernel)
set_option maxRecDepth 20000 in
theorem gL_law_X8_sumLeast : GoodIn wsL_law (wsV RL 87 RX8 yX8_sumLeast wsX8_sumLeast) := goodIn_app (goodIn_of _ (by decide +kernel)) ggL_law_X8_sumLeast
set_option maxRecDepth 20000 in
theorem ggL_law_X7_rests : GoodIn wsL_law wsX7_rests := goodIn_r _ [608, 33, 15, 609, 610, 128, 129, 130, 2, 131, 35, 611, 612, 613, 32, 614, 96, 97, 98, 615, 616, 617, 618, 94, 619, 620, 155, 156, 14, 157, 44, 45, 46, 47, 48, 49, 50, 158, 159, 160, 161, 51, 52, 53, 54, 55, 56, 57, 58, 621, 198, 199, 200, 201, 202, 203, 204, 622, 623, 624, 625, 626, 627, 628, 629, 630, 631, 632, 382, 383, 384, 385, 386, 387, 388, 389, 390, 391, 392, 393, 394, 395, 396, 397, 398, 399, 400, 401, 402, 403, 404, 405, 66, 406, 633, 634, 635, 636, 95, 637, 638, 65, 67, 639, 475, 476, 461, 640, 641, 642, 643, 837, 838, 839, 840, 841, 842, 843, 844, 845, 846, 847, 848, 907, 908, 909, 910, 911, 882, 883, 884, 885, 886, 887, 888, 889, 890, 891, 892, 893, 894, 895, 896, 897] (by decide +kernel) (by decide +kernel)
set_option maxRecDepth 20000 in
theorem gL_law_X7_rests : GoodIn wsL_law (wsV RL 88 RX7 yX7_rests wsX7_rests) := goodIn_app (goodIn_of _ (by decide +kernel)) ggL_law_X7_rests
set_option maxRecDepth 20000 in
theorem ggL_law_X8_rests : GoodIn wsL_law wsX8_rests := goodIn_r _ [647, 105, 648, 649, 146, 147, 148, 5, 149, 104, 650, 651, 652, 653, 654, 107, 655, 65, 66, 67, 656, 120, 493, 494, 495, 321, 322, 323, 324, 481, 482, 483, 484, 423, 424, 425, 426, 427, 428, 429, 430, 299, 300, 301, 302, 274, 275, 276, 277, 431, 432, 433, 434, 657, 658, 659, 660, 849, 850, 851, 852, 853, 854, 855, 856, 857, 858, 859, 860, 861, 862, 863, 864, 865, 866, 867, 868, 869, 870, 871, 872, 873, 874, 875, 876, 877, 878, 879, 880, 881] (by decide +kernel) (by decide +kernel)
set_option maxRecDepth 20000 in
theorem gL_law_X8_rests : GoodIn wsL_law (wsV RL 91 RX8 yX8_rests wsX8_rests) := goodIn_app (goodIn_of _ (by decide +kernel)) ggL_law_X8_rests
set_option maxRecDepth 20000 in
theorem ggL_law_X7_rest : GoodIn wsL_law wsX7_rest := goodIn_r _ [664, 15, 33, 609, 665, 289, 202, 203, 14, 204, 44, 128, 129, 130, 2, 131, 35, 611, 612, 613, 32, 614, 96, 97, 98, 615, 616, 617, 618, 94, 619, 620, 155, 156, 157, 45, 46, 47, 48, 49, 50, 158, 159, 160, 161, 51, 52, 53, 54, 55, 56, 57, 58, 621, 198, 199, 200, 201, 622, 623, 624, 625, 626, 627, 628, 629, 630, 631, 632, 382, 383, 384, 385, 386, 387, 388, 389, 390, 391, 392, 393, 394, 395, 396, 397, 398, 399, 400, 401, 402, 403, 404, 405, 66, 406, 633, 634, 635, 636, 95, 637, 638, 65, 67, 639, 475, 476, 461, 640, 641, 642, 643, 837, 838, 839, 840, 841, 842, 843, 844, 845, 846, 847, 848, 907, 908, 909, 910, 911, 882, 883, 884, 885, 886, 887, 888, 889, 890, 891, 892, 893, 894, 895, 896, 897] (by decide +kernel) (by decide +kernel)
set_option maxRecDepth 20000 in
theorem gL_law_X7_rest : GoodIn wsL_law (wsV RL 92 RX7 yX7_rest wsX7_rest) := goodIn_app (goodIn_of _ (by decide +kernel)) ggL_law_X7_rest
set_option maxRecDepth 20000 in
theorem ggL_law_X8_rest : GoodIn wsL_law wsX8_rest := goodIn_r _ [669, 105, 648, 120, 295, 296, 297, 5, 298, 146, 147, 148, 149, 104, 650, 651, 652, 653, 654, 107, 655, 65, 66, 67, 656, 649, 493, 494, 495, 321, 322, 323, 324, 481, 482, 483, 484, 423, 424, 425, 426, 427, 428, 429, 430, 299, 300, 301, 302, 274, 275, 276, 277, 431, 432, 433, 434, 657, 658, 659, 660, 849, 850, 851, 852, 853, 854, 855, 856, 857, 858, 859, 860, 861, 862, 863, 864, 865, 866, 867, 868, 869, 870, 871, 872, 873, 874, 875, 876, 877, 878, 879, 880, 881] (by decide +kernel) (by decide +kernel)
set_option maxRecDepth 20000 in
theorem gL_law_X8_rest : GoodIn wsL_law (wsV RL 95 RX8 yX8_rest wsX8_rest) := goodIn_app (goodIn_of _ (by decide +kernel)) ggL_law_X8_rest
set_option maxRecDepth 20000 in
theorem ggL_law_X7_good : GoodIn wsL_law wsX7_good := goodIn_r _ [673, 33, 15, 338, 674, 675, 676, 32, 677, 94, 678, 638, 65, 66, 67, 615, 616, 617, 618, 619, 620, 155, 156, 14, 157, 44, 45, 46, 47, 48, 49, 50, 158, 159, 160, 161, 51, 52, 53, 54, 55, 56, 57, 58, 621, 198, 199, 200, 201, 202, 203, 204, 639, 475, 383, 476, 385, 392, 461, 382, 384, 386, 387, 388, 389, 390, 391, 393, 394, 395, 396, 397, 398, 399, 400, 401, 402, 403, 404, 405, 406, 640, 641, 642, 643, 630, 631, 837, 838, 839, 840, 841, 842, 843, 844, 845, 846, 847, 848, 882, 883, 884, 885, 886, 887, 888, 889, 890, 891, 892, 893, 894, 895, 896, 897, 907, 908, 909, 910, 911] (by decide +kernel) (by decide +kernel)
set_option maxRecDepth 20000 in
theorem gL_law_X7_good : GoodIn wsL_law (wsV RL 96 RX7 yX7_good wsX7_good) := goodIn_app (goodIn_of _ (by decide +kernel)) ggL_law_X7_good
