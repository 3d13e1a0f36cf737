set_option maxRecDepth 20000 in
theorem ggL_law_X10_asked : GoodIn wsL_law wsX10_asked := goodIn_r _ [649, 40, 19, 112, 113, 114, 2, 115, 13, 116, 117, 118, 502, 503, 504, 18, 505, 160, 119, 120, 121, 15, 122, 123, 124, 125, 126, 127, 128, 129, 130, 131, 132, 133, 134, 135, 136, 137, 650, 651, 652, 653, 23, 654, 142, 143, 144, 45, 145, 146, 147, 148, 334, 291, 292, 293, 655, 313, 314, 522, 431, 432, 433, 51, 523, 448, 449, 450, 451, 452, 453, 524, 435, 436, 22, 437, 217, 57, 56, 218, 58, 59, 309, 310, 311, 312, 219, 656, 455, 456, 457, 52, 933, 934, 935, 936, 937, 938, 939, 940, 973, 974, 975, 976, 969, 970, 971, 972, 977, 978, 979, 980, 981, 982, 983] (by decide +kernel) (by decide +kernel)
set_option maxRecDepth 20000 in
theorem gL_law_X10_asked : GoodIn wsL_law (wsV RL 83 RX10 yX10_asked wsX10_asked) := goodIn_app (goodIn_of _ (by decide +kernel)) ggL_law_X10_asked
set_option maxRecDepth 20000 in
theorem ggL_law_X11_asked : GoodIn wsL_law wsX11_asked := goodIn_r _ [660, 233, 236, 106, 241, 242, 5, 243, 244, 245, 246, 247, 248, 249, 250, 251, 252, 253, 254, 255, 256, 104, 105, 257, 258, 259, 260, 261, 262, 263, 319, 320, 321, 322, 327, 328, 329, 661, 662, 663, 664, 237, 489, 490, 491, 492, 238, 97, 96, 493, 482, 483, 484, 485, 92, 494, 495, 496, 497, 239, 98, 99, 323, 324, 325, 326, 91, 90, 941, 942, 943, 944, 945, 946, 947, 948, 949, 950, 951, 952, 953, 954, 955, 956, 957, 958, 959, 960, 961, 962, 963, 964, 965, 966, 967, 968] (by decide +kernel) (by decide +kernel)
set_option maxRecDepth 20000 in
theorem gL_law_X11_asked : GoodIn wsL_law (wsV RL 86 RX11 yX11_asked wsX11_asked) := goodIn_app (goodIn_of _ (by decide +kernel)) ggL_law_X11_asked
set_option maxRecDepth 20000 in
theorem ggL_law_X10_reading : GoodIn wsL_law wsX10_reading := goodIn_r _ [668, 19, 31, 334, 291, 292, 18, 293, 160, 335, 336, 2, 337, 669, 670, 671, 30, 672, 224, 673, 674, 675, 676, 68, 69, 71, 933, 934, 935, 936, 937, 938, 939, 940, 973, 974, 975, 976, 986, 987, 988, 989] (by decide +kernel) (by decide +kernel)
set_option maxRecDepth 20000 in
theorem gL_law_X10_reading : GoodIn wsL_law (wsV RL 87 RX10 yX10_reading wsX10_reading) := goodIn_app (goodIn_of _ (by decide +kernel)) ggL_law_X10_reading
set_option maxRecDepth 20000 in
theorem ggL_law_X11_reading : GoodIn wsL_law wsX11_reading := goodIn_r _ [680, 240, 101, 102, 103, 319, 320, 321, 5, 322, 236, 245, 246, 247, 350, 351, 352, 353, 941, 942, 943, 944, 945, 946, 947, 948, 949, 950, 951, 952, 953, 954, 955, 956, 957, 958, 959, 960, 961, 962, 963, 964, 965, 966, 967, 968] (by decide +kernel) (by decide +kernel)
set_option maxRecDepth 20000 in
theorem gL_law_X11_reading : GoodIn wsL_law (wsV RL 91 RX11 yX11_reading wsX11_reading) := goodIn_app (goodIn_of _ (by decide +kernel)) ggL_law_X11_reading
set_option maxRecDepth 20000 in
theorem ggL_law_X10_back : GoodIn wsL_law wsX10_back := goodIn_r _ [684, 31, 669, 670, 671, 30, 672, 224, 685, 686, 687, 688, 689, 363, 158, 364, 933, 934, 935, 936, 937, 938, 939, 940, 986, 987, 988, 989] (by decide +kernel) (by decide +kernel)
set_option maxRecDepth 20000 in
theorem gL_law_X10_back : GoodIn wsL_law (wsV RL 92 RX10 yX10_back wsX10_back) := goodIn_app (goodIn_of _ (by decide +kernel)) ggL_law_X10_back
set_option maxRecDepth 20000 in
theorem ggL_law_X11_back : GoodIn wsL_law wsX11_back := goodIn_r _ [693, 240, 245, 246, 5, 247, 941, 942, 943, 944, 945, 946, 947, 948, 949, 950, 951, 952, 953, 954, 955, 956, 957, 958, 959, 960, 961, 962, 963, 964, 965, 966, 967, 968] (by decide +kernel) (by decide +kernel)
set_option maxRecDepth 20000 in
theorem gL_law_X11_back : GoodIn wsL_law (wsV RL 95 RX11 yX11_back wsX11_back) := goodIn_app (goodIn_of _ (by decide +kernel)) ggL_law_X11_back
set_option maxRecDepth 20000 in
theorem ggL_law_X10_where : GoodIn wsL_law wsX10_where := goodIn_r _ [697, 19, 35, 335, 336, 2, 337, 502, 503, 504, 18, 505, 160, 698, 699, 700, 34, 701, 80, 77, 81, 79, 82, 577, 226, 227, 228, 570, 571, 572, 22, 573, 217, 56, 57, 218, 58, 59, 219, 574, 214, 215, 216, 575, 343, 344, 345, 576, 394, 395, 396, 578, 583, 418, 419, 26, 420, 63, 421, 422, 423, 424, 425, 426, 427, 428, 64, 429, 430, 431, 432, 433, 51, 434, 435, 436, 437, 438, 439, 440, 441, 442, 443, 444, 445, 446, 374, 375, 376, 447, 448, 449, 450, 451, 452, 453, 313, 314, 454, 455, 456, 457, 52, 702, 703, 704, 30, 705, 224, 69, 68, 71, 706, 507, 508, 509, 933, 934, 935, 936, 937, 938, 939, 940, 973, 974, 975, 976, 990, 991, 992, 993, 994, 977, 978, 979, 980, 981, 982, 983, 984, 985, 986, 987, 988, 989] (by decide +kernel) (by decide +kernel)
set_option maxRecDepth 20000 in
theorem gL_law_X10_where : GoodIn wsL_law (wsV RL 96 RX10 yX10_where wsX10_where) := goodIn_app (goodIn_of _ (by decide +kernel)) ggL_law_X10_where
set_option maxRecDepth 20000 in
theorem ggL_law_X11_where : GoodIn wsL_law wsX11_where := goodIn_r _ [710, 236, 238, 97, 96, 350, 351, 5, 352, 353, 245, 246, 247, 711, 712, 713, 714, 240, 100, 101, 102, 103, 466, 467, 468, 469, 470, 471, 472, 473, 237, 327, 328, 329, 474, 475, 476, 477, 478, 479, 480, 481, 482, 483, 484, 485, 92, 486, 487, 488, 489, 490, 491, 492, 493, 494, 495, 496, 497, 239, 98, 99, 323, 324, 325, 326, 91, 90, 941, 942, 943, 944, 945, 946, 947, 948, 949, 950, 951, 952, 953, 954, 955, 956, 957, 958, 959, 960, 961, 962, 963, 964, 965, 966, 967, 968] (by decide +kernel) (by decide +kernel)
set_option maxRecDepth 20000 in
theorem gL_law_X11_where : GoodIn wsL_law (wsV RL 99 RX11 yX11_where wsX11_where) := goodIn_app (goodIn_of _ (by decide +kernel)) ggL_law_X11_where
set_option maxRecDepth 20000 in
theorem ggL_law_X10_paid : GoodIn wsL_law wsX10_paid := goodIn_r _ [718, 19, 35, 502, 503, 504, 18, 505, 160, 719, 720, 721, 34, 722, 80, 77, 81, 79, 82, 577, 226, 227, 228, 570, 571, 572, 22, 573, 217, 56, 57, 218, 58, 59, 219, 574, 214, 215, 216, 575, 343, 344, 345, 576, 394, 395, 396, 585, 374, 375, 376, 602, 378, 379, 380, 583, 418, 419, 26, 420, 63, 421, 422, 423, 424, 425, 426, 427, 428, 64, 429, 430, 431, 432, 433, 51, 434, 435, 436, 437, 438, 439, 440, 441, 442, 443, 444, 445, 446, 447, 448, 449, 450, 451, 452, 453, 313, 2, 314, 454, 455, 456, 457, 52, 702, 703, 704, 30, 705, 224, 69, 68, 71, 706, 507, 508, 509, 336, 337, 933, 934, 935, 936, 937, 938, 939, 940, 973, 974, 975, 976, 990, 991, 992, 993, 994, 977, 978, 979, 980, 981, 982, 983, 984, 985, 986, 987, 988, 989] (by decide +kernel) (by decide +kernel)
set_option maxRecDepth 20000 in
theorem gL_law_X10_paid : GoodIn wsL_law (wsV RL 100 RX10 yX10_paid wsX10_paid) := goodIn_app (goodIn_of _ (by decide +kernel)) ggL_law_X10_paid
set_option maxRecDepth 20000 in
theorem ggL_law_X11_paid : GoodIn wsL_law wsX11_paid := goodIn_r _ [726, 236, 237, 711, 712, 713, 5, 714, 240, 100, 101, 102, 103, 466, 467, 468, 469, 470, 471, 472, 473, 327, 328, 329, 474, 475, 476, 477, 478, 479, 480, 481, 482, 483, 484, 485, 92, 486, 487, 488, 489, 490, 491, 492, 238, 97, 96, 493, 494, 495, 496, 497, 239, 98, 99, 323, 324, 325, 326, 91, 90, 941, 942, 943, 944, 945, 946, 947, 948, 949, 950, 951, 952, 953, 954, 955, 956, 957, 958, 959, 960, 961, 962, 963, 964, 965, 966, 967, 968] (by decide +kernel) (by decide +kernel)
set_option maxRecDepth 20000 in
theorem gL_law_X11_paid : GoodIn wsL_law (wsV RL 103 RX11 yX11_paid wsX11_paid) := goodIn_app (goodIn_of _ (by decide +kernel)) ggL_law_X11_paid
set_option maxRecDepth 20000 in
theorem ggL_law_X10_odds : GoodIn wsL_law wsX10_odds := goodIn_r _ [730, 19, 731, 35, 334, 291, 292, 18, 293, 160, 335, 336, 2, 337, 732, 733, 734, 34, 735, 77, 81, 80, 79, 570, 571, 572, 22, 573, 217, 56, 57, 218, 58, 59, 219, 574, 214, 215, 216, 575, 343, 344, 345, 576, 394, 395, 396, 561, 443, 444, 445, 602, 378, 379, 380, 583, 418, 419, 26, 420, 63, 421, 422, 423, 424, 425, 426, 427, 428, 64, 429, 226, 227, 228, 430, 431, 432, 433, 51, 434, 435, 436, 437, 438, 439, 440, 441, 442, 446, 374, 375, 376, 447, 448, 449, 450, 451, 452, 453, 313, 314, 454, 455, 456, 457, 52, 584, 507, 508, 509, 577, 933, 934, 935, 936, 937, 938, 939, 940, 973, 974, 975, 976, 990, 991, 992, 993, 994, 977, 978, 979, 980, 981, 982, 983, 984, 985] (by decide +kernel) (by decide +kernel)
set_option maxRecDepth 20000 in
theorem gL_law_X10_odds : GoodIn wsL_law (wsV RL 104 RX10 yX10_odds wsX10_odds) := goodIn_app (goodIn_of _ (by decide +kernel)) ggL_law_X10_odds
set_option maxRecDepth 20000 in
theorem ggL_law_X11_odds : GoodIn wsL_law wsX11_odds := goodIn_r _ [739, 237, 100, 319, 320, 321, 5, 322, 236, 245, 246, 247, 350, 351, 352, 353, 740, 741, 742, 743, 590, 591, 592, 593, 466, 467, 468, 469, 470, 471, 472, 473, 327, 328, 329, 474, 475, 476, 477, 478, 479, 480, 481, 482, 483, 484, 485, 92, 486, 487, 488, 489, 490, 491, 492, 238, 97, 96, 493, 494, 495, 496, 497, 239, 98, 99, 323, 324, 325, 326, 91, 90, 744, 745, 746, 941, 942, 943, 944, 945, 946, 947, 948, 949, 950, 951, 952, 953, 954, 955, 956, 957, 958, 959, 960, 961, 962, 963, 964, 965, 966, 967, 968] (by decide +kernel) (by decide +kernel)
set_option maxRecDepth 20000 in
theorem gL_law_X11_odds : GoodIn wsL_law (wsV RL 108 RX11 yX11_odds wsX11_odds) := goodIn_app (goodIn_of _ (by decide +kernel)) ggL_law_X11_odds
set_option maxRecDepth 20000 in
theorem ggL_law_X10_sheet : GoodIn wsL_law wsX10_sheet := goodIn_r _ [750, 40, 112, 113, 114, 2, 115, 13, 116, 117, 118, 134, 135, 136, 137, 751, 752, 753, 15, 754, 45, 127, 128, 755, 157, 158, 159, 133, 933, 934, 935, 936, 937, 938, 939, 940, 969, 970, 971, 972] (by decide +kernel) (by decide +kernel)
set_option maxRecDepth 20000 in
theorem gL_law_X10_sheet : GoodIn wsL_law (wsV RL 109 RX10 yX10_sheet wsX10_sheet) := goodIn_app (goodIn_of _ (by decide +kernel)) ggL_law_X10_sheet
set_option maxRecDepth 20000 in
theorem ggL_law_X11_sheet : GoodIn wsL_law wsX11_sheet := goodIn_r _ [759, 233, 104, 105, 106, 241, 242, 5, 243, 244, 245, 246, 247, 248, 249, 250, 251, 252, 257, 258, 259, 260, 941, 942, 943, 944, 945, 946, 947, 948, 949, 950, 951, 952, 953, 954, 955, 956, 957, 958, 959, 960, 961, 962, 963, 964, 965, 966, 967, 968] (by decide +kernel) (by decide +kernel)
set_option maxRecDepth 20000 in
theorem gL_law_X11_sheet : GoodIn wsL_law (wsV RL 112 RX11 yX11_sheet wsX11_sheet) := goodIn_app (goodIn_of _ (by decide +kernel)) ggL_law_X11_sheet
set_option maxRecDepth 20000 in
theorem ggL_law_X10_lose : GoodIn wsL_law wsX10_lose := goodIn_r _ [763, 112, 113, 114, 2, 115, 13, 764, 765, 766, 15, 767, 127, 768, 769, 770, 771, 133, 933, 934, 935, 936, 937, 938, 939, 940, 969, 970, 971, 972] (by decide +kernel) (by decide +kernel)
set_option maxRecDepth 20000 in
theorem gL_law_X10_lose : GoodIn wsL_law (wsV RL 113 RX10 yX10_lose wsX10_lose) := goodIn_app (goodIn_of _ (by decide +kernel)) ggL_law_X10_lose
set_option maxRecDepth 20000 in
theorem ggL_law_X11_lose : GoodIn wsL_law wsX11_lose := goodIn_r _ [775, 104, 241, 242, 5, 243, 244, 245, 246, 247, 941, 942, 943, 944, 945, 946, 947, 948, 949, 950, 951, 952, 953, 954, 955, 956, 957, 958, 959, 960, 961, 962, 963, 964, 965, 966, 967, 968] (by decide +kernel) (by decide +kernel)
set_option maxRecDepth 20000 in
theorem gL_law_X11_lose : GoodIn wsL_law (wsV RL 116 RX11 yX11_lose wsX11_lose) := goodIn_app (goodIn_of _ (by decide +kernel)) ggL_law_X11_lose
set_option maxRecDepth 20000 in
theorem ggL_law_X10_put : GoodIn wsL_law wsX10_put := goodIn_r _ [779, 40, 112, 113, 114, 2, 115, 13, 764, 765, 766, 15, 767, 127, 134, 135, 136, 137, 780, 146, 147, 148, 133, 781, 782, 783, 784, 45, 145, 785, 786, 787, 788, 128, 933, 934, 935, 936, 937, 938, 939, 940, 969, 970, 971, 972] (by decide +kernel) (by decide +kernel)
set_option maxRecDepth 20000 in
theorem gL_law_X10_put : GoodIn wsL_law (wsV RL 117 RX10 yX10_put wsX10_put) := goodIn_app (goodIn_of _ (by decide +kernel)) ggL_law_X10_put
