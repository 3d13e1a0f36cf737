set_option maxRecDepth 20000 in
theorem ggL_law_X10_init : GoodIn wsL_law wsX10_init := goodIn_r _ [8, 9, 10, 11, 12, 13, 14, 15, 16, 17, 18, 19, 20, 21, 22, 23, 24, 25, 26, 27, 28, 29, 30, 31, 32, 33, 34, 35, 36, 37, 38, 39, 40, 41, 42, 43, 44, 45, 46, 47, 48, 49, 50, 51, 52, 53, 54, 55, 56, 57, 58, 59, 60, 61, 62, 63, 64, 65, 66, 67, 68, 69, 70, 71, 72, 73, 74, 75, 76, 77, 78, 79, 80, 81, 82, 83, 84, 85, 933, 934, 935, 936, 937, 938, 939, 940, 969, 970, 971, 972, 973, 974, 975, 976, 977, 978, 979, 980, 981, 982, 983, 984, 985, 986, 987, 988, 989, 990, 991, 992, 993, 994, 995] (by decide +kernel) (by decide +kernel)
set_option maxRecDepth 20000 in
theorem gL_law_X10_init : GoodIn wsL_law (wsX10_init) := ggL_law_X10_init
set_option maxRecDepth 20000 in
theorem ggL_law_X11_init : GoodIn wsL_law wsX11_init := goodIn_r _ [88, 89, 10, 11, 44, 90, 91, 92, 93, 94, 95, 96, 97, 98, 99, 100, 101, 102, 70, 103, 104, 105, 106, 107, 941, 942, 943, 944, 945, 946, 947, 948, 949, 950, 951, 952, 953, 954, 955, 956, 957, 958, 959, 960, 961, 962, 963, 964, 965, 966, 967, 968] (by decide +kernel) (by decide +kernel)
set_option maxRecDepth 20000 in
theorem gL_law_X11_init : GoodIn wsL_law (wsX11_init) := ggL_law_X11_init
set_option maxRecDepth 20000 in
theorem ggL_law_X10_street : GoodIn wsL_law wsX10_street := goodIn_r _ [111, 40, 19, 23, 31, 112, 113, 114, 2, 115, 13, 116, 117, 118, 119, 120, 121, 15, 122, 123, 124, 125, 126, 127, 128, 129, 130, 131, 132, 133, 134, 135, 136, 137, 138, 139, 18, 140, 141, 142, 143, 144, 45, 145, 146, 147, 148, 149, 150, 151, 152, 153, 154, 155, 156, 157, 158, 159, 160, 50, 51, 161, 52, 162, 163, 164, 165, 166, 167, 168, 169, 170, 49, 171, 172, 173, 174, 175, 176, 177, 178, 179, 180, 181, 182, 10, 11, 183, 184, 185, 186, 187, 188, 189, 190, 191, 192, 193, 194, 195, 196, 197, 198, 199, 200, 201, 202, 203, 204, 205, 206, 207, 208, 209, 210, 211, 212, 213, 214, 215, 22, 216, 217, 218, 219, 220, 221, 222, 30, 223, 224, 225, 226, 227, 228, 933, 934, 935, 936, 937, 938, 939, 940, 969, 970, 971, 972, 973, 974, 975, 976, 996, 997, 998, 999, 1000, 1001, 1002, 1003, 1004, 977, 978, 979, 980, 981, 982, 983, 986, 987, 988, 989] (by decide +kernel) (by decide +kernel)
set_option maxRecDepth 20000 in
theorem gL_law_X10_street : GoodIn wsL_law (wsV RL 13 RX10 yX10_street wsX10_street) := goodIn_app (goodIn_of _ (by decide +kernel)) ggL_law_X10_street
set_option maxRecDepth 20000 in
theorem ggL_law_X11_street : GoodIn wsL_law wsX11_street := goodIn_r _ [232, 233, 234, 235, 236, 90, 93, 91, 94, 92, 95, 237, 238, 239, 240, 241, 242, 5, 243, 244, 245, 246, 247, 248, 249, 250, 251, 252, 253, 254, 255, 256, 104, 105, 257, 258, 259, 260, 261, 262, 263, 264, 265, 266, 267, 268, 269, 270, 271, 106, 272, 273, 274, 275, 276, 277, 278, 279, 941, 942, 943, 944, 945, 946, 947, 948, 949, 950, 951, 952, 953, 954, 955, 956, 957, 958, 959, 960, 961, 962, 963, 964, 965, 966, 967, 968] (by decide +kernel) (by decide +kernel)
set_option maxRecDepth 20000 in
theorem gL_law_X11_street : GoodIn wsL_law (wsV RL 17 RX11 yX11_street wsX11_street) := goodIn_app (goodIn_of _ (by decide +kernel)) ggL_law_X11_street
set_option maxRecDepth 20000 in
theorem ggL_law_X10_ofPerson : GoodIn wsL_law wsX10_ofPerson := goodIn_r _ [283, 19, 284, 285, 23, 286, 287, 288, 18, 289, 50, 290, 291, 292, 293, 160, 294, 295, 296, 297, 298, 170, 299, 300, 301, 302, 303, 172, 304, 305, 167, 306, 307, 196, 197, 198, 199, 200, 201, 202, 203, 204, 184, 308, 206, 207, 208, 209, 210, 211, 212, 309, 310, 311, 22, 312, 219, 313, 2, 314, 933, 934, 935, 936, 937, 938, 939, 940, 996, 997, 998, 999, 1000, 1001, 1002, 1003, 1004, 973, 974, 975, 976, 977, 978, 979, 980, 981, 982, 983] (by decide +kernel) (by decide +kernel)
set_option maxRecDepth 20000 in
theorem gL_law_X10_ofPerson : GoodIn wsL_law (wsV RL 18 RX10 yX10_ofPerson wsX10_ofPerson) := goodIn_app (goodIn_of _ (by decide +kernel)) ggL_law_X10_ofPerson
set_option maxRecDepth 20000 in
theorem ggL_law_X11_ofPerson : GoodIn wsL_law wsX11_ofPerson := goodIn_r _ [318, 90, 91, 92, 237, 319, 320, 321, 5, 322, 236, 245, 246, 247, 323, 324, 325, 326, 327, 328, 329, 941, 942, 943, 944, 945, 946, 947, 948, 949, 950, 951, 952, 953, 954, 955, 956, 957, 958, 959, 960, 961, 962, 963, 964, 965, 966, 967, 968] (by decide +kernel) (by decide +kernel)
set_option maxRecDepth 20000 in
theorem gL_law_X11_ofPerson : GoodIn wsL_law (wsV RL 22 RX11 yX11_ofPerson wsX11_ofPerson) := goodIn_app (goodIn_of _ (by decide +kernel)) ggL_law_X11_ofPerson
set_option maxRecDepth 20000 in
theorem ggL_law_X10_word : GoodIn wsL_law wsX10_word := goodIn_r _ [333, 19, 23, 334, 291, 292, 18, 293, 160, 335, 336, 2, 337, 338, 339, 340, 22, 341, 217, 342, 343, 344, 345, 56, 57, 933, 934, 935, 936, 937, 938, 939, 940, 973, 974, 975, 976, 977, 978, 979, 980, 981, 982, 983] (by decide +kernel) (by decide +kernel)
set_option maxRecDepth 20000 in
theorem gL_law_X10_word : GoodIn wsL_law (wsV RL 23 RX10 yX10_word wsX10_word) := goodIn_app (goodIn_of _ (by decide +kernel)) ggL_law_X10_word
set_option maxRecDepth 20000 in
theorem ggL_law_X11_word : GoodIn wsL_law wsX11_word := goodIn_r _ [349, 238, 96, 97, 319, 320, 321, 5, 322, 236, 245, 246, 247, 350, 351, 352, 353, 941, 942, 943, 944, 945, 946, 947, 948, 949, 950, 951, 952, 953, 954, 955, 956, 957, 958, 959, 960, 961, 962, 963, 964, 965, 966, 967, 968] (by decide +kernel) (by decide +kernel)
set_option maxRecDepth 20000 in
theorem gL_law_X11_word : GoodIn wsL_law (wsV RL 26 RX11 yX11_word wsX11_word) := goodIn_app (goodIn_of _ (by decide +kernel)) ggL_law_X11_word
set_option maxRecDepth 20000 in
theorem ggL_law_X10_unsay : GoodIn wsL_law wsX10_unsay := goodIn_r _ [357, 23, 338, 339, 340, 22, 341, 217, 358, 359, 360, 361, 362, 363, 158, 364, 933, 934, 935, 936, 937, 938, 939, 940, 977, 978, 979, 980, 981, 982, 983] (by decide +kernel) (by decide +kernel)
set_option maxRecDepth 20000 in
theorem gL_law_X10_unsay : GoodIn wsL_law (wsV RL 27 RX10 yX10_unsay wsX10_unsay) := goodIn_app (goodIn_of _ (by decide +kernel)) ggL_law_X10_unsay
set_option maxRecDepth 20000 in
theorem ggL_law_X11_unsay : GoodIn wsL_law wsX11_unsay := goodIn_r _ [368, 238, 245, 246, 5, 247, 941, 942, 943, 944, 945, 946, 947, 948, 949, 950, 951, 952, 953, 954, 955, 956, 957, 958, 959, 960, 961, 962, 963, 964, 965, 966, 967, 968] (by decide +kernel) (by decide +kernel)
set_option maxRecDepth 20000 in
theorem gL_law_X11_unsay : GoodIn wsL_law (wsV RL 31 RX11 yX11_unsay wsX11_unsay) := goodIn_app (goodIn_of _ (by decide +kernel)) ggL_law_X11_unsay
set_option maxRecDepth 20000 in
theorem ggL_law_X10_bribe : GoodIn wsL_law wsX10_bribe := goodIn_r _ [372, 19, 23, 334, 291, 292, 18, 293, 160, 309, 310, 311, 22, 312, 219, 313, 2, 314, 373, 374, 375, 376, 377, 378, 379, 380, 933, 934, 935, 936, 937, 938, 939, 940, 973, 974, 975, 976, 977, 978, 979, 980, 981, 982, 983] (by decide +kernel) (by decide +kernel)
set_option maxRecDepth 20000 in
theorem gL_law_X10_bribe : GoodIn wsL_law (wsV RL 32 RX10 yX10_bribe wsX10_bribe) := goodIn_app (goodIn_of _ (by decide +kernel)) ggL_law_X10_bribe
set_option maxRecDepth 20000 in
theorem ggL_law_X11_bribe : GoodIn wsL_law wsX11_bribe := goodIn_r _ [384, 237, 319, 320, 321, 5, 322, 236, 245, 246, 247, 327, 328, 329, 941, 942, 943, 944, 945, 946, 947, 948, 949, 950, 951, 952, 953, 954, 955, 956, 957, 958, 959, 960, 961, 962, 963, 964, 965, 966, 967, 968] (by decide +kernel) (by decide +kernel)
set_option maxRecDepth 20000 in
theorem gL_law_X11_bribe : GoodIn wsL_law (wsV RL 36 RX11 yX11_bribe wsX11_bribe) := goodIn_app (goodIn_of _ (by decide +kernel)) ggL_law_X11_bribe
set_option maxRecDepth 20000 in
theorem ggL_law_X10_whisper : GoodIn wsL_law wsX10_whisper := goodIn_r _ [388, 19, 23, 334, 291, 292, 18, 293, 160, 389, 390, 391, 22, 392, 218, 393, 394, 395, 396, 58, 59, 933, 934, 935, 936, 937, 938, 939, 940, 973, 974, 975, 976, 977, 978, 979, 980, 981, 982, 983] (by decide +kernel) (by decide +kernel)
set_option maxRecDepth 20000 in
theorem gL_law_X10_whisper : GoodIn wsL_law (wsV RL 37 RX10 yX10_whisper wsX10_whisper) := goodIn_app (goodIn_of _ (by decide +kernel)) ggL_law_X10_whisper
set_option maxRecDepth 20000 in
theorem ggL_law_X11_whisper : GoodIn wsL_law wsX11_whisper := goodIn_r _ [400, 239, 98, 99, 319, 320, 321, 5, 322, 236, 245, 246, 247, 941, 942, 943, 944, 945, 946, 947, 948, 949, 950, 951, 952, 953, 954, 955, 956, 957, 958, 959, 960, 961, 962, 963, 964, 965, 966, 967, 968] (by decide +kernel) (by decide +kernel)
set_option maxRecDepth 20000 in
theorem gL_law_X11_whisper : GoodIn wsL_law (wsV RL 40 RX11 yX11_whisper wsX11_whisper) := goodIn_app (goodIn_of _ (by decide +kernel)) ggL_law_X11_whisper
set_option maxRecDepth 20000 in
theorem ggL_law_X10_forget : GoodIn wsL_law wsX10_forget := goodIn_r _ [404, 23, 389, 390, 391, 22, 392, 218, 405, 406, 407, 408, 362, 363, 158, 364, 933, 934, 935, 936, 937, 938, 939, 940, 977, 978, 979, 980, 981, 982, 983] (by decide +kernel) (by decide +kernel)
set_option maxRecDepth 20000 in
theorem gL_law_X10_forget : GoodIn wsL_law (wsV RL 41 RX10 yX10_forget wsX10_forget) := goodIn_app (goodIn_of _ (by decide +kernel)) ggL_law_X10_forget
set_option maxRecDepth 20000 in
theorem ggL_law_X11_forget : GoodIn wsL_law wsX11_forget := goodIn_r _ [412, 239, 245, 246, 5, 247, 941, 942, 943, 944, 945, 946, 947, 948, 949, 950, 951, 952, 953, 954, 955, 956, 957, 958, 959, 960, 961, 962, 963, 964, 965, 966, 967, 968] (by decide +kernel) (by decide +kernel)
set_option maxRecDepth 20000 in
theorem gL_law_X11_forget : GoodIn wsL_law (wsV RL 44 RX11 yX11_forget wsX11_forget) := goodIn_app (goodIn_of _ (by decide +kernel)) ggL_law_X11_forget
set_option maxRecDepth 20000 in
theorem ggL_law_X10_says : GoodIn wsL_law wsX10_says := goodIn_r _ [416, 19, 27, 23, 334, 291, 292, 18, 293, 160, 417, 418, 419, 26, 420, 63, 421, 422, 423, 22, 424, 217, 57, 425, 426, 427, 428, 64, 429, 226, 227, 228, 430, 431, 432, 433, 51, 434, 435, 436, 437, 56, 218, 58, 59, 438, 439, 440, 441, 442, 443, 444, 445, 446, 374, 375, 376, 219, 447, 448, 449, 450, 451, 452, 453, 313, 2, 314, 454, 455, 456, 457, 52, 458, 459, 460, 461, 933, 934, 935, 936, 937, 938, 939, 940, 973, 974, 975, 976, 984, 985, 977, 978, 979, 980, 981, 982, 983] (by decide +kernel) (by decide +kernel)
set_option maxRecDepth 20000 in
theorem gL_law_X10_says : GoodIn wsL_law (wsV RL 45 RX10 yX10_says wsX10_says) := goodIn_app (goodIn_of _ (by decide +kernel)) ggL_law_X10_says
