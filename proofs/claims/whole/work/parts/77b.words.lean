set_option maxRecDepth 20000 in
theorem in_wsL_law_r14 : ∀ w ∈ wsL_law_r14, w ∈ lw_tbl := fun w h => (goodIn_r wsL_law_r14 [370, 372, 373, 903, 904, 905, 906, 907, 909, 17, 910, 911, 913, 18, 914, 915, 916, 917, 374, 375, 376, 377, 378, 379] (by decide +kernel) (by decide +kernel) w h).1
set_option maxRecDepth 20000 in
theorem in_wsL_law_r15 : ∀ w ∈ wsL_law_r15, w ∈ lw_tbl := fun w h => (goodIn_r wsL_law_r15 [380, 381, 382, 383, 384, 385, 386, 387, 388, 389, 918, 919, 920, 921, 922, 923, 924, 925, 390, 391, 392, 393, 394, 395] (by decide +kernel) (by decide +kernel) w h).1
set_option maxRecDepth 20000 in
theorem in_wsL_law_r16 : ∀ w ∈ wsL_law_r16, w ∈ lw_tbl := fun w h => (goodIn_r wsL_law_r16 [396, 397, 398, 399, 400, 926, 927, 928, 929, 401, 402, 403, 404, 405, 406, 407, 408, 409, 410, 411, 412, 930, 931, 932] (by decide +kernel) (by decide +kernel) w h).1
set_option maxRecDepth 20000 in
theorem in_wsL_law_r17 : ∀ w ∈ wsL_law_r17, w ∈ lw_tbl := fun w h => (goodIn_r wsL_law_r17 [933, 413, 414, 415, 416, 417, 418, 419, 420, 421, 422, 423, 424, 934, 935, 936, 937, 425, 426, 427, 428, 429, 430, 431] (by decide +kernel) (by decide +kernel) w h).1
set_option maxRecDepth 20000 in
theorem in_wsL_law_r18 : ∀ w ∈ wsL_law_r18, w ∈ lw_tbl := fun w h => (goodIn_r wsL_law_r18 [432, 938, 939, 940, 941, 433, 434, 435, 436, 437, 438, 439, 440, 441, 442, 443, 444, 445, 447, 3, 448, 449, 450, 451] (by decide +kernel) (by decide +kernel) w h).1
set_option maxRecDepth 20000 in
theorem in_wsL_law_r19 : ∀ w ∈ wsL_law_r19, w ∈ lw_tbl := fun w h => (goodIn_r wsL_law_r19 [452, 453, 454, 455, 456, 457, 458, 460, 4, 461, 462, 463, 464, 465, 466, 467, 468, 48, 469, 470, 471, 472, 474, 475] (by decide +kernel) (by decide +kernel) w h).1
set_option maxRecDepth 20000 in
theorem in_wsL_law_r20 : ∀ w ∈ wsL_law_r20, w ∈ lw_tbl := fun w h => (goodIn_r wsL_law_r20 [476, 477, 478, 479, 480, 481, 942, 943, 944, 945, 946, 948, 19, 949, 950, 952, 20, 953, 954, 956, 21, 957, 958, 960] (by decide +kernel) (by decide +kernel) w h).1
set_option maxRecDepth 20000 in
theorem in_wsL_law_r21 : ∀ w ∈ wsL_law_r21, w ∈ lw_tbl := fun w h => (goodIn_r wsL_law_r21 [22, 961, 962, 964, 23, 965, 966, 967, 968, 969, 971, 24, 972, 792, 973, 975, 25, 976, 482, 483, 484, 485, 486, 487] (by decide +kernel) (by decide +kernel) w h).1
set_option maxRecDepth 20000 in
theorem in_wsL_law_r22 : ∀ w ∈ wsL_law_r22, w ∈ lw_tbl := fun w h => (goodIn_r wsL_law_r22 [488, 489, 490, 491, 492, 493, 977, 978, 979, 980, 981, 983, 26, 984, 495, 496, 497, 498, 499, 500, 501, 985, 986, 987] (by decide +kernel) (by decide +kernel) w h).1
set_option maxRecDepth 20000 in
theorem in_wsL_law_r23 : ∀ w ∈ wsL_law_r23, w ∈ lw_tbl := fun w h => (goodIn_r wsL_law_r23 [988, 502, 503, 504, 505, 989, 990, 991, 992, 993, 995, 27, 996, 506, 507, 508, 509, 510, 511, 512, 513, 997, 998, 999] (by decide +kernel) (by decide +kernel) w h).1
set_option maxRecDepth 20000 in
theorem in_wsL_law_r24 : ∀ w ∈ wsL_law_r24, w ∈ lw_tbl := fun w h => (goodIn_r wsL_law_r24 [1000, 514, 515, 516, 517, 518, 519, 520, 521, 522, 523, 524, 525, 526, 527, 529, 5, 530, 531, 532, 533, 534, 535, 536] (by decide +kernel) (by decide +kernel) w h).1
set_option maxRecDepth 20000 in
theorem in_wsL_law_r25 : ∀ w ∈ wsL_law_r25, w ∈ lw_tbl := fun w h => (goodIn_r wsL_law_r25 [537, 538, 540, 541, 543, 6, 544, 545, 546, 547, 1001, 1002, 1003, 1004, 1005, 1007, 28, 1008, 548, 549, 550, 551, 552, 553] (by decide +kernel) (by decide +kernel) w h).1
set_option maxRecDepth 20000 in
theorem in_wsL_law_r26 : ∀ w ∈ wsL_law_r26, w ∈ lw_tbl := fun w h => (goodIn_r wsL_law_r26 [554, 555, 556, 1009, 1010, 1011, 1012, 557, 558, 559, 560, 561, 562, 563, 564, 565, 567, 7, 568, 569, 570, 571, 572, 573] (by decide +kernel) (by decide +kernel) w h).1
