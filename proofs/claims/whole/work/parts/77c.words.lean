set_option maxRecDepth 20000 in
theorem in_wsL_law_r27 : ∀ w ∈ wsL_law_r27, w ∈ lw_tbl := fun w h => (goodIn_r wsL_law_r27 [574, 1013, 1014, 1015, 1016, 575, 576, 577, 578, 579, 580, 581, 582, 583, 584, 585, 586, 587, 1017, 1018, 1019, 1020, 588, 589] (by decide +kernel) (by decide +kernel) w h).1
set_option maxRecDepth 20000 in
theorem in_wsL_law_r28 : ∀ w ∈ wsL_law_r28, w ∈ lw_tbl := fun w h => (goodIn_r wsL_law_r28 [590, 591, 592, 594, 8, 595, 596, 597, 598, 1021, 1022, 1023, 1024, 1025, 1027, 29, 1028, 599, 600, 601, 602, 603, 604, 605] (by decide +kernel) (by decide +kernel) w h).1
set_option maxRecDepth 20000 in
theorem in_wsL_law_r29 : ∀ w ∈ wsL_law_r29, w ∈ lw_tbl := fun w h => (goodIn_r wsL_law_r29 [606, 607, 608, 609, 610, 1029, 1030, 1031, 1032, 611, 612, 613, 614, 615, 616, 617, 618, 619, 1033, 1034, 1035, 1036, 620, 621] (by decide +kernel) (by decide +kernel) w h).1
set_option maxRecDepth 20000 in
theorem in_wsL_law_r30 : ∀ w ∈ wsL_law_r30, w ∈ lw_tbl := fun w h => (goodIn_r wsL_law_r30 [622, 623, 624, 625, 626, 627, 628, 629, 630, 631, 632, 1037, 1038, 1039, 1040, 1041, 1043, 30, 1044, 634, 635, 636, 637, 638] (by decide +kernel) (by decide +kernel) w h).1
set_option maxRecDepth 20000 in
theorem in_wsL_law_r31 : ∀ w ∈ wsL_law_r31, w ∈ lw_tbl := fun w h => (goodIn_r wsL_law_r31 [639, 640, 641, 1045, 1046, 1047, 1048, 642, 643, 644, 645, 646, 647, 648, 649, 650, 1049, 1050, 1051, 1052, 1053, 1054, 1055, 1056] (by decide +kernel) (by decide +kernel) w h).1
set_option maxRecDepth 20000 in
theorem in_wsL_law_r32 : ∀ w ∈ wsL_law_r32, w ∈ lw_tbl := fun w h => (goodIn_r wsL_law_r32 [1057, 1058, 1059, 651, 652, 653, 654, 655, 656, 657, 658, 659, 1060, 1061, 1062, 1063, 660, 661, 662, 663, 664, 665, 666, 667] (by decide +kernel) (by decide +kernel) w h).1
set_option maxRecDepth 20000 in
theorem in_wsL_law_r33 : ∀ w ∈ wsL_law_r33, w ∈ lw_tbl := fun w h => (goodIn_r wsL_law_r33 [668, 669, 670, 671, 1064, 1065, 1066, 1067, 672, 673, 674, 675, 676, 677, 678, 679, 680, 681, 683, 9, 684, 1068, 1069, 1070] (by decide +kernel) (by decide +kernel) w h).1
set_option maxRecDepth 20000 in
theorem in_wsL_law_r34 : ∀ w ∈ wsL_law_r34, w ∈ lw_tbl := fun w h => (goodIn_r wsL_law_r34 [1071, 1072, 1074, 31, 1075, 685, 686, 687, 688, 689, 1076, 1077, 1078, 1079, 1080, 1082, 32, 1083, 690, 691, 692, 693, 694, 695] (by decide +kernel) (by decide +kernel) w h).1
set_option maxRecDepth 20000 in
theorem in_wsL_law_r35 : ∀ w ∈ wsL_law_r35, w ∈ lw_tbl := fun w h => (goodIn_r wsL_law_r35 [696, 697, 698, 699, 700, 701, 702, 703, 705, 704, 49, 1084, 1085, 1086, 1087, 706, 707, 708, 709, 710, 713, 711, 714, 715] (by decide +kernel) (by decide +kernel) w h).1
set_option maxRecDepth 20000 in
theorem in_wsL_law_r36 : ∀ w ∈ wsL_law_r36, w ∈ lw_tbl := fun w h => (goodIn_r wsL_law_r36 [716, 717, 718, 719, 720, 193, 721, 711, 734, 735, 1118, 1119, 731, 732, 733, 735, 1120, 1121, 710, 712, 722, 723, 724, 725] (by decide +kernel) (by decide +kernel) w h).1
set_option maxRecDepth 20000 in
theorem in_wsL_law_r37 : ∀ w ∈ wsL_law_r37, w ∈ lw_tbl := fun w h => (goodIn_r wsL_law_r37 [726, 1117, 727, 728, 730, 1088, 1089, 1090, 1091, 1092, 1094, 33, 1095, 802, 736, 737, 738, 739, 740, 743, 744, 741, 748, 740] (by decide +kernel) (by decide +kernel) w h).1
set_option maxRecDepth 20000 in
theorem in_wsL_law_r38 : ∀ w ∈ wsL_law_r38, w ∈ lw_tbl := fun w h => (goodIn_r wsL_law_r38 [742, 741, 745, 746, 747, 1096, 1097, 1098, 1099, 749, 750, 751, 752, 1100, 1101, 1102, 1103, 753, 754, 755, 756, 757, 758, 759] (by decide +kernel) (by decide +kernel) w h).1
set_option maxRecDepth 20000 in
theorem in_wsL_law_r39 : ∀ w ∈ wsL_law_r39, w ∈ lw_tbl := fun w h => (goodIn_r wsL_law_r39 [760, 1104, 1105, 1106, 1107, 761, 762, 763, 764, 1108, 1109, 1110, 1111, 765, 766, 767, 768, 1112, 1113, 1114, 1115] (by decide +kernel) (by decide +kernel) w h).1
