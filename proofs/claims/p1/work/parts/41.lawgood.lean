set_option maxRecDepth 20000 in
theorem gw_law_0 : GoodIn lw_tbl (wsV RL 13 RX7 yX7_feed wk_k_feed) := goodIn_r _ [400, 401, 402, 62, 403, 384, 404, 405, 406, 63, 407, 93, 408, 409, 410, 411, 412, 92, 94, 389, 391, 393, 395, 397, 96, 98] (by decide +kernel) (by decide +kernel)
set_option maxRecDepth 20000 in
theorem gw_law_1 : GoodIn lw_tbl (wsV RL 17 RX8 yX8_feed wk_k_mfeed) := goodIn_r _ [1150, 1151, 1152, 71, 1153, 804, 802, 842, 844, 846, 848, 850, 852, 854, 856, 858, 860, 862, 864, 866, 868, 870, 872, 874, 876, 878, 880, 882, 884, 886, 888, 890, 892, 894, 896, 898, 900, 902, 904, 906, 908, 910, 912, 914, 916, 918, 920] (by decide +kernel) (by decide +kernel)
set_option maxRecDepth 20000 in
theorem gw_law_2 : GoodIn lw_tbl (wsV RL 18 RX7 yX7_end wk_k_end) := goodIn_r _ [413, 414, 415, 62, 416, 384, 94, 389, 391, 393, 395, 397, 96, 98] (by decide +kernel) (by decide +kernel)
set_option maxRecDepth 20000 in
theorem gw_law_3 : GoodIn lw_tbl (wsV RL 22 RX8 yX8_end wk_k_mend) := goodIn_r _ [1154, 1155, 1156, 71, 1157, 804, 842, 844, 846, 848, 850, 852, 854, 856, 858, 860, 862, 864, 866, 868, 870, 872, 874, 876, 878, 880, 882, 884, 886, 888, 890, 892, 894, 896, 898, 900, 902, 904, 906, 908, 910, 912, 914, 916, 918, 920] (by decide +kernel) (by decide +kernel)
set_option maxRecDepth 20000 in
theorem gw_law_4 : GoodIn lw_tbl (wsV RL 23 RX7 yX7_book wk_k_book) := goodIn_r _ [417, 418, 419, 62, 420, 385, 421, 422, 423, 64, 424, 229, 425, 426, 427, 65, 428, 115, 123, 230, 429, 144, 145, 66, 146, 150, 154, 178, 147, 148, 67, 149, 182, 186, 190, 193, 232, 234, 430, 431, 432, 433, 119, 434, 436, 2, 437, 114, 95, 117, 445, 447, 3, 448, 438, 439, 440, 63, 441, 93, 236, 118, 581, 251, 252, 253, 264, 266, 1, 267, 254, 255, 256, 271, 197, 257, 259, 0, 260, 62, 262, 263, 386, 231, 582, 583, 584, 585, 157, 586, 587, 588, 589, 590, 76, 591, 592, 594, 593, 77, 160, 163, 166, 169, 172, 175, 384, 94, 387, 280, 595, 597, 19, 598, 388, 599, 600, 601, 69, 602, 347, 349, 350, 351, 153, 389, 391, 393, 395, 397, 237, 239, 241, 243, 245, 124, 126, 128, 130, 132, 134, 198, 200, 202, 204, 206, 208, 210, 212, 214, 216, 218, 220, 222, 224, 226, 96, 98, 290, 292, 294, 296, 298, 300, 302, 357, 359, 361, 363, 365, 367, 369, 371, 373, 375, 377, 379, 381] (by decide +kernel) (by decide +kernel)
set_option maxRecDepth 20000 in
theorem gw_law_5 : GoodIn lw_tbl (wsV RL 27 RX8 yX8_book wk_k_mbook) := goodIn_r _ [923, 924, 925, 71, 926, 806, 807, 804, 805, 809, 827, 828, 797, 799, 28, 71, 800, 813, 814, 826, 801, 824, 823, 822, 825, 927, 929, 29, 930, 808, 931, 933, 30, 934, 810, 945, 947, 32, 948, 835, 842, 844, 846, 848, 850, 852, 854, 856, 858, 860, 862, 864, 866, 868, 870, 872, 874, 876, 878, 880, 882, 884, 886, 888, 890, 892, 894, 896, 898, 900, 902, 904, 906, 908, 910, 912, 914, 916, 918, 920] (by decide +kernel) (by decide +kernel)
set_option maxRecDepth 20000 in
theorem gw_law_6 : GoodIn lw_tbl (wsV RL 28 RX7 yX7_fault wk_k_fault) := goodIn_r _ [604, 605, 606, 62, 607, 385, 233, 235, 389, 391, 393, 395, 397, 237, 239, 241, 243, 245] (by decide +kernel) (by decide +kernel)
set_option maxRecDepth 20000 in
theorem gw_law_7 : GoodIn lw_tbl (wsV RL 31 RX8 yX8_fault wk_k_mfault) := goodIn_r _ [1008, 1009, 1010, 71, 1011, 807, 806, 842, 844, 846, 848, 850, 852, 854, 856, 858, 860, 862, 864, 866, 868, 870, 872, 874, 876, 878, 880, 882, 884, 886, 888, 890, 892, 894, 896, 898, 900, 902, 904, 906, 908, 910, 912, 914, 916, 918, 920] (by decide +kernel) (by decide +kernel)
set_option maxRecDepth 20000 in
theorem gw_law_8 : GoodIn lw_tbl (wsV RL 32 RX7 yX7_flight wk_k_flight) := goodIn_r _ [608, 609, 610, 62, 611, 612, 613, 62, 614, 387, 615, 616, 617, 68, 618, 279, 281, 283, 285, 286, 278, 194, 289, 595, 597, 19, 598, 388, 599, 600, 601, 69, 602, 347, 349, 350, 351, 389, 391, 393, 395, 397, 290, 292, 294, 296, 298, 300, 302, 198, 200, 202, 204, 206, 208, 210, 212, 214, 216, 218, 220, 222, 224, 226, 357, 359, 361, 363, 365, 367, 369, 371, 373, 375, 377, 379, 381] (by decide +kernel) (by decide +kernel)
set_option maxRecDepth 20000 in
theorem gw_law_9 : GoodIn lw_tbl (wsV RL 36 RX8 yX8_flight wk_k_mflight) := goodIn_r _ [1046, 1047, 1048, 71, 1049, 1050, 1051, 71, 1052, 830, 831, 832, 833, 834, 835, 842, 844, 846, 848, 850, 852, 854, 856, 858, 860, 862, 864, 866, 868, 870, 872, 874, 876, 878, 880, 882, 884, 886, 888, 890, 892, 894, 896, 898, 900, 902, 904, 906, 908, 910, 912, 914, 916, 918, 920] (by decide +kernel) (by decide +kernel)
set_option maxRecDepth 20000 in
theorem gw_law_10 : GoodIn lw_tbl (wsV RL 37 RX7 yX7_told wk_k_told) := goodIn_r _ [619, 620, 621, 62, 622, 612, 613, 62, 614, 386, 181, 153, 189, 624, 262, 263, 192, 196, 389, 391, 393, 395, 397, 198, 200, 202, 204, 206, 208, 210, 212, 214, 216, 218, 220, 222, 224, 226] (by decide +kernel) (by decide +kernel)
set_option maxRecDepth 20000 in
theorem gw_law_11 : GoodIn lw_tbl (wsV RL 41 RX8 yX8_told wk_k_mtold) := goodIn_r _ [1012, 1013, 1014, 71, 1015, 1016, 1017, 71, 1018, 1019, 1021, 44, 1022, 822, 827, 801, 1023, 1024, 1025, 1026, 1028, 45, 1029, 814, 1034, 1036, 47, 1037, 824, 1038, 1040, 48, 1041, 825, 1042, 1044, 49, 1045, 826, 978, 842, 844, 846, 848, 850, 852, 854, 856, 858, 860, 862, 864, 866, 868, 870, 872, 874, 876, 878, 880, 882, 884, 886, 888, 890, 892, 894, 896, 898, 900, 902, 904, 906, 908, 910, 912, 914, 916, 918, 920] (by decide +kernel) (by decide +kernel)
set_option maxRecDepth 20000 in
theorem gw_law_12 : GoodIn lw_tbl (wsV RL 42 RX7 yX7_minutes wk_k_minutes) := goodIn_r _ [625, 626, 627, 62, 628, 387, 280, 389, 391, 393, 395, 397, 290, 292, 294, 296, 298, 300, 302] (by decide +kernel) (by decide +kernel)
set_option maxRecDepth 20000 in
theorem gw_law_13 : GoodIn lw_tbl (wsV RL 46 RX8 yX8_minutes wk_k_mminutes) := goodIn_r _ [1053, 1054, 1055, 71, 1056, 1057, 1059, 50, 71, 1060, 835, 842, 844, 846, 848, 850, 852, 854, 856, 858, 860, 862, 864, 866, 868, 870, 872, 874, 876, 878, 880, 882, 884, 886, 888, 890, 892, 894, 896, 898, 900, 902, 904, 906, 908, 910, 912, 914, 916, 918, 920] (by decide +kernel) (by decide +kernel)
set_option maxRecDepth 20000 in
theorem gw_law_14 : GoodIn lw_tbl (wsV RL 47 RX7 yX7_fuel wk_k_fuel) := goodIn_r _ [634, 635, 636, 62, 637, 638, 626, 627, 62, 628, 387, 280, 389, 391, 393, 395, 397, 290, 292, 294, 296, 298, 300, 302] (by decide +kernel) (by decide +kernel)
set_option maxRecDepth 20000 in
theorem gw_law_15 : GoodIn lw_tbl (wsV RL 50 RX8 yX8_fuel wk_k_mfuel) := goodIn_r _ [1065, 1066, 1067, 71, 1068, 1057, 1059, 50, 71, 1060, 835, 842, 844, 846, 848, 850, 852, 854, 856, 858, 860, 862, 864, 866, 868, 870, 872, 874, 876, 878, 880, 882, 884, 886, 888, 890, 892, 894, 896, 898, 900, 902, 904, 906, 908, 910, 912, 914, 916, 918, 920] (by decide +kernel) (by decide +kernel)
set_option maxRecDepth 20000 in
theorem gw_law_16 : GoodIn lw_tbl (wsV RL 51 RX7 yX7_need wk_k_need) := goodIn_r _ [646, 647, 648, 62, 649, 650, 652, 20, 62, 653, 387, 280, 389, 391, 393, 395, 397, 290, 292, 294, 296, 298, 300, 302] (by decide +kernel) (by decide +kernel)
set_option maxRecDepth 20000 in
theorem gw_law_17 : GoodIn lw_tbl (wsV RL 54 RX8 yX8_need wk_k_mneed) := goodIn_r _ [1073, 1074, 1075, 71, 1076, 1077, 1079, 53, 71, 1080, 839, 835, 842, 844, 846, 848, 850, 852, 854, 856, 858, 860, 862, 864, 866, 868, 870, 872, 874, 876, 878, 880, 882, 884, 886, 888, 890, 892, 894, 896, 898, 900, 902, 904, 906, 908, 910, 912, 914, 916, 918, 920] (by decide +kernel) (by decide +kernel)
set_option maxRecDepth 20000 in
theorem gw_law_18 : GoodIn lw_tbl (wsV RL 55 RX7 yX7_legs wk_k_legs) := goodIn_r _ [703, 704, 705, 62, 706, 650, 652, 20, 62, 653, 387, 280, 389, 391, 393, 395, 397, 290, 292, 294, 296, 298, 300, 302] (by decide +kernel) (by decide +kernel)
set_option maxRecDepth 20000 in
theorem gw_law_19 : GoodIn lw_tbl (wsV RL 58 RX8 yX8_legs wk_k_mlegs) := goodIn_r _ [1094, 1095, 1096, 71, 1097, 1077, 1079, 53, 71, 1080, 839, 835, 842, 844, 846, 848, 850, 852, 854, 856, 858, 860, 862, 864, 866, 868, 870, 872, 874, 876, 878, 880, 882, 884, 886, 888, 890, 892, 894, 896, 898, 900, 902, 904, 906, 908, 910, 912, 914, 916, 918, 920] (by decide +kernel) (by decide +kernel)
set_option maxRecDepth 20000 in
theorem gw_law_20 : GoodIn lw_tbl (wsV RL 59 RX7 yX7_leg wk_k_leg) := goodIn_r _ [707, 708, 709, 62, 710, 650, 652, 20, 62, 653, 387, 280, 389, 391, 393, 395, 397, 290, 292, 294, 296, 298, 300, 302] (by decide +kernel) (by decide +kernel)
set_option maxRecDepth 20000 in
theorem gw_law_21 : GoodIn lw_tbl (wsV RL 62 RX8 yX8_leg wk_k_mleg) := goodIn_r _ [1098, 1099, 1100, 71, 1101, 1077, 1079, 53, 71, 1080, 839, 835, 842, 844, 846, 848, 850, 852, 854, 856, 858, 860, 862, 864, 866, 868, 870, 872, 874, 876, 878, 880, 882, 884, 886, 888, 890, 892, 894, 896, 898, 900, 902, 904, 906, 908, 910, 912, 914, 916, 918, 920] (by decide +kernel) (by decide +kernel)
set_option maxRecDepth 20000 in
theorem gw_law_22 : GoodIn lw_tbl (wsV RL 63 RX7 yX7_time wk_k_time) := goodIn_r _ [715, 716, 717, 62, 718, 650, 652, 20, 62, 653, 387, 280, 389, 391, 393, 395, 397, 290, 292, 294, 296, 298, 300, 302] (by decide +kernel) (by decide +kernel)
set_option maxRecDepth 20000 in
theorem gw_law_23 : GoodIn lw_tbl (wsV RL 66 RX8 yX8_time wk_k_mtime) := goodIn_r _ [1106, 1107, 1108, 71, 1109, 1077, 1079, 53, 71, 1080, 839, 835, 842, 844, 846, 848, 850, 852, 854, 856, 858, 860, 862, 864, 866, 868, 870, 872, 874, 876, 878, 880, 882, 884, 886, 888, 890, 892, 894, 896, 898, 900, 902, 904, 906, 908, 910, 912, 914, 916, 918, 920] (by decide +kernel) (by decide +kernel)
set_option maxRecDepth 20000 in
theorem gw_law_24 : GoodIn lw_tbl (wsV RL 67 RX7 yX7_legal wk_k_legal) := goodIn_r _ [719, 720, 721, 62, 722, 650, 652, 20, 62, 653, 387, 280, 389, 391, 393, 395, 397, 290, 292, 294, 296, 298, 300, 302] (by decide +kernel) (by decide +kernel)
set_option maxRecDepth 20000 in
theorem gw_law_25 : GoodIn lw_tbl (wsV RL 70 RX8 yX8_legal wk_k_mlegal) := goodIn_r _ [1110, 1111, 1112, 71, 1113, 1077, 1079, 53, 71, 1080, 839, 835, 842, 844, 846, 848, 850, 852, 854, 856, 858, 860, 862, 864, 866, 868, 870, 872, 874, 876, 878, 880, 882, 884, 886, 888, 890, 892, 894, 896, 898, 900, 902, 904, 906, 908, 910, 912, 914, 916, 918, 920] (by decide +kernel) (by decide +kernel)
set_option maxRecDepth 20000 in
theorem gw_law_26 : GoodIn lw_tbl (wsV RL 71 RX7 yX7_borne wk_k_borne) := goodIn_r _ [727, 728, 729, 62, 730, 650, 652, 20, 62, 653, 387, 280, 389, 391, 393, 395, 397, 290, 292, 294, 296, 298, 300, 302] (by decide +kernel) (by decide +kernel)
set_option maxRecDepth 20000 in
theorem gw_law_27 : GoodIn lw_tbl (wsV RL 74 RX8 yX8_borne wk_k_mborne) := goodIn_r _ [1118, 1119, 1120, 71, 1121, 835, 842, 844, 846, 848, 850, 852, 854, 856, 858, 860, 862, 864, 866, 868, 870, 872, 874, 876, 878, 880, 882, 884, 886, 888, 890, 892, 894, 896, 898, 900, 902, 904, 906, 908, 910, 912, 914, 916, 918, 920] (by decide +kernel) (by decide +kernel)
set_option maxRecDepth 20000 in
theorem gw_law_28 : GoodIn lw_tbl (wsV RL 75 RX7 yX7_at wk_k_at) := goodIn_r _ [740, 741, 742, 62, 743, 650, 652, 20, 62, 653, 387, 280, 389, 391, 393, 395, 397, 290, 292, 294, 296, 298, 300, 302] (by decide +kernel) (by decide +kernel)
set_option maxRecDepth 20000 in
theorem gw_law_29 : GoodIn lw_tbl (wsV RL 78 RX8 yX8_at wk_k_mat) := goodIn_r _ [1122, 1123, 1124, 71, 1125, 1126, 1128, 59, 71, 1129, 1077, 1079, 53, 1080, 839, 835, 842, 844, 846, 848, 850, 852, 854, 856, 858, 860, 862, 864, 866, 868, 870, 872, 874, 876, 878, 880, 882, 884, 886, 888, 890, 892, 894, 896, 898, 900, 902, 904, 906, 908, 910, 912, 914, 916, 918, 920] (by decide +kernel) (by decide +kernel)
set_option maxRecDepth 20000 in
theorem gw_law_30 : GoodIn lw_tbl (wsV RL 79 RX7 yX7_home wk_k_home) := goodIn_r _ [760, 761, 762, 62, 763, 650, 652, 20, 62, 653, 387, 280, 389, 391, 393, 395, 397, 290, 292, 294, 296, 298, 300, 302] (by decide +kernel) (by decide +kernel)
set_option maxRecDepth 20000 in
theorem gw_law_31 : GoodIn lw_tbl (wsV RL 83 RX8 yX8_home wk_k_mhome) := goodIn_r _ [1130, 1131, 1132, 71, 1133, 1077, 1079, 53, 71, 1080, 839, 835, 842, 844, 846, 848, 850, 852, 854, 856, 858, 860, 862, 864, 866, 868, 870, 872, 874, 876, 878, 880, 882, 884, 886, 888, 890, 892, 894, 896, 898, 900, 902, 904, 906, 908, 910, 912, 914, 916, 918, 920] (by decide +kernel) (by decide +kernel)
set_option maxRecDepth 20000 in
theorem gw_law_32 : GoodIn lw_tbl (wsV RL 84 RX7 yX7_lastReturn wk_k_lastReturn) := goodIn_r _ [769, 770, 771, 62, 772, 650, 652, 20, 62, 653, 387, 280, 389, 391, 393, 395, 397, 290, 292, 294, 296, 298, 300, 302] (by decide +kernel) (by decide +kernel)
set_option maxRecDepth 20000 in
theorem gw_law_33 : GoodIn lw_tbl (wsV RL 87 RX8 yX8_lastReturn wk_k_mlastReturn) := goodIn_r _ [1138, 1139, 1140, 71, 1141, 1126, 1128, 59, 71, 1129, 1077, 1079, 53, 1080, 839, 835, 842, 844, 846, 848, 850, 852, 854, 856, 858, 860, 862, 864, 866, 868, 870, 872, 874, 876, 878, 880, 882, 884, 886, 888, 890, 892, 894, 896, 898, 900, 902, 904, 906, 908, 910, 912, 914, 916, 918, 920] (by decide +kernel) (by decide +kernel)
set_option maxRecDepth 20000 in
theorem gw_law_34 : GoodIn lw_tbl (wsV RL 88 RX7 yX7_carry wk_k_carry) := goodIn_r _ [773, 774, 775, 62, 776, 650, 652, 20, 62, 653, 387, 280, 389, 391, 393, 395, 397, 290, 292, 294, 296, 298, 300, 302] (by decide +kernel) (by decide +kernel)
set_option maxRecDepth 20000 in
theorem gw_law_35 : GoodIn lw_tbl (wsV RL 91 RX8 yX8_carry wk_k_mcarry) := goodIn_r _ [1142, 1143, 1144, 71, 1145, 1077, 1079, 53, 71, 1080, 839, 835, 842, 844, 846, 848, 850, 852, 854, 856, 858, 860, 862, 864, 866, 868, 870, 872, 874, 876, 878, 880, 882, 884, 886, 888, 890, 892, 894, 896, 898, 900, 902, 904, 906, 908, 910, 912, 914, 916, 918, 920] (by decide +kernel) (by decide +kernel)
set_option maxRecDepth 20000 in
theorem gw_law_36 : GoodIn lw_tbl (wsV RL 92 RX7 yX7_about wk_k_about) := goodIn_r _ [787, 788, 789, 62, 790, 386, 153, 156, 387, 280, 384, 94, 389, 391, 393, 395, 397, 198, 200, 202, 204, 206, 208, 210, 212, 214, 216, 218, 220, 222, 224, 226, 290, 292, 294, 296, 298, 300, 302, 96, 98] (by decide +kernel) (by decide +kernel)
set_option maxRecDepth 20000 in
theorem gw_law_37 : GoodIn lw_tbl (wsV RL 95 RX8 yX8_about wk_k_mabout) := goodIn_r _ [1146, 1147, 1148, 71, 1149, 814, 827, 813, 835, 804, 842, 844, 846, 848, 850, 852, 854, 856, 858, 860, 862, 864, 866, 868, 870, 872, 874, 876, 878, 880, 882, 884, 886, 888, 890, 892, 894, 896, 898, 900, 902, 904, 906, 908, 910, 912, 914, 916, 918, 920] (by decide +kernel) (by decide +kernel)
set_option maxRecDepth 20000 in
theorem gw_law_38 : GoodIn lw_tbl wk_k_Desk := goodIn_r _ [82, 83, 84, 85, 86, 87, 63, 89, 90, 91, 101, 92, 384, 102, 103, 64, 105, 104, 106, 107, 108, 109, 65, 111, 110, 112, 113, 117, 119, 121, 114, 229, 137, 138, 66, 140, 139, 141, 142, 157, 160, 163, 166, 169, 172, 175, 178, 182, 186, 190, 193, 197, 143, 144, 145, 146, 150, 154, 147, 148, 67, 149, 230, 232, 234, 385, 248, 249, 386, 250, 251, 252, 253, 264, 266, 1, 267, 254, 255, 256, 271, 257, 259, 0, 260, 62, 262, 263, 272, 273, 68, 275, 274, 276, 277, 278, 387, 305, 388, 307, 69, 309, 308, 310, 311, 312, 313, 70, 315, 316, 317, 323, 326, 329, 345, 353, 354, 355, 356, 342, 343, 344, 96, 98, 389, 391, 393, 395, 397, 237, 239, 241, 243, 245, 124, 126, 128, 130, 132, 134, 198, 200, 202, 204, 206, 208, 210, 212, 214, 216, 218, 220, 222, 224, 226, 290, 292, 294, 296, 298, 300, 302, 357, 359, 361, 363, 365, 367, 369, 371, 373, 375, 377, 379, 381, 331, 333, 335, 337, 339] (by decide +kernel) (by decide +kernel)
set_option maxRecDepth 20000 in
theorem gw_law_39 : GoodIn lw_tbl wk_k_Model := goodIn_r _ [795, 796, 84, 85, 603, 802, 803, 807, 101, 813, 814, 815, 816, 817, 818, 819, 820, 821, 822, 823, 824, 825, 826, 836, 837, 838, 841, 797, 799, 28, 71, 800, 801, 842, 844, 846, 848, 850, 852, 854, 856, 858, 860, 862, 864, 866, 868, 870, 872, 874, 876, 878, 880, 882, 884, 886, 888, 890, 892, 894, 896, 898, 900, 902, 904, 906, 908, 910, 912, 914, 916, 918, 920] (by decide +kernel) (by decide +kernel)
set_option maxRecDepth 20000 in
theorem iw_law_0 : ∀ w ∈ wsX00, w ∈ lw_tbl := fun w h => (goodIn_r wsX00 [198, 200, 202, 204, 206, 208, 210, 212, 214, 216, 218, 220, 222, 224, 226] (by decide +kernel) (by decide +kernel) w h).1
set_option maxRecDepth 20000 in
theorem iw_law_1 : ∀ w ∈ wsX10, w ∈ lw_tbl := fun w h => (goodIn_r wsX10 [290, 292, 294, 296, 298, 300, 302] (by decide +kernel) (by decide +kernel) w h).1
set_option maxRecDepth 20000 in
theorem iw_law_2 : ∀ w ∈ wsX20, w ∈ lw_tbl := fun w h => (goodIn_r wsX20 [357, 359, 361, 363, 365, 367, 369, 371, 373, 375, 377, 379, 381] (by decide +kernel) (by decide +kernel) w h).1
set_option maxRecDepth 20000 in
theorem iw_law_3 : ∀ w ∈ wsX30, w ∈ lw_tbl := fun w h => (goodIn_r wsX30 [237, 239, 241, 243, 245] (by decide +kernel) (by decide +kernel) w h).1
set_option maxRecDepth 20000 in
theorem iw_law_4 : ∀ w ∈ wsX40, w ∈ lw_tbl := fun w h => (goodIn_r wsX40 [124, 126, 128, 130, 132, 134] (by decide +kernel) (by decide +kernel) w h).1
set_option maxRecDepth 20000 in
theorem iw_law_5 : ∀ w ∈ wsX50, w ∈ lw_tbl := fun w h => (goodIn_r wsX50 [96, 98] (by decide +kernel) (by decide +kernel) w h).1
set_option maxRecDepth 20000 in
theorem iw_law_6 : ∀ w ∈ wsX60, w ∈ lw_tbl := fun w h => (goodIn_r wsX60 [331, 333, 335, 337, 339] (by decide +kernel) (by decide +kernel) w h).1
set_option maxRecDepth 20000 in
theorem iw_law_7 : ∀ w ∈ wsX70, w ∈ lw_tbl := fun w h => (goodIn_r wsX70 [389, 391, 393, 395, 397] (by decide +kernel) (by decide +kernel) w h).1
set_option maxRecDepth 20000 in
theorem iw_law_8 : ∀ w ∈ wsX80, w ∈ lw_tbl := fun w h => (goodIn_r wsX80 [842, 844, 846, 848, 850, 852, 854, 856, 858, 860, 862, 864, 866, 868, 870, 872, 874, 876, 878, 880, 882, 884, 886, 888, 890, 892, 894, 896, 898, 900, 902, 904, 906, 908, 910, 912, 914, 916, 918, 920] (by decide +kernel) (by decide +kernel) w h).1
