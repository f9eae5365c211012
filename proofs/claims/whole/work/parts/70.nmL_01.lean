set_option maxRecDepth 20000 in
theorem ggL_law_X11_drawn : GoodIn wsL_law wsX11_drawn := goodIn_r _ [799, 21, 790, 724, 223, 224, 225, 519, 207, 208, 20, 209, 210, 211, 212, 213, 43, 692, 693, 2, 694, 504, 315, 316, 317, 38, 120, 121, 475, 131, 132, 133, 36, 42, 509, 323, 324, 325, 326, 153, 327, 328, 239, 329, 41, 330, 331, 332, 156, 333, 334, 335, 165, 336, 337, 338, 339, 340, 250, 341, 342, 343, 162, 344, 510, 346, 347, 348, 168, 349, 350, 800, 801, 802, 803, 804, 805, 1192, 1193, 1194, 1195, 1196, 1197, 1198, 1199, 1200, 1232, 1233, 1234, 1235, 1236, 1237, 1238, 1247, 1248, 1249, 1250, 1251, 1246, 1252, 1253] (by decide +kernel) (by decide +kernel)
set_option maxRecDepth 20000 in
theorem gL_law_X11_drawn : GoodIn wsL_law (wsV RL 114 RX11 yX11_drawn wsX11_drawn) := goodIn_app (goodIn_of _ (by decide +kernel)) ggL_law_X11_drawn
set_option maxRecDepth 20000 in
theorem ggL_law_X12_drawn : GoodIn wsL_law wsX12_drawn := goodIn_r _ [809, 86, 795, 70, 418, 419, 420, 5, 421, 422, 423, 424, 425, 403, 372, 373, 374, 461, 462, 463, 464, 68, 69, 438, 439, 440, 810, 811, 812, 813, 814, 815, 1201, 1202, 1203, 1204, 1205, 1206, 1207, 1208, 1209, 1210, 1211, 1212, 1213, 1214, 1215, 1216, 1217, 1218, 1219, 1220, 1221, 1222, 1223, 1224, 1225, 1226, 1227, 1228, 1229, 1230, 1231] (by decide +kernel) (by decide +kernel)
set_option maxRecDepth 20000 in
theorem gL_law_X12_drawn : GoodIn wsL_law (wsV RL 118 RX12 yX12_drawn wsX12_drawn) := goodIn_app (goodIn_of _ (by decide +kernel)) ggL_law_X12_drawn
set_option maxRecDepth 20000 in
theorem ggL_law_X11_await : GoodIn wsL_law wsX11_await := goodIn_r _ [819, 790, 692, 693, 2, 694, 820, 821, 822, 800, 801, 802, 803, 804, 805] (by decide +kernel) (by decide +kernel)
set_option maxRecDepth 20000 in
theorem gL_law_X11_await : GoodIn wsL_law (wsV RL 119 RX11 yX11_await wsX11_await) := goodIn_app (goodIn_of _ (by decide +kernel)) ggL_law_X11_await
set_option maxRecDepth 20000 in
theorem ggL_law_X12_await : GoodIn wsL_law wsX12_await := goodIn_r _ [826, 86, 827, 828, 795, 372, 373, 5, 374, 810, 811, 812, 813, 814, 815, 1201, 1202, 1203, 1204, 1205, 1206, 1207, 1208, 1209, 1210, 1211, 1212, 1213, 1214, 1215, 1216, 1217, 1218, 1219, 1220, 1221, 1222, 1223, 1224, 1225, 1226, 1227, 1228, 1229, 1230, 1231] (by decide +kernel) (by decide +kernel)
set_option maxRecDepth 20000 in
theorem gL_law_X12_await : GoodIn wsL_law (wsV RL 122 RX12 yX12_await wsX12_await) := goodIn_app (goodIn_of _ (by decide +kernel)) ggL_law_X12_await
set_option maxRecDepth 20000 in
theorem ggL_law_X11_daysFor : GoodIn wsL_law wsX11_daysFor := goodIn_r _ [832, 833, 820, 821, 2, 822] (by decide +kernel) (by decide +kernel)
set_option maxRecDepth 20000 in
theorem gL_law_X11_daysFor : GoodIn wsL_law (wsV RL 123 RX11 yX11_daysFor wsX11_daysFor) := goodIn_app (goodIn_of _ (by decide +kernel)) ggL_law_X11_daysFor
set_option maxRecDepth 20000 in
theorem ggL_law_X12_daysFor : GoodIn wsL_law wsX12_daysFor := goodIn_r _ [837, 86, 827, 838, 372, 373, 5, 374, 1201, 1202, 1203, 1204, 1205, 1206, 1207, 1208, 1209, 1210, 1211, 1212, 1213, 1214, 1215, 1216, 1217, 1218, 1219, 1220, 1221, 1222, 1223, 1224, 1225, 1226, 1227, 1228, 1229, 1230, 1231] (by decide +kernel) (by decide +kernel)
set_option maxRecDepth 20000 in
theorem gL_law_X12_daysFor : GoodIn wsL_law (wsV RL 126 RX12 yX12_daysFor wsX12_daysFor) := goodIn_app (goodIn_of _ (by decide +kernel)) ggL_law_X12_daysFor
set_option maxRecDepth 20000 in
theorem ggL_law_X11_ask : GoodIn wsL_law wsX11_ask := goodIn_r _ [842, 21, 529, 557, 22, 474, 211, 212, 20, 213, 43, 504, 315, 316, 317, 38, 210, 120, 2, 121, 695, 281, 282, 283, 206, 207, 208, 209, 226, 227, 228, 229, 39, 130, 131, 132, 133, 36, 42, 284, 285, 286, 287, 41, 288, 289, 290, 291, 156, 292, 293, 294, 295, 296, 150, 297, 298, 267, 299, 300, 301, 159, 302, 303, 304, 162, 305, 306, 263, 307, 308, 309, 310, 168, 311, 312, 274, 313, 126, 127, 128, 129, 44, 45, 134, 135, 843, 319, 320, 321, 222, 223, 224, 225, 314, 322, 323, 324, 325, 326, 153, 327, 328, 239, 329, 330, 331, 332, 333, 334, 335, 165, 336, 337, 338, 339, 340, 250, 341, 342, 343, 344, 345, 346, 347, 348, 349, 350, 218, 219, 220, 221, 230, 231, 232, 233, 234, 235, 236, 237, 238, 240, 241, 242, 243, 244, 245, 246, 247, 248, 249, 251, 252, 253, 254, 255, 256, 257, 258, 259, 260, 261, 262, 264, 265, 266, 268, 269, 270, 271, 272, 273, 275, 202, 203, 204, 205, 844, 845, 846, 847, 848, 597, 598, 599, 280, 849, 624, 625, 626, 627, 628, 629, 1192, 1193, 1194, 1195, 1196, 1197, 1198, 1199, 1200, 1232, 1233, 1234, 1235, 1236, 1237, 1238, 1247, 1248, 1249, 1250, 1251, 1246, 1252, 1253] (by decide +kernel) (by decide +kernel)
set_option maxRecDepth 20000 in
theorem gL_law_X11_ask : GoodIn wsL_law (wsV RL 127 RX11 yX11_ask wsX11_ask) := goodIn_app (goodIn_of _ (by decide +kernel)) ggL_law_X11_ask
set_option maxRecDepth 20000 in
theorem ggL_law_X12_ask : GoodIn wsL_law wsX12_ask := goodIn_r _ [853, 86, 70, 403, 71, 422, 423, 424, 5, 425, 372, 373, 374, 449, 450, 451, 452, 404, 453, 454, 455, 456, 68, 430, 431, 432, 433, 434, 435, 436, 437, 69, 438, 439, 440, 854, 855, 856, 857, 604, 605, 606, 607, 858, 859, 860, 661, 662, 663, 1201, 1202, 1203, 1204, 1205, 1206, 1207, 1208, 1209, 1210, 1211, 1212, 1213, 1214, 1215, 1216, 1217, 1218, 1219, 1220, 1221, 1222, 1223, 1224, 1225, 1226, 1227, 1228, 1229, 1230, 1231] (by decide +kernel) (by decide +kernel)
set_option maxRecDepth 20000 in
theorem gL_law_X12_ask : GoodIn wsL_law (wsV RL 130 RX12 yX12_ask wsX12_ask) := goodIn_app (goodIn_of _ (by decide +kernel)) ggL_law_X12_ask
set_option maxRecDepth 20000 in
theorem ggL_law_X11_game : GoodIn wsL_law wsX11_game := goodIn_r _ [864, 21, 557, 519, 207, 208, 20, 209, 210, 211, 212, 213, 43, 695, 281, 282, 283, 206, 226, 227, 228, 229, 39, 120, 2, 121, 130, 131, 132, 133, 36, 42, 284, 285, 286, 287, 41, 288, 289, 290, 291, 156, 292, 293, 294, 295, 296, 150, 297, 298, 267, 299, 300, 301, 159, 302, 303, 304, 162, 305, 306, 263, 307, 308, 309, 310, 168, 311, 312, 274, 313, 475, 505, 231, 232, 233, 234, 153, 235, 236, 237, 238, 239, 240, 241, 242, 243, 244, 245, 246, 165, 247, 248, 249, 250, 251, 252, 253, 254, 255, 256, 257, 258, 259, 260, 261, 262, 264, 265, 266, 506, 269, 270, 271, 272, 273, 275, 865, 866, 867, 868, 869, 870, 1192, 1193, 1194, 1195, 1196, 1197, 1198, 1199, 1200, 1232, 1233, 1234, 1235, 1236, 1237, 1238, 1247, 1248, 1249, 1250, 1251, 1246, 1252, 1253] (by decide +kernel) (by decide +kernel)
set_option maxRecDepth 20000 in
theorem gL_law_X11_game : GoodIn wsL_law (wsV RL 131 RX11 yX11_game wsX11_game) := goodIn_app (goodIn_of _ (by decide +kernel)) ggL_law_X11_game
set_option maxRecDepth 20000 in
theorem ggL_law_X12_game : GoodIn wsL_law wsX12_game := goodIn_r _ [874, 86, 418, 419, 420, 5, 421, 422, 423, 424, 425, 403, 372, 373, 374, 449, 450, 451, 452, 71, 404, 453, 454, 455, 456, 68, 875, 876, 877, 878, 879, 880, 881, 882, 434, 435, 436, 437, 69, 1201, 1202, 1203, 1204, 1205, 1206, 1207, 1208, 1209, 1210, 1211, 1212, 1213, 1214, 1215, 1216, 1217, 1218, 1219, 1220, 1221, 1222, 1223, 1224, 1225, 1226, 1227, 1228, 1229, 1230, 1231] (by decide +kernel) (by decide +kernel)
set_option maxRecDepth 20000 in
theorem gL_law_X12_game : GoodIn wsL_law (wsV RL 134 RX12 yX12_game wsX12_game) := goodIn_app (goodIn_of _ (by decide +kernel)) ggL_law_X12_game
set_option maxRecDepth 20000 in
theorem ggL_law_X11_blushes : GoodIn wsL_law wsX11_blushes := goodIn_r _ [886, 21, 92, 529, 474, 211, 212, 20, 213, 43, 692, 693, 2, 694, 93, 94, 95, 96, 16, 97, 98, 99, 100, 101, 102, 103, 104, 105, 106, 107, 14, 887, 888, 889, 890, 136, 113, 114, 31, 115, 61, 116, 117, 118, 119, 63, 120, 121, 891, 892, 893, 894, 62, 895, 475, 131, 132, 133, 36, 42, 896, 897, 898, 899, 900, 153, 901, 902, 903, 904, 41, 905, 906, 165, 907, 908, 909, 910, 911, 912, 913, 1192, 1193, 1194, 1195, 1196, 1197, 1198, 1199, 1200, 1243, 1244, 1245, 1232, 1233, 1234, 1235, 1236, 1237, 1238] (by decide +kernel) (by decide +kernel)
set_option maxRecDepth 20000 in
theorem gL_law_X11_blushes : GoodIn wsL_law (wsV RL 135 RX11 yX11_blushes wsX11_blushes) := goodIn_app (goodIn_of _ (by decide +kernel)) ggL_law_X11_blushes
set_option maxRecDepth 20000 in
theorem ggL_law_X12_blushes : GoodIn wsL_law wsX12_blushes := goodIn_r _ [917, 86, 76, 372, 373, 5, 374, 918, 919, 920, 921, 403, 422, 423, 424, 425, 367, 368, 369, 370, 371, 72, 922, 923, 924, 925, 77, 926, 927, 928, 929, 75, 930, 931, 932, 933, 934, 935, 936, 68, 658, 659, 660, 858, 859, 860, 1201, 1202, 1203, 1204, 1205, 1206, 1207, 1208, 1209, 1210, 1211, 1212, 1213, 1214, 1215, 1216, 1217, 1218, 1219, 1220, 1221, 1222, 1223, 1224, 1225, 1226, 1227, 1228, 1229, 1230, 1231] (by decide +kernel) (by decide +kernel)
set_option maxRecDepth 20000 in
theorem gL_law_X12_blushes : GoodIn wsL_law (wsV RL 138 RX12 yX12_blushes wsX12_blushes) := goodIn_app (goodIn_of _ (by decide +kernel)) ggL_law_X12_blushes
set_option maxRecDepth 20000 in
theorem ggL_law_X11_forged : GoodIn wsL_law wsX11_forged := goodIn_r _ [940, 21, 92, 529, 725, 635, 224, 636, 474, 211, 212, 20, 213, 43, 93, 94, 95, 2, 96, 16, 97, 98, 99, 100, 101, 102, 103, 104, 105, 106, 107, 14, 887, 888, 889, 890, 136, 113, 114, 31, 115, 61, 116, 117, 118, 119, 63, 120, 121, 891, 892, 893, 894, 62, 895, 475, 131, 132, 133, 36, 42, 896, 897, 898, 899, 900, 153, 901, 902, 903, 904, 41, 905, 906, 165, 907, 908, 909, 910, 911, 912, 913, 1192, 1193, 1194, 1195, 1196, 1197, 1198, 1199, 1200, 1243, 1244, 1245, 1232, 1233, 1234, 1235, 1236, 1237, 1238] (by decide +kernel) (by decide +kernel)
set_option maxRecDepth 20000 in
theorem gL_law_X11_forged : GoodIn wsL_law (wsV RL 139 RX11 yX11_forged wsX11_forged) := goodIn_app (goodIn_of _ (by decide +kernel)) ggL_law_X11_forged
set_option maxRecDepth 20000 in
theorem ggL_law_X12_forged : GoodIn wsL_law wsX12_forged := goodIn_r _ [944, 86, 76, 918, 919, 920, 5, 921, 403, 422, 423, 424, 425, 372, 373, 374, 367, 368, 369, 370, 371, 72, 922, 923, 924, 925, 77, 926, 927, 928, 929, 75, 930, 931, 932, 933, 934, 935, 936, 68, 1201, 1202, 1203, 1204, 1205, 1206, 1207, 1208, 1209, 1210, 1211, 1212, 1213, 1214, 1215, 1216, 1217, 1218, 1219, 1220, 1221, 1222, 1223, 1224, 1225, 1226, 1227, 1228, 1229, 1230, 1231] (by decide +kernel) (by decide +kernel)
set_option maxRecDepth 20000 in
theorem gL_law_X12_forged : GoodIn wsL_law (wsV RL 142 RX12 yX12_forged wsX12_forged) := goodIn_app (goodIn_of _ (by decide +kernel)) ggL_law_X12_forged
set_option maxRecDepth 20000 in
theorem ggL_law_X11_judge : GoodIn wsL_law wsX11_judge := goodIn_r _ [948, 21, 22, 92, 474, 211, 212, 20, 213, 43, 93, 94, 95, 2, 96, 16, 97, 98, 99, 100, 101, 102, 103, 104, 105, 106, 107, 14, 126, 127, 128, 129, 36, 38, 39, 44, 45, 130, 131, 132, 133, 42, 120, 121, 134, 135, 949, 950, 951, 952, 280, 281, 282, 283, 206, 207, 208, 209, 210, 226, 227, 228, 229, 284, 285, 286, 287, 41, 288, 289, 290, 291, 156, 292, 293, 294, 295, 296, 150, 297, 298, 267, 299, 300, 301, 159, 302, 303, 304, 162, 305, 306, 263, 307, 308, 309, 310, 168, 311, 312, 274, 313, 314, 315, 316, 317, 318, 319, 320, 321, 222, 223, 224, 225, 322, 323, 324, 325, 326, 153, 327, 328, 239, 329, 330, 331, 332, 333, 334, 335, 165, 336, 337, 338, 339, 340, 250, 341, 342, 343, 344, 345, 346, 347, 348, 349, 350, 218, 219, 220, 221, 230, 231, 232, 233, 234, 235, 236, 237, 238, 240, 241, 242, 243, 244, 245, 246, 247, 248, 249, 251, 252, 253, 254, 255, 256, 257, 258, 259, 260, 261, 262, 264, 265, 266, 268, 269, 270, 271, 272, 273, 275, 202, 203, 204, 205, 136, 113, 114, 31, 115, 61, 116, 117, 118, 119, 63, 891, 892, 893, 894, 62, 895, 504, 1192, 1193, 1194, 1195, 1196, 1197, 1198, 1199, 1200, 1243, 1244, 1245, 1232, 1233, 1234, 1235, 1236, 1237, 1238, 1247, 1248, 1249, 1250, 1251, 1246, 1252, 1253] (by decide +kernel) (by decide +kernel)
set_option maxRecDepth 20000 in
theorem gL_law_X11_judge : GoodIn wsL_law (wsV RL 143 RX11 yX11_judge wsX11_judge) := goodIn_app (goodIn_of _ (by decide +kernel)) ggL_law_X11_judge
set_option maxRecDepth 20000 in
theorem ggL_law_X12_judge : GoodIn wsL_law wsX12_judge := goodIn_r _ [956, 86, 76, 77, 70, 422, 423, 424, 5, 425, 403, 372, 373, 374, 367, 368, 369, 370, 371, 72, 392, 393, 394, 395, 81, 396, 397, 398, 399, 400, 401, 402, 404, 405, 68, 69, 71, 406, 407, 408, 409, 957, 958, 959, 960, 445, 446, 447, 448, 449, 450, 451, 452, 453, 454, 455, 456, 457, 458, 459, 460, 461, 462, 463, 464, 438, 439, 440, 430, 431, 432, 433, 434, 435, 436, 437, 926, 927, 928, 929, 75, 930, 931, 932, 465, 466, 467, 468, 1201, 1202, 1203, 1204, 1205, 1206, 1207, 1208, 1209, 1210, 1211, 1212, 1213, 1214, 1215, 1216, 1217, 1218, 1219, 1220, 1221, 1222, 1223, 1224, 1225, 1226, 1227, 1228, 1229, 1230, 1231] (by decide +kernel) (by decide +kernel)
set_option maxRecDepth 20000 in
theorem gL_law_X12_judge : GoodIn wsL_law (wsV RL 146 RX12 yX12_judge wsX12_judge) := goodIn_app (goodIn_of _ (by decide +kernel)) ggL_law_X12_judge
set_option maxRecDepth 20000 in
theorem ggL_law_X11_months : GoodIn wsL_law wsX11_months := goodIn_r _ [964, 21, 529, 29, 22, 692, 693, 2, 694, 126, 127, 128, 20, 129, 36, 38, 39, 43, 44, 45, 130, 131, 132, 133, 42, 120, 121, 134, 135, 965, 966, 967, 968, 969, 970, 971, 972, 973, 974, 975, 280, 281, 282, 283, 206, 207, 208, 209, 210, 211, 212, 213, 226, 227, 228, 229, 284, 285, 286, 287, 41, 288, 289, 290, 291, 156, 292, 293, 294, 295, 296, 150, 297, 298, 267, 299, 300, 301, 159, 302, 303, 304, 162, 305, 306, 263, 307, 308, 309, 310, 168, 311, 312, 274, 313, 314, 315, 316, 317, 318, 319, 320, 321, 222, 223, 224, 225, 322, 323, 324, 325, 326, 153, 327, 328, 239, 329, 330, 331, 332, 333, 334, 335, 165, 336, 337, 338, 339, 340, 250, 341, 342, 343, 344, 345, 346, 347, 348, 349, 350, 218, 219, 220, 221, 230, 231, 232, 233, 234, 235, 236, 237, 238, 240, 241, 242, 243, 244, 245, 246, 247, 248, 249, 251, 252, 253, 254, 255, 256, 257, 258, 259, 260, 261, 262, 264, 265, 266, 268, 269, 270, 271, 272, 273, 275, 202, 203, 204, 205, 976, 977, 978, 979, 1192, 1193, 1194, 1195, 1196, 1197, 1198, 1199, 1200, 1232, 1233, 1234, 1235, 1236, 1237, 1238, 1247, 1248, 1249, 1250, 1251, 1246, 1252, 1253] (by decide +kernel) (by decide +kernel)
set_option maxRecDepth 20000 in
theorem gL_law_X11_months : GoodIn wsL_law (wsV RL 147 RX11 yX11_months wsX11_months) := goodIn_app (goodIn_of _ (by decide +kernel)) ggL_law_X11_months
set_option maxRecDepth 20000 in
theorem ggL_law_X12_months : GoodIn wsL_law wsX12_months := goodIn_r _ [983, 86, 984, 403, 985, 372, 373, 5, 374, 392, 393, 394, 395, 81, 396, 397, 398, 399, 400, 401, 402, 404, 405, 68, 69, 70, 71, 406, 407, 408, 409, 986, 987, 988, 989, 990, 991, 992, 445, 446, 447, 448, 449, 450, 451, 452, 453, 454, 455, 456, 457, 458, 459, 460, 461, 462, 463, 464, 438, 439, 440, 430, 431, 432, 433, 434, 435, 436, 437, 993, 994, 995, 996, 465, 466, 467, 468, 1201, 1202, 1203, 1204, 1205, 1206, 1207, 1208, 1209, 1210, 1211, 1212, 1213, 1214, 1215, 1216, 1217, 1218, 1219, 1220, 1221, 1222, 1223, 1224, 1225, 1226, 1227, 1228, 1229, 1230, 1231] (by decide +kernel) (by decide +kernel)
set_option maxRecDepth 20000 in
theorem gL_law_X12_months : GoodIn wsL_law (wsV RL 150 RX12 yX12_months wsX12_months) := goodIn_app (goodIn_of _ (by decide +kernel)) ggL_law_X12_months
set_option maxRecDepth 20000 in
theorem ggL_law_X11_image : GoodIn wsL_law wsX11_image := goodIn_r _ [1000, 23, 21, 28, 585, 126, 127, 128, 20, 129, 36, 38, 39, 43, 44, 45, 130, 131, 132, 133, 42, 120, 2, 121, 134, 135, 1192, 1193, 1194, 1195, 1196, 1197, 1198, 1199, 1200, 1232, 1233, 1234, 1235, 1236, 1237, 1238] (by decide +kernel) (by decide +kernel)
set_option maxRecDepth 20000 in
theorem gL_law_X11_image : GoodIn wsL_law (wsV RL 151 RX11 yX11_image wsX11_image) := goodIn_app (goodIn_of _ (by decide +kernel)) ggL_law_X11_image
set_option maxRecDepth 20000 in
theorem ggL_law_X12_image : GoodIn wsL_law wsX12_image := goodIn_r _ [1004, 86, 1005, 82, 405, 396, 397, 398, 5, 399, 400, 401, 402, 403, 404, 68, 69, 70, 71, 406, 407, 408, 409, 1201, 1202, 1203, 1204, 1205, 1206, 1207, 1208, 1209, 1210, 1211, 1212, 1213, 1214, 1215, 1216, 1217, 1218, 1219, 1220, 1221, 1222, 1223, 1224, 1225, 1226, 1227, 1228, 1229, 1230, 1231] (by decide +kernel) (by decide +kernel)
set_option maxRecDepth 20000 in
theorem gL_law_X12_image : GoodIn wsL_law (wsV RL 154 RX12 yX12_image wsX12_image) := goodIn_app (goodIn_of _ (by decide +kernel)) ggL_law_X12_image
set_option maxRecDepth 20000 in
theorem ggL_law_X11_restore : GoodIn wsL_law wsX11_restore := goodIn_r _ [1009, 28, 21, 23, 585, 126, 127, 128, 20, 129, 36, 38, 39, 43, 44, 45, 130, 131, 132, 133, 42, 120, 2, 121, 134, 135, 1192, 1193, 1194, 1195, 1196, 1197, 1198, 1199, 1200, 1232, 1233, 1234, 1235, 1236, 1237, 1238] (by decide +kernel) (by decide +kernel)
set_option maxRecDepth 20000 in
theorem gL_law_X11_restore : GoodIn wsL_law (wsV RL 155 RX11 yX11_restore wsX11_restore) := goodIn_app (goodIn_of _ (by decide +kernel)) ggL_law_X11_restore
set_option maxRecDepth 20000 in
theorem ggL_law_X12_restore : GoodIn wsL_law wsX12_restore := goodIn_r _ [1013, 86, 1005, 82, 405, 396, 397, 398, 5, 399, 400, 401, 402, 403, 404, 68, 69, 70, 71, 406, 407, 408, 409, 1201, 1202, 1203, 1204, 1205, 1206, 1207, 1208, 1209, 1210, 1211, 1212, 1213, 1214, 1215, 1216, 1217, 1218, 1219, 1220, 1221, 1222, 1223, 1224, 1225, 1226, 1227, 1228, 1229, 1230, 1231] (by decide +kernel) (by decide +kernel)
set_option maxRecDepth 20000 in
theorem gL_law_X12_restore : GoodIn wsL_law (wsV RL 158 RX12 yX12_restore wsX12_restore) := goodIn_app (goodIn_of _ (by decide +kernel)) ggL_law_X12_restore
set_option maxRecDepth 20000 in
theorem ggL_law_X11_count : GoodIn wsL_law wsX11_count := goodIn_r _ [1017, 21, 529, 585, 557, 976, 977, 978, 20, 979, 43, 314, 315, 316, 317, 38, 210, 211, 212, 213, 120, 2, 121, 1018, 1019, 1020, 1021, 226, 227, 228, 229, 39, 206, 207, 208, 209, 1022, 1023, 1024, 1025, 1192, 1193, 1194, 1195, 1196, 1197, 1198, 1199, 1200, 1232, 1233, 1234, 1235, 1236, 1237, 1238] (by decide +kernel) (by decide +kernel)
set_option maxRecDepth 20000 in
theorem gL_law_X11_count : GoodIn wsL_law (wsV RL 159 RX11 yX11_count wsX11_count) := goodIn_app (goodIn_of _ (by decide +kernel)) ggL_law_X11_count
set_option maxRecDepth 20000 in
theorem ggL_law_X12_count : GoodIn wsL_law wsX12_count := goodIn_r _ [1029, 86, 403, 405, 404, 70, 993, 994, 995, 5, 996, 774, 775, 776, 777, 71, 1201, 1202, 1203, 1204, 1205, 1206, 1207, 1208, 1209, 1210, 1211, 1212, 1213, 1214, 1215, 1216, 1217, 1218, 1219, 1220, 1221, 1222, 1223, 1224, 1225, 1226, 1227, 1228, 1229, 1230, 1231] (by decide +kernel) (by decide +kernel)
set_option maxRecDepth 20000 in
theorem gL_law_X12_count : GoodIn wsL_law (wsV RL 162 RX12 yX12_count wsX12_count) := goodIn_app (goodIn_of _ (by decide +kernel)) ggL_law_X12_count
set_option maxRecDepth 20000 in
theorem ggL_law_X11_keep : GoodIn wsL_law wsX11_keep := goodIn_r _ [1033, 101, 102, 2, 103, 692, 693, 694, 1034, 146, 147, 148, 149, 150, 151, 152, 153, 154, 155, 156, 157, 158, 159, 160, 161, 162, 163, 164, 165, 166, 167, 168, 13, 40, 41, 169, 170, 171, 172, 47, 48, 49, 11, 12, 50, 173, 174, 175, 176, 177, 178, 179, 180, 181, 182, 183, 184, 185, 186, 187, 188, 189, 190, 191, 192, 193, 194, 195, 196, 197, 1035, 1036, 1037, 1038, 14, 16, 1253, 1247, 1248, 1250, 1251, 1249, 1252, 1246, 1192, 1193, 1194, 1195, 1196, 1197, 1198, 1199, 1200] (by decide +kernel) (by decide +kernel)
set_option maxRecDepth 20000 in
theorem gL_law_X11_keep : GoodIn wsL_law (wsV RL 163 RX11 yX11_keep wsX11_keep) := goodIn_app (goodIn_of _ (by decide +kernel)) ggL_law_X11_keep
set_option maxRecDepth 20000 in
theorem ggL_law_X12_keep : GoodIn wsL_law wsX12_keep := goodIn_r _ [1042, 86, 371, 552, 72, 73, 74, 372, 373, 5, 374, 1201, 1202, 1203, 1204, 1205, 1206, 1207, 1208, 1209, 1210, 1211, 1212, 1213, 1214, 1215, 1216, 1217, 1218, 1219, 1220, 1221, 1222, 1223, 1224, 1225, 1226, 1227, 1228, 1229, 1230, 1231] (by decide +kernel) (by decide +kernel)
set_option maxRecDepth 20000 in
theorem gL_law_X12_keep : GoodIn wsL_law (wsV RL 167 RX12 yX12_keep wsX12_keep) := goodIn_app (goodIn_of _ (by decide +kernel)) ggL_law_X12_keep
set_option maxRecDepth 20000 in
theorem ggL_law_X11_row : GoodIn wsL_law wsX11_row := goodIn_r _ [1046, 17, 101, 102, 2, 103, 1047, 1048, 1049, 31, 1050, 62, 63, 61, 1035, 1036, 1037, 1038, 14, 16, 1192, 1193, 1194, 1195, 1196, 1197, 1198, 1199, 1200, 1243, 1244, 1245] (by decide +kernel) (by decide +kernel)
set_option maxRecDepth 20000 in
theorem gL_law_X11_row : GoodIn wsL_law (wsV RL 168 RX11 yX11_row wsX11_row) := goodIn_app (goodIn_of _ (by decide +kernel)) ggL_law_X11_row
set_option maxRecDepth 20000 in
theorem ggL_law_X12_row : GoodIn wsL_law wsX12_row := goodIn_r _ [1054, 86, 371, 838, 72, 75, 76, 77, 372, 373, 5, 374, 1201, 1202, 1203, 1204, 1205, 1206, 1207, 1208, 1209, 1210, 1211, 1212, 1213, 1214, 1215, 1216, 1217, 1218, 1219, 1220, 1221, 1222, 1223, 1224, 1225, 1226, 1227, 1228, 1229, 1230, 1231] (by decide +kernel) (by decide +kernel)
set_option maxRecDepth 20000 in
theorem gL_law_X12_row : GoodIn wsL_law (wsV RL 171 RX12 yX12_row wsX12_row) := goodIn_app (goodIn_of _ (by decide +kernel)) ggL_law_X12_row
set_option maxRecDepth 20000 in
theorem ggL_law_X11_put : GoodIn wsL_law wsX11_put := goodIn_r _ [1058, 93, 94, 95, 2, 96, 16, 97, 98, 99, 100, 101, 102, 103, 104, 105, 106, 107, 14, 1059, 1060, 1061, 31, 1062, 61, 62, 116, 117, 118, 119, 63, 134, 135, 1192, 1193, 1194, 1195, 1196, 1197, 1198, 1199, 1200, 1243, 1244, 1245] (by decide +kernel) (by decide +kernel)
set_option maxRecDepth 20000 in
theorem gL_law_X11_put : GoodIn wsL_law (wsV RL 172 RX11 yX11_put wsX11_put) := goodIn_app (goodIn_of _ (by decide +kernel)) ggL_law_X11_put
set_option maxRecDepth 20000 in
theorem ggL_law_X12_put : GoodIn wsL_law wsX12_put := goodIn_r _ [1066, 86, 76, 77, 75, 367, 368, 369, 5, 370, 371, 72, 372, 373, 374, 1067, 1068, 1069, 1201, 1202, 1203, 1204, 1205, 1206, 1207, 1208, 1209, 1210, 1211, 1212, 1213, 1214, 1215, 1216, 1217, 1218, 1219, 1220, 1221, 1222, 1223, 1224, 1225, 1226, 1227, 1228, 1229, 1230, 1231] (by decide +kernel) (by decide +kernel)
set_option maxRecDepth 20000 in
theorem gL_law_X12_put : GoodIn wsL_law (wsV RL 175 RX12 yX12_put wsX12_put) := goodIn_app (goodIn_of _ (by decide +kernel)) ggL_law_X12_put
set_option maxRecDepth 20000 in
theorem ggL_law_L_element : GoodIn wsL_law wsL_element := goodIn_ca (goodIn_ca (goodIn_r _ [1073, 1074, 1075, 1076, 1077, 1078, 2, 1079, 1080, 1081, 1082, 1083, 101, 102, 103, 93, 94, 95, 96, 16, 1084, 117, 118, 31, 119, 63, 136, 113, 114, 115, 61, 116, 120, 121, 1192, 1193, 1194, 1195, 1196, 1197, 1198, 1199, 1200, 1243, 1244, 1245] (by decide +kernel) (by decide +kernel)) (goodIn_sub (fun _ h => List.mem_append_left _ (List.mem_append_left _ (List.mem_append_left _ (List.mem_append_left _ (List.mem_append_right _ h))))) (by decide +kernel))) (goodIn_sub (fun _ h => List.mem_append_left _ (List.mem_append_left _ (List.mem_append_left _ (List.mem_append_right _ h)))) (by decide +kernel))
set_option maxRecDepth 20000 in
theorem gL_law_L_element : GoodIn wsL_law (va_wsS RL 176 yL_element wsL_element) := goodIn_app (goodIn_of _ (by decide +kernel)) ggL_law_L_element
set_option maxRecDepth 20000 in
theorem ggL_law_X12_element : GoodIn wsL_law wsX12_element := goodIn_r _ [1088, 76, 86, 77, 367, 368, 369, 5, 370, 371, 72, 372, 373, 374, 1201, 1202, 1203, 1204, 1205, 1206, 1207, 1208, 1209, 1210, 1211, 1212, 1213, 1214, 1215, 1216, 1217, 1218, 1219, 1220, 1221, 1222, 1223, 1224, 1225, 1226, 1227, 1228, 1229, 1230, 1231] (by decide +kernel) (by decide +kernel)
set_option maxRecDepth 20000 in
theorem gL_law_X12_element : GoodIn wsL_law (wsV RL 181 RX12 yX12_element wsX12_element) := goodIn_app (goodIn_of _ (by decide +kernel)) ggL_law_X12_element
set_option maxRecDepth 20000 in
theorem ggL_law_X12_thrown : GoodIn wsL_law wsX12_thrown := goodIn_r _ [1092, 86, 1201, 1202, 1203, 1204, 1205, 1206, 1207, 1208, 1209, 1210, 1211, 1212, 1213, 1214, 1215, 1216, 1217, 1218, 1219, 1220, 1221, 1222, 1223, 1224, 1225, 1226, 1227, 1228, 1229, 1230, 1231] (by decide +kernel) (by decide +kernel)
set_option maxRecDepth 20000 in
theorem gL_law_X12_thrown : GoodIn wsL_law (wsV RL 182 RX12 yX12_thrown wsX12_thrown) := goodIn_app (goodIn_of _ (by decide +kernel)) ggL_law_X12_thrown
set_option maxRecDepth 20000 in
theorem ggL_law_X11_copy : GoodIn wsL_law wsX11_copy := goodIn_r _ [1096, 91, 1097, 1098, 1099, 1100, 1101, 101, 102, 2, 103, 1102, 1103, 1104, 1105, 104, 105, 106, 107, 14, 93, 94, 95, 96, 16, 1084, 117, 118, 31, 119, 63, 1243, 1244, 1245, 1192, 1193, 1194, 1195, 1196, 1197, 1198, 1199, 1200] (by decide +kernel) (by decide +kernel)
set_option maxRecDepth 20000 in
theorem gL_law_X11_copy : GoodIn wsL_law (wsV RL 185 RX11 yX11_copy wsX11_copy) := goodIn_app (goodIn_of _ (by decide +kernel)) ggL_law_X11_copy
set_option maxRecDepth 20000 in
theorem ggL_law_X12_copy : GoodIn wsL_law wsX12_copy := goodIn_r _ [1109, 86, 371, 72, 75, 76, 85, 77, 372, 373, 5, 374, 1201, 1202, 1203, 1204, 1205, 1206, 1207, 1208, 1209, 1210, 1211, 1212, 1213, 1214, 1215, 1216, 1217, 1218, 1219, 1220, 1221, 1222, 1223, 1224, 1225, 1226, 1227, 1228, 1229, 1230, 1231] (by decide +kernel) (by decide +kernel)
set_option maxRecDepth 20000 in
theorem gL_law_X12_copy : GoodIn wsL_law (wsV RL 189 RX12 yX12_copy wsX12_copy) := goodIn_app (goodIn_of _ (by decide +kernel)) ggL_law_X12_copy
set_option maxRecDepth 20000 in
theorem ggL_law_X11_cost : GoodIn wsL_law wsX11_cost := goodIn_r _ [1113, 104, 105, 106, 2, 107, 14, 530, 531, 532, 533, 101, 102, 103, 93, 94, 95, 96, 16, 1114, 1115, 1116, 1117, 1118, 153, 1119, 236, 237, 1120, 239, 1121, 41, 1122, 1123, 1124, 156, 1125, 1126, 1127, 295, 1128, 150, 1129, 1130, 267, 1131, 1132, 165, 1133, 1134, 1135, 250, 1136, 1137, 159, 1138, 1139, 1140, 1141, 1142, 162, 1143, 259, 260, 1144, 263, 1145, 1146, 1147, 1148, 168, 1149, 1150, 274, 1151, 1192, 1193, 1194, 1195, 1196, 1197, 1198, 1199, 1200, 1247, 1248, 1249, 1250, 1251, 1246, 1252, 1253] (by decide +kernel) (by decide +kernel)
set_option maxRecDepth 20000 in
theorem gL_law_X11_cost : GoodIn wsL_law (wsV RL 190 RX11 yX11_cost wsX11_cost) := goodIn_app (goodIn_of _ (by decide +kernel)) ggL_law_X11_cost
set_option maxRecDepth 20000 in
theorem ggL_law_X12_cost : GoodIn wsL_law wsX12_cost := goodIn_r _ [1155, 86, 73, 74, 539, 540, 541, 5, 542, 371, 72, 372, 373, 374, 1156, 1157, 1158, 1201, 1202, 1203, 1204, 1205, 1206, 1207, 1208, 1209, 1210, 1211, 1212, 1213, 1214, 1215, 1216, 1217, 1218, 1219, 1220, 1221, 1222, 1223, 1224, 1225, 1226, 1227, 1228, 1229, 1230, 1231] (by decide +kernel) (by decide +kernel)
set_option maxRecDepth 20000 in
theorem gL_law_X12_cost : GoodIn wsL_law (wsV RL 193 RX12 yX12_cost wsX12_cost) := goodIn_app (goodIn_of _ (by decide +kernel)) ggL_law_X12_cost
set_option maxRecDepth 20000 in
theorem ggL_law_X11_toss : GoodIn wsL_law wsX11_toss := goodIn_ca (goodIn_ca (goodIn_ca (goodIn_r _ [1162, 1163, 1080, 1082, 473, 104, 105, 106, 2, 107, 14, 530, 531, 532, 533, 101, 102, 103, 93, 94, 95, 96, 16, 1164, 1165, 1166, 1167, 1168, 153, 1169, 1170, 1081, 236, 237, 1171, 1172, 1173, 156, 1174, 1175, 1176, 165, 1177, 1178, 1179, 337, 338, 1180, 1181, 41, 1182, 1083, 50, 1183, 1184, 1185, 1186, 1187, 1114, 1115, 1116, 1117, 1118, 1119, 1120, 239, 1121, 1122, 1123, 1124, 1125, 1126, 1127, 295, 1128, 150, 1129, 1130, 267, 1131, 1132, 1133, 1134, 1135, 250, 1136, 1137, 159, 1138, 1139, 1140, 1141, 1142, 162, 1143, 259, 260, 1144, 263, 1145, 1146, 1147, 1148, 168, 1149, 1150, 274, 1151, 1247, 1248, 1249, 1250, 1251, 1246, 1252, 1253, 1192, 1193, 1194, 1195, 1196, 1197, 1198, 1199, 1200] (by decide +kernel) (by decide +kernel)) (goodIn_sub (fun _ h => List.mem_append_left _ (List.mem_append_left _ (List.mem_append_right _ h))) (by decide +kernel))) (goodIn_sub (fun _ h => List.mem_append_left _ (List.mem_append_right _ h)) (by decide +kernel))) (goodIn_sub (fun _ h => List.mem_append_right _ h) (by decide +kernel))
set_option maxRecDepth 20000 in
theorem gL_law_X11_toss : GoodIn wsL_law (wsV RL 194 RX11 yX11_toss wsX11_toss) := goodIn_app (goodIn_of _ (by decide +kernel)) ggL_law_X11_toss
set_option maxRecDepth 20000 in
theorem ggL_law_X12_toss : GoodIn wsL_law wsX12_toss := goodIn_r _ [1191, 86, 73, 74, 539, 540, 541, 5, 542, 371, 72, 372, 373, 374, 1156, 1157, 1158, 1201, 1202, 1203, 1204, 1205, 1206, 1207, 1208, 1209, 1210, 1211, 1212, 1213, 1214, 1215, 1216, 1217, 1218, 1219, 1220, 1221, 1222, 1223, 1224, 1225, 1226, 1227, 1228, 1229, 1230, 1231] (by decide +kernel) (by decide +kernel)
set_option maxRecDepth 20000 in
theorem gL_law_X12_toss : GoodIn wsL_law (wsV RL 197 RX12 yX12_toss wsX12_toss) := goodIn_app (goodIn_of _ (by decide +kernel)) ggL_law_X12_toss
theorem dL_law_0 : decode cL_law 0 = .ok (.new 8, 3) := by decide +kernel
theorem dL_law_3 : decode cL_law 3 = .ok (.dup, 1) := by decide +kernel
theorem dL_law_4 : decode cL_law 4 = .ok (.invokespecial 17, 3) := by decide +kernel
theorem dL_law_7 : decode cL_law 7 = .ok (.astore_n 1, 1) := by decide +kernel
theorem dL_law_8 : decode cL_law 8 = .ok (.new 18, 3) := by decide +kernel
theorem dL_law_11 : decode cL_law 11 = .ok (.dup, 1) := by decide +kernel
theorem dL_law_12 : decode cL_law 12 = .ok (.invokespecial 20, 3) := by decide +kernel
theorem dL_law_15 : decode cL_law 15 = .ok (.astore_n 2, 1) := by decide +kernel
theorem dL_law_16 : decode cL_law 16 = .ok (.iconst 1, 1) := by decide +kernel
theorem dL_law_17 : decode cL_law 17 = .ok (.newarray .long, 2) := by decide +kernel
theorem dL_law_19 : decode cL_law 19 = .ok (.astore_n 3, 1) := by decide +kernel
theorem dL_law_20 : decode cL_law 20 = .ok (.iconst 0, 1) := by decide +kernel
theorem dL_law_21 : decode cL_law 21 = .ok (.istore 4, 2) := by decide +kernel
theorem dL_law_23 : decode cL_law 23 = .ok (.iload 4, 2) := by decide +kernel
theorem dL_law_25 : decode cL_law 25 = .ok (.aload_n 0, 1) := by decide +kernel
theorem dL_law_26 : decode cL_law 26 = .ok (.arraylength, 1) := by decide +kernel
theorem dL_law_27 : decode cL_law 27 = .ok (.bipush 6, 2) := by decide +kernel
theorem dL_law_29 : decode cL_law 29 = .ok (.isub, 1) := by decide +kernel
theorem dL_law_30 : decode cL_law 30 = .ok (.if_icmp .gt 1578, 3) := by decide +kernel
theorem dL_law_33 : decode cL_law 33 = .ok (.aload_n 0, 1) := by decide +kernel
theorem dL_law_34 : decode cL_law 34 = .ok (.iload 4, 2) := by decide +kernel
theorem dL_law_36 : decode cL_law 36 = .ok (.iaload, 1) := by decide +kernel
theorem dL_law_37 : decode cL_law 37 = .ok (.bipush 63, 2) := by decide +kernel
theorem dL_law_39 : decode cL_law 39 = .ok (.iand, 1) := by decide +kernel
theorem dL_law_40 : decode cL_law 40 = .ok (.tableswitch 1562 0 40 #[180, 205, 242, 279, 304, 353, 378, 415, 452, 477, 502, 527, 540, 553, 578, 615, 652, 677, 714, 739, 764, 777, 803, 853, 903, 928, 953, 990, 1039, 1076, 1113, 1162, 1175, 1188, 1213, 1274, 1323, 1372, 1439, 1512, 1537], 180) := by decide +kernel
theorem dL_law_220 : decode cL_law 220 = .ok (.aload_n 1, 1) := by decide +kernel
theorem dL_law_221 : decode cL_law 221 = .ok (.aload_n 0, 1) := by decide +kernel
theorem dL_law_222 : decode cL_law 222 = .ok (.iload 4, 2) := by decide +kernel
theorem dL_law_224 : decode cL_law 224 = .ok (.iconst 1, 1) := by decide +kernel
theorem dL_law_225 : decode cL_law 225 = .ok (.iadd, 1) := by decide +kernel
theorem dL_law_226 : decode cL_law 226 = .ok (.iaload, 1) := by decide +kernel
theorem dL_law_227 : decode cL_law 227 = .ok (.invokevirtual 21, 3) := by decide +kernel
